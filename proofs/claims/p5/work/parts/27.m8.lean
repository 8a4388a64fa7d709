/-! how many nodes and ones there are, in the reference -/
def SNp (ws : va_W) (m : Nat) (d h g : Int) : Prop := ∃ n o : Int32, FLD ws m 10 45 (.int n) ∧ FLD ws m 10 46 (.int o) ∧ 0 ≤ n.toInt ∧ g ≤ n.toInt ∧ h ≤ o.toInt ∧ o.toInt ≤ 20 ∧ n.toInt + d ≤ 2 * o.toInt ∧ 0 ≤ d ∧ 0 ≤ h
def SNI (ws : va_W) (m : Nat) (d h g : Int) : Prop := 0 ≤ d ∧ SNp ws m (d + 1) h g
def SNL (ws : va_W) (m : Nat) (d h g : Int) (a : Int32) : Prop := ∃ n o : Int32, FLD ws m 10 45 (.int n) ∧ FLD ws m 10 46 (.int o) ∧ (0 ≤ n.toInt ∧ g ≤ n.toInt ∧ h ≤ o.toInt ∧ o.toInt ≤ 20 ∧ n.toInt + d ≤ 2 * o.toInt ∧ 0 ≤ d ∧ 0 ≤ h) ∧ 0 ≤ a.toInt ∧ a.toInt < n.toInt
def SNT (ws : va_W) (m : Nat) (d h g : Int) : Prop := ∃ n o t : Int32, FLD ws m 10 45 (.int n) ∧ FLD ws m 10 46 (.int o) ∧ FLD ws m 10 48 (.int t) ∧ (0 ≤ n.toInt ∧ g ≤ n.toInt ∧ h ≤ o.toInt ∧ o.toInt ≤ 20 ∧ n.toInt + d ≤ 2 * o.toInt ∧ 0 ≤ d ∧ 0 ≤ h) ∧ 0 ≤ t.toInt ∧ t.toInt < n.toInt
def LTN (ws : va_W) (m : Nat) (a : Int32) : Prop := ∃ n : Int32, FLD ws m 10 45 (.int n) ∧ 0 ≤ a.toInt ∧ a.toInt < n.toInt
section OVER8
variable {wr : List (Nat × Nat)} {wa : List Nat} {Ps : PSI} {ws ws' : va_W} {m : Nat} {d h g : Int} {a : Int32}
theorem SNp.over (hF : FR wr wa Ps ws ws') (x : SNp ws m d h g) (hn : (10, 45) ∉ wr ∧ (10, 46) ∉ wr) : SNp ws' m d h g := by
  obtain ⟨n, o, h1, h2, h3⟩ := x
  exact ⟨n, o, FLD.over hF h1 hn.1, FLD.over hF h2 hn.2, h3⟩
theorem SNI.over (hF : FR wr wa Ps ws ws') (x : SNI ws m d h g) (hn : (10, 45) ∉ wr ∧ (10, 46) ∉ wr) : SNI ws' m d h g := ⟨x.1, x.2.over hF hn⟩
theorem SNL.over (hF : FR wr wa Ps ws ws') (x : SNL ws m d h g a) (hn : (10, 45) ∉ wr ∧ (10, 46) ∉ wr) : SNL ws' m d h g a := by
  obtain ⟨n, o, h1, h2, h3⟩ := x
  exact ⟨n, o, FLD.over hF h1 hn.1, FLD.over hF h2 hn.2, h3⟩
theorem SNT.over (hF : FR wr wa Ps ws ws') (x : SNT ws m d h g) (hn : (10, 45) ∉ wr ∧ (10, 46) ∉ wr ∧ (10, 48) ∉ wr) : SNT ws' m d h g := by
  obtain ⟨n, o, t, h1, h2, h3, h4⟩ := x
  exact ⟨n, o, t, FLD.over hF h1 hn.1, FLD.over hF h2 hn.2.1, FLD.over hF h3 hn.2.2, h4⟩
theorem LTN.over (hF : FR wr wa Ps ws ws') (x : LTN ws m a) (hn : (10, 45) ∉ wr) : LTN ws' m a := by
  obtain ⟨n, h1, h3⟩ := x
  exact ⟨n, FLD.over hF h1 hn, h3⟩
theorem SNp.weak {d' h' g' : Int} (x : SNp ws m d h g) (e : 0 ≤ d' ∧ d' ≤ d ∧ 0 ≤ h' ∧ h' ≤ h ∧ g' ≤ g) : SNp ws m d' h' g' := by
  obtain ⟨n, o, h1, h2, h3⟩ := x
  exact ⟨n, o, h1, h2, by omega⟩
theorem SNp.sni (x : SNp ws m d h g) {d' h' g' : Int} (e : 0 ≤ d' ∧ d' + 1 ≤ d ∧ 0 ≤ h' ∧ h' ≤ h ∧ g' ≤ g) : SNI ws m d' h' g' := ⟨e.1, x.weak (by omega)⟩
theorem SNT.weak {d' h' g' : Int} (x : SNT ws m d h g) (e : 0 ≤ d' ∧ d' ≤ d ∧ 0 ≤ h' ∧ h' ≤ h ∧ g' ≤ g) : SNT ws m d' h' g' := by
  obtain ⟨n, o, t, h1, h2, h3, h4, h5⟩ := x
  exact ⟨n, o, t, h1, h2, h3, by omega, h5⟩
theorem SNT.sn (x : SNT ws m d h g) : SNp ws m d h g := by
  obtain ⟨n, o, t, h1, h2, h3, h4, h5⟩ := x
  exact ⟨n, o, h1, h2, h4⟩
theorem SNL.sn (x : SNL ws m d h g a) : SNp ws m d h (max g (a.toInt + 1)) ∧ 0 ≤ a.toInt := by
  obtain ⟨n, o, h1, h2, h4, h5⟩ := x
  exact ⟨⟨n, o, h1, h2, by omega⟩, h5.1⟩
theorem SNL.weak {d' h' g' : Int} (x : SNL ws m d h g a) (e : 0 ≤ d' ∧ d' ≤ d ∧ 0 ≤ h' ∧ h' ≤ h ∧ g' ≤ g) : SNL ws m d' h' g' a := by
  obtain ⟨n, o, h1, h2, h4, h5⟩ := x
  exact ⟨n, o, h1, h2, by omega, h5⟩
theorem SNp.le (x : SNp ws m d h g) : h ≤ 20 ∧ 0 ≤ d ∧ 0 ≤ h := by
  obtain ⟨n, o, h1, h2, h4⟩ := x
  omega
theorem SNL.le (x : SNL ws m d h g a) : h ≤ 20 ∧ 0 ≤ d ∧ 0 ≤ h := by
  obtain ⟨n, o, h1, h2, h4, h5⟩ := x
  omega
theorem SNp.ltn (x : SNp ws m d h (max g (a.toInt + 1))) (h0 : 0 ≤ a.toInt) : LTN ws m a := by
  obtain ⟨n, o, h1, h2, h4⟩ := x
  exact ⟨n, h1, h0, by omega⟩
theorem SNL.snt (x : SNL ws m d h g a) (ht : FLD ws m 10 48 (.int a)) : SNT ws m d h g := by
  obtain ⟨n, o, h1, h2, h4, h5⟩ := x
  exact ⟨n, o, a, h1, h2, ht, h4, h5⟩
end OVER8
section FACTS8
variable {s : State} {H : Heap} {locs : List Loc} {D : va_G} {cy : Nat → ClassId} {A : Nat → Prop} {ws w0 : va_W} {G : Nat → Nat → CTy} {Ps P0 : PSI} {wr : List (Nat × Nat)} {wa : List Nat} {m : Nat} {d h g : Int} {a n o t : Int32}
theorem SNp.getN (hw : WD D cy G A s wr wa P0 w0 Ps ws H locs) (x : SNp ws m d h g) (hn : FLD ws m 10 45 (.int n)) : ∃ o : Int32, FLD ws m 10 46 (.int o) ∧ RI o 0 20 ∧ 0 ≤ n.toInt ∧ g ≤ n.toInt ∧ h ≤ o.toInt ∧ n.toInt + d ≤ 2 * o.toInt ∧ 0 ≤ d ∧ 0 ≤ h := by
  obtain ⟨n', o, h1, h2, h3⟩ := x
  cases FLD.inj hw.2.2.1 h1 hn
  exact ⟨o, h2, ⟨by omega, by omega⟩, by omega⟩
theorem SNp.getO (hw : WD D cy G A s wr wa P0 w0 Ps ws H locs) (x : SNp ws m d h g) (ho : FLD ws m 10 46 (.int o)) : ∃ n : Int32, FLD ws m 10 45 (.int n) ∧ RI n 0 40 ∧ RI o 0 20 ∧ g ≤ n.toInt ∧ h ≤ o.toInt ∧ n.toInt + d ≤ 2 * o.toInt ∧ 0 ≤ d ∧ 0 ≤ h := by
  obtain ⟨n, o', h1, h2, h3⟩ := x
  cases FLD.inj hw.2.2.1 h2 ho
  exact ⟨n, h1, ⟨by omega, by omega⟩, ⟨by omega, by omega⟩, by omega⟩
theorem SNT.top (hw : WD D cy G A s wr wa P0 w0 Ps ws H locs) (x : SNT ws m d h g) (ht : FLD ws m 10 48 (.int t)) : SNL ws m d h g t := by
  obtain ⟨n, o, t', h1, h2, h3, h4, h5⟩ := x
  cases FLD.inj hw.2.2.1 h3 ht
  exact ⟨n, o, h1, h2, h4, h5⟩
theorem LTN.get (hw : WD D cy G A s wr wa P0 w0 Ps ws H locs) (x : LTN ws m a) (hn : FLD ws m 10 45 (.int n)) : 0 ≤ a.toInt ∧ a.toInt < n.toInt := by
  obtain ⟨n', h1, h3⟩ := x
  cases FLD.inj hw.2.2.1 h1 hn
  exact h3
theorem SNL.ltn (x : SNL ws m d h g a) : LTN ws m a := by
  obtain ⟨n, o, h1, h2, h4, h5⟩ := x
  exact ⟨n, h1, h5⟩
theorem SNL.rng (x : SNL ws m d h g a) (e : 1 ≤ d) : RI a 0 39 := by
  obtain ⟨n, o, h1, h2, h4, h5⟩ := x
  exact ⟨by omega, by omega⟩
end FACTS8
/-! a node more -/
def CLs (f : Nat → Int32) (k : Nat) : Prop := (((f (4 * k)).toInt = 1 ∨ (f (4 * k)).toInt = 2 ∨ (f (4 * k)).toInt = 3) → 0 ≤ (f (4 * k + 1)).toInt ∧ (f (4 * k + 1)).toInt < k) ∧ (((f (4 * k)).toInt = 2 ∨ (f (4 * k)).toInt = 3) → 0 ≤ (f (4 * k + 2)).toInt ∧ (f (4 * k + 2)).toInt < k)
def SYp (n : Int32) (f : Nat → Int32) : Prop := ∀ q, q < 60 → q ≠ n.toNatClampNeg → CLs f q
theorem SY_upd {n : Int32} {f : Nat → Int32} {j : Nat} {v : Int32} (h : SYp n f) (hj : 4 * n.toNatClampNeg ≤ j ∧ j ≤ 4 * n.toNatClampNeg + 3) : SYp n (upd f j v) := by
  intro q hq hne
  have e : ∀ i, i ≠ j → upd f j v i = f i := fun i hi => pk_un hi
  unfold CLs
  rw [e (4 * q) (by omega), e (4 * q + 1) (by omega), e (4 * q + 2) (by omega)]
  exact h q hq hne
theorem SY_end {n w a b : Int32} {f : Nat → Int32} (h : SYp n f ∧ f (4 * n.toNatClampNeg) = w ∧ f (4 * n.toNatClampNeg + 1) = a ∧ f (4 * n.toNatClampNeg + 2) = b) (c : ((w.toInt = 1 ∨ w.toInt = 2 ∨ w.toInt = 3) → 0 ≤ a.toInt ∧ a.toInt < n.toInt) ∧ ((w.toInt = 2 ∨ w.toInt = 3) → 0 ≤ b.toInt ∧ b.toInt < n.toInt)) (hn : 0 ≤ n.toInt) : RND f := by
  intro q hq
  obtain ⟨h1, h2, h3, h4⟩ := h
  by_cases e : q = n.toNatClampNeg
  · have e2 : (n.toNatClampNeg : Int) = n.toInt := by show ((n.toInt.toNat : Nat) : Int) = _; omega
    rw [e, h2, h3, h4, e2]
    exact c
  · exact h1 q hq e
theorem SNW.over {wr : List (Nat × Nat)} {wa : List Nat} {Ps : PSI} {ws ws' : va_W} {m : Nat} {d h g : Int} {a : Int32} {P : Prop} (hF : FR wr wa Ps ws ws') (x : SNL ws m d h g a ∧ P) (hn : (10, 45) ∉ wr ∧ (10, 46) ∉ wr) : SNL ws' m d h g a ∧ P := ⟨x.1.over hF hn, x.2⟩
abbrev wr_X10_begin__2 : List (Nat × Nat) := [(10, 0), (10, 2), (10, 3), (10, 4), (10, 5), (10, 6), (10, 7), (10, 8), (10, 9), (10, 10), (10, 12)]
abbrev wa_X10_begin__2 : List Nat := []
set_option maxHeartbeats 4000000 in
set_option maxRecDepth 100000 in
theorem c_X10_begin__2 (l : Launch) (D : va_G) (cy : Nat → ClassId) (z : Nat → Nat) (sz : Nat) (Ps : PSI) (w0 : va_W) (hT : HT cy GG Ps w0) (p0 : Nat) (p1 : Int32) (h_p0 : (p0, 55) ∈ Ps) (r_p1 : RI p1 200 200) : Met l yX10_begin (Cond.code yX10_begin cX10_begin 2 none :: gT) ({ frames := 3, cells := 0, slots := 0, locals := 600 } : Room) (va_Pc [.ref p0, .int p1] (PRE D cy z w0 sz)) (va_Qv (fun (u : va_W) => ((∃ v9 : Int32, FLD u p0 10 2 (.int v9) ∧ RI v9 0 0) ∧ True) ∧ HT cy GG Ps u ∧ FR wr_X10_begin__2 wa_X10_begin__2 Ps w0 u) (BB D cy (va_A w0 sz) (fun (u : va_W) => u)) (va_A w0 sz)) 0 0 (va_A w0 sz) := by
  refine Met.ofW (cc := cX10_begin) (maxL := 2) (ret := none) (by decide) rfl ?_
  intro p e s m args below meth c s₁ B hml hv
  obtain ⟨rfl, hsz, hP, hK, hD0, hSD⟩ := hv
  have hx := B.exec
  have hb := B.bytes
  have hr := B.returns
  have hlocks := B.notSynchronized
  have hts : ∀ w ∈ gT, w.before _ s = true := fun w h => atoms_spec (ws := Cond.code yX10_begin cX10_begin 2 none :: gT) B.pre w (List.mem_cons_of_mem _ h)
  have hown : s.vm.findClass RX10 = some m.cls := findClass_of_methodNamed B.named
  subst hsz
  have hD := hD0.self (sz := s.heap.size)
  generalize hAe : va_A w0 s.heap.size = A at hD hSD ⊢
  have hA : ∀ q : Nat, s.heap.size ≤ q → A q := fun q h => by rw [← hAe]; exact Or.inr h
  have hl := lv_entry ([.ref p0, .int p1]) (n := 2) (Nat.le_of_ble_eq_true rfl)
  rw [lg_entry_eq]
  generalize (lg_sl ([.ref p0, .int p1]) ++ List.replicate (2 - (lg_sl ([.ref p0, .int p1])).length) Slot.unset).toArray = ls at hl ⊢
  have hl : lv_has ls 2 [(0, .ref p0), (1, .int p1)] := hl
  refine nameQ (fun Q hQ => ?_)
  have hw : WD D cy GG A s wr_X10_begin__2 wa_X10_begin__2 Ps w0 Ps w0 s.heap [] := ⟨hT, hP, hD, va_S.rf, FR.rf, hT.1, [], (List.append_nil _).symm⟩
  refine lv_aload_n hx hb dX10_begin_0 rfl (lv_at hl 0 rfl) ?_
  refine lv_iconst (v := 0) hx hb dX10_begin_1 (by decide) ?_
  refine tg_put (ci := 10) (ts := ty_MODEL) (v := .int 0) (ty := .int) (C := RX10) (T := TX10) (N := 49) hx hb hts inX10 tyX10 tyX10_ok nmX10 hown hK hw h_p0 rfl rfl 0 (by decide) (hts _ tw_1137) (fun _ h9 => h9) rfl (by decide +kernel) rfl rfl (ft := vI (-2147483648) 2147483647) rfl ⟨_, rfl, (rl_0.to (by decide))⟩ (by decide) dX10_begin_2 (fun ws H locs hw n_k_1 hF9 => ?_)
  refine lv_aload_n hx hb dX10_begin_5 rfl (lv_at hl 0 rfl) ?_
  refine lv_aload_n hx hb dX10_begin_6 rfl (lv_at hl 0 rfl) ?_
  refine tk_i (va_runV (As := []) (rest := [.ref p0]) ⟨hx, hb, hml, hown, hts⟩ (c_X10_take l D cy z H.size Ps ws hw.1 p0 h_p0) (cwV 0 hts (gV tw_1294 tw_1296 ts_39 tw_15 tw_1297) rfl rfl rfl (by decide +kernel) ⟨Nat.le_of_ble_eq_true rfl, Nat.le_of_ble_eq_true rfl⟩) (tg_preV hw hK hSD hA (ci := 10) (q := (RX10, TX10, 49)) rfl h_p0 rfl) rfl rfl hl.1 rfl (lv_room (Nat.le_of_ble_eq_true rfl)) dX10_begin_7 ⟨Nat.le_of_ble_eq_true rfl, Nat.le_of_ble_eq_true rfl⟩) hw hA ⟨by decide, by decide⟩ (fun v_2 ws H locs hp_v_2 hw hF9 => ?_)
  have n_k_1 := FLD.over hF9 n_k_1 (by decide)
  have r_v_2 : RI v_2 0 940 := hp_v_2.1
  by_cases c9_v_2 : v_2 = 0
  · have r_v_2 : RI v_2 0 0 := by rw [c9_v_2]; exact rl_0
    obtain ⟨v_3, m_v_3, r_v_3⟩ := ((hp_v_2.2.1 c9_v_2).1)
    refine tg_put (ci := 10) (ts := ty_MODEL) (v := .int v_2) (ty := .int) (C := RX10) (T := TX10) (N := 49) hx hb hts inX10 tyX10 tyX10_ok nmX10 hown hK hw h_p0 rfl rfl 3 (by decide) (hts _ tw_1140) (fun _ h9 => h9) rfl (by decide +kernel) rfl rfl (ft := vI 0 940) rfl ⟨_, rfl, (r_v_2.to (by decide))⟩ (by decide) dX10_begin_10 (fun ws H locs hw n_k_4 hF9 => ?_)
    have n_k_1 := FLD.over hF9 n_k_1 (by decide)
    have m_v_3 := FLD.over hF9 m_v_3 (by decide)
    refine lv_aload_n hx hb dX10_begin_13 rfl (lv_at hl 0 rfl) ?_
    refine lv_iload_n hx hb dX10_begin_14 rfl (lv_at hl 1 rfl) ?_
    refine tg_put (ci := 10) (ts := ty_MODEL) (v := .int p1) (ty := .int) (C := RX10) (T := TX10) (N := 49) hx hb hts inX10 tyX10 tyX10_ok nmX10 hown hK hw h_p0 rfl rfl 4 (by decide) (hts _ tw_1141) (fun _ h9 => h9) rfl (by decide +kernel) rfl rfl (ft := vI (-2147483648) 2147483647) rfl ⟨_, rfl, (r_p1.to (by decide))⟩ (by decide) dX10_begin_15 (fun ws H locs hw n_k_5 hF9 => ?_)
    have n_k_1 := FLD.over hF9 n_k_1 (by decide)
    have m_v_3 := FLD.over hF9 m_v_3 (by decide)
    have n_k_4 := FLD.over hF9 n_k_4 (by decide)
    refine lv_aload_n hx hb dX10_begin_18 rfl (lv_at hl 0 rfl) ?_
    refine lv_iconst (v := 0) hx hb dX10_begin_19 (by decide) ?_
    refine tg_put (ci := 10) (ts := ty_MODEL) (v := .int 0) (ty := .int) (C := RX10) (T := TX10) (N := 49) hx hb hts inX10 tyX10 tyX10_ok nmX10 hown hK hw h_p0 rfl rfl 10 (by decide) (hts _ tw_1147) (fun _ h9 => h9) rfl (by decide +kernel) rfl rfl (ft := vI (-2147483648) 2147483647) rfl ⟨_, rfl, (rl_0.to (by decide))⟩ (by decide) dX10_begin_20 (fun ws H locs hw n_k_6 hF9 => ?_)
    have n_k_1 := FLD.over hF9 n_k_1 (by decide)
    have m_v_3 := FLD.over hF9 m_v_3 (by decide)
    have n_k_4 := FLD.over hF9 n_k_4 (by decide)
    have n_k_5 := FLD.over hF9 n_k_5 (by decide)
    refine lv_aload_n hx hb dX10_begin_23 rfl (lv_at hl 0 rfl) ?_
    refine lv_iconst (v := 0) hx hb dX10_begin_24 (by decide) ?_
    refine tg_put (ci := 10) (ts := ty_MODEL) (v := .int 0) (ty := .int) (C := RX10) (T := TX10) (N := 49) hx hb hts inX10 tyX10 tyX10_ok nmX10 hown hK hw h_p0 rfl rfl 5 (by decide) (hts _ tw_1142) (fun _ h9 => h9) rfl (by decide +kernel) rfl rfl (ft := vI 0 940) rfl ⟨_, rfl, (rl_0.to (by decide))⟩ (by decide) dX10_begin_25 (fun ws H locs hw n_k_7 hF9 => ?_)
    have n_k_1 := FLD.over hF9 n_k_1 (by decide)
    have m_v_3 := FLD.over hF9 m_v_3 (by decide)
    have n_k_4 := FLD.over hF9 n_k_4 (by decide)
    have n_k_5 := FLD.over hF9 n_k_5 (by decide)
    have n_k_6 := FLD.over hF9 n_k_6 (by decide)
    refine lv_aload_n hx hb dX10_begin_28 rfl (lv_at hl 0 rfl) ?_
    refine tk_v (va_runV (As := []) (rest := []) ⟨hx, hb, hml, hown, hts⟩ (c_X10_go l D cy z H.size Ps ws hw.1 p0 h_p0) (cwV 0 hts (gV tw_1298 tw_1300 ts_40 tw_15 tw_1301) rfl rfl rfl (by decide +kernel) ⟨Nat.le_of_ble_eq_true rfl, Nat.le_of_ble_eq_true rfl⟩) (tg_preV hw hK hSD hA (ci := 10) (q := (RX10, TX10, 49)) rfl h_p0 rfl) rfl rfl hl.1 rfl (lv_room (Nat.le_of_ble_eq_true rfl)) dX10_begin_29 ⟨Nat.le_of_ble_eq_true rfl, Nat.le_of_ble_eq_true rfl⟩) hw hA ⟨by decide, by decide⟩ (fun ws H locs hp_v_8 hw hF9 => ?_)
    have n_k_1 := FLD.over hF9 n_k_1 (by decide)
    have m_v_3 := FLD.over hF9 m_v_3 (by decide)
    have n_k_4 := FLD.over hF9 n_k_4 (by decide)
    have n_k_5 := FLD.over hF9 n_k_5 (by decide)
    have n_k_6 := FLD.over hF9 n_k_6 (by decide)
    subst hQ
    exact W.vret hx hb hr (fun t ht hW => ⟨⟨ws, rfl, ⟨⟨⟨_, m_v_3, r_v_3⟩, trivial⟩, hw.1, hw.2.2.2.2.1⟩, by rw [ht]; exact hw.2.1, va_K.moved hW.alike hK, hw.2.2.1⟩, hw.2.2.2.1.F ht⟩) hw.2.2.2.1.2.2 dX10_begin_32
  · have r_v_2 : RI v_2 1 940 := rc_neL r_v_2 rl_0 (ti_ne c9_v_2) (by decide)
    obtain ⟨v_9, m_v_9, r_v_9⟩ := ((hp_v_2.2.2 c9_v_2).1)
    refine tg_put (ci := 10) (ts := ty_MODEL) (v := .int v_2) (ty := .int) (C := RX10) (T := TX10) (N := 49) hx hb hts inX10 tyX10 tyX10_ok nmX10 hown hK hw h_p0 rfl rfl 3 (by decide) (hts _ tw_1140) (fun _ h9 => h9) rfl (by decide +kernel) rfl rfl (ft := vI 0 940) rfl ⟨_, rfl, (r_v_2.to (by decide))⟩ (by decide) dX10_begin_10 (fun ws H locs hw n_k_10 hF9 => ?_)
    have n_k_1 := FLD.over hF9 n_k_1 (by decide)
    have m_v_9 := FLD.over hF9 m_v_9 (by decide)
    refine lv_aload_n hx hb dX10_begin_13 rfl (lv_at hl 0 rfl) ?_
    refine lv_iload_n hx hb dX10_begin_14 rfl (lv_at hl 1 rfl) ?_
    refine tg_put (ci := 10) (ts := ty_MODEL) (v := .int p1) (ty := .int) (C := RX10) (T := TX10) (N := 49) hx hb hts inX10 tyX10 tyX10_ok nmX10 hown hK hw h_p0 rfl rfl 4 (by decide) (hts _ tw_1141) (fun _ h9 => h9) rfl (by decide +kernel) rfl rfl (ft := vI (-2147483648) 2147483647) rfl ⟨_, rfl, (r_p1.to (by decide))⟩ (by decide) dX10_begin_15 (fun ws H locs hw n_k_11 hF9 => ?_)
    have n_k_1 := FLD.over hF9 n_k_1 (by decide)
    have m_v_9 := FLD.over hF9 m_v_9 (by decide)
    have n_k_10 := FLD.over hF9 n_k_10 (by decide)
    refine lv_aload_n hx hb dX10_begin_18 rfl (lv_at hl 0 rfl) ?_
    refine lv_iconst (v := 0) hx hb dX10_begin_19 (by decide) ?_
    refine tg_put (ci := 10) (ts := ty_MODEL) (v := .int 0) (ty := .int) (C := RX10) (T := TX10) (N := 49) hx hb hts inX10 tyX10 tyX10_ok nmX10 hown hK hw h_p0 rfl rfl 10 (by decide) (hts _ tw_1147) (fun _ h9 => h9) rfl (by decide +kernel) rfl rfl (ft := vI (-2147483648) 2147483647) rfl ⟨_, rfl, (rl_0.to (by decide))⟩ (by decide) dX10_begin_20 (fun ws H locs hw n_k_12 hF9 => ?_)
    have n_k_1 := FLD.over hF9 n_k_1 (by decide)
    have m_v_9 := FLD.over hF9 m_v_9 (by decide)
    have n_k_10 := FLD.over hF9 n_k_10 (by decide)
    have n_k_11 := FLD.over hF9 n_k_11 (by decide)
    refine lv_aload_n hx hb dX10_begin_23 rfl (lv_at hl 0 rfl) ?_
    refine lv_iconst (v := 0) hx hb dX10_begin_24 (by decide) ?_
    refine tg_put (ci := 10) (ts := ty_MODEL) (v := .int 0) (ty := .int) (C := RX10) (T := TX10) (N := 49) hx hb hts inX10 tyX10 tyX10_ok nmX10 hown hK hw h_p0 rfl rfl 5 (by decide) (hts _ tw_1142) (fun _ h9 => h9) rfl (by decide +kernel) rfl rfl (ft := vI 0 940) rfl ⟨_, rfl, (rl_0.to (by decide))⟩ (by decide) dX10_begin_25 (fun ws H locs hw n_k_13 hF9 => ?_)
    have n_k_1 := FLD.over hF9 n_k_1 (by decide)
    have m_v_9 := FLD.over hF9 m_v_9 (by decide)
    have n_k_10 := FLD.over hF9 n_k_10 (by decide)
    have n_k_11 := FLD.over hF9 n_k_11 (by decide)
    have n_k_12 := FLD.over hF9 n_k_12 (by decide)
    refine lv_aload_n hx hb dX10_begin_28 rfl (lv_at hl 0 rfl) ?_
    refine tk_v (va_runV (As := []) (rest := []) ⟨hx, hb, hml, hown, hts⟩ (c_X10_go l D cy z H.size Ps ws hw.1 p0 h_p0) (cwV 0 hts (gV tw_1298 tw_1300 ts_40 tw_15 tw_1301) rfl rfl rfl (by decide +kernel) ⟨Nat.le_of_ble_eq_true rfl, Nat.le_of_ble_eq_true rfl⟩) (tg_preV hw hK hSD hA (ci := 10) (q := (RX10, TX10, 49)) rfl h_p0 rfl) rfl rfl hl.1 rfl (lv_room (Nat.le_of_ble_eq_true rfl)) dX10_begin_29 ⟨Nat.le_of_ble_eq_true rfl, Nat.le_of_ble_eq_true rfl⟩) hw hA ⟨by decide, by decide⟩ (fun ws H locs hp_v_14 hw hF9 => ?_)
    have n_k_1 := FLD.over hF9 n_k_1 (by decide)
    have m_v_9 := FLD.over hF9 m_v_9 (by decide)
    have n_k_10 := FLD.over hF9 n_k_10 (by decide)
    have n_k_11 := FLD.over hF9 n_k_11 (by decide)
    have n_k_12 := FLD.over hF9 n_k_12 (by decide)
    subst hQ
    exact W.vret hx hb hr (fun t ht hW => ⟨⟨ws, rfl, ⟨⟨⟨_, m_v_9, r_v_9⟩, trivial⟩, hw.1, hw.2.2.2.2.1⟩, by rw [ht]; exact hw.2.1, va_K.moved hW.alike hK, hw.2.2.1⟩, hw.2.2.2.1.F ht⟩) hw.2.2.2.1.2.2 dX10_begin_32
abbrev wr_X10_readSaid__8 : List (Nat × Nat) := [(10, 10), (10, 11)]
abbrev wa_X10_readSaid__8 : List Nat := []
set_option maxHeartbeats 4000000 in
set_option maxRecDepth 100000 in
theorem c_X10_readSaid__8 (l : Launch) (D : va_G) (cy : Nat → ClassId) (z : Nat → Nat) (sz : Nat) (Ps : PSI) (w0 : va_W) (hT : HT cy GG Ps w0) (p0 : Nat) (f0_47 : Int32) (gd : Int) (gh : Int) (gg : Int) (h_p0 : (p0, 55) ∈ Ps) (r_f0_47 : RI f0_47 8 8) (m_f0_47 : FLD w0 p0 10 47 (.int f0_47)) (x_SN_p0_gd_gh_gg : SNp w0 p0 (gd) (gh) (gg)) : Met l yX10_readSaid (Cond.code yX10_readSaid cX10_readSaid 4 (some .boolean) :: gT) ({ frames := 4, cells := 0, slots := 0, locals := 800 } : Room) (va_Pc [.ref p0] (PRE D cy z w0 sz)) (va_Qi (fun (r : Int32) (u : va_W) => (RI r 0 0 ∧ (r = 0 → (∃ v9 : Int32, FLD u p0 10 47 (.int v9) ∧ RI v9 8 8) ∧ True) ∧ (¬ r = 0 → SNT u p0 (gd+1) (gh+1) (gg) ∧ True)) ∧ HT cy GG Ps u ∧ FR wr_X10_readSaid__8 wa_X10_readSaid__8 Ps w0 u) (BB D cy (va_A w0 sz) (fun (u : va_W) => u)) (va_A w0 sz)) 0 0 (va_A w0 sz) := by
  refine Met.ofW (cc := cX10_readSaid) (maxL := 4) (ret := (some .boolean)) (by decide) rfl ?_
  intro p e s m args below meth c s₁ B hml hv
  obtain ⟨rfl, hsz, hP, hK, hD0, hSD⟩ := hv
  have hx := B.exec
  have hb := B.bytes
  have hr := B.returns
  have hlocks := B.notSynchronized
  have hts : ∀ w ∈ gT, w.before _ s = true := fun w h => atoms_spec (ws := Cond.code yX10_readSaid cX10_readSaid 4 (some .boolean) :: gT) B.pre w (List.mem_cons_of_mem _ h)
  have hown : s.vm.findClass RX10 = some m.cls := findClass_of_methodNamed B.named
  subst hsz
  have hD := hD0.self (sz := s.heap.size)
  generalize hAe : va_A w0 s.heap.size = A at hD hSD ⊢
  have hA : ∀ q : Nat, s.heap.size ≤ q → A q := fun q h => by rw [← hAe]; exact Or.inr h
  have hl := lv_entry ([.ref p0]) (n := 4) (Nat.le_of_ble_eq_true rfl)
  rw [lg_entry_eq]
  generalize (lg_sl ([.ref p0]) ++ List.replicate (4 - (lg_sl ([.ref p0])).length) Slot.unset).toArray = ls at hl ⊢
  have hl : lv_has ls 4 [(0, .ref p0)] := hl
  refine nameQ (fun Q hQ => ?_)
  have hw : WD D cy GG A s wr_X10_readSaid__8 wa_X10_readSaid__8 Ps w0 Ps w0 s.heap [] := ⟨hT, hP, hD, va_S.rf, FR.rf, hT.1, [], (List.append_nil _).symm⟩
  have B30 : ∀ (x1 : Int32) (x2 : Int32) (z0_47 : Int32) (ws : va_W) (H : Heap) (locs : List Loc) (ls : Array Slot), RI x1 0 1 → RI x2 18 28 → RI z0_47 8 8 → FLD ws p0 10 47 (.int z0_47) → SNp ws p0 (gd) (gh) (gg) → WD D cy GG A s wr_X10_readSaid__8 wa_X10_readSaid__8 Ps w0 Ps ws H locs → lv_has ls 4 [(0, .ref p0), (1, .int x1), (2, .int x2)] → W p l e (headSpec (Cond.code yX10_readSaid cX10_readSaid 4 (some .boolean) :: gT) ({ frames := 4, cells := 0, slots := 0, locals := 800 } : Room)).room s m ([.ref p0] : List Value).toArray below meth c H locs 0 0 Q (F0 m 30 ls []) := by
    intro x1 x2 z0_47 ws H locs ls r_x1 r_x2 r_z0_47 m_z0_47 x_SN_p0_gd_gh_gg hw hl
    refine lv_iload_n hx hb dX10_readSaid_30 rfl (lv_at hl 1 rfl) ?_
    refine lv_if_ne (tgt := 46) hx hb dX10_readSaid_31 (by decide) (fun c_31 => ?_) (fun c_31 => ?_)
    · have r_x1 : RI x1 1 1 := rc_neL r_x1 rl_0 (ti_ne c_31) (by decide)
      refine lv_aload_n hx hb dX10_readSaid_46 rfl (lv_at hl 0 rfl) ?_
      refine tg_get (ci := 10) (ts := ty_MODEL) (C := RX10) (T := TX10) (N := 49) hx hb hts inX10 hown hK hw h_p0 rfl rfl 46 (by decide) (hts _ tw_1183) (fun _ h9 => h9) (ft := vI (-2147483648) 2147483647) rfl dX10_readSaid_47 (fun u_1 hv_u_1 m_u_1 => ?_)
      obtain ⟨vu_1, rfl, r_vu_1⟩ := hv_u_1
      obtain ⟨n9, hn9, rn9, r_vu_1, b9⟩ := SNp.getO hw x_SN_p0_gd_gh_gg m_u_1
      refine lv_bipush (v := 20) hx hb dX10_readSaid_50 (by decide) ?_
      refine lv_icmp_eq (tgt := 64) hx hb dX10_readSaid_52 (by decide) (fun c_52 => ?_) (fun c_52 => ?_)
      · have r_vu_1 : RI vu_1 20 20 := rc_eq1 r_vu_1 rl_20 (ti_eq c_52) (by decide)
        refine lv_aload_n hx hb dX10_readSaid_64 rfl (lv_at hl 0 rfl) ?_
        refine lv_iconst (v := 4) hx hb dX10_readSaid_65 (by decide) ?_
        refine tk_i (va_runV (As := [.int 4]) (rest := []) ⟨hx, hb, hml, hown, hts⟩ (c_X10_bad l D cy z H.size Ps ws hw.1 p0 4 h_p0 (rl_4.to (by decide))) (cwV 1 hts (gV tw_1336 tw_1338 ts_46 tw_15 tw_1339) rfl rfl rfl (by decide +kernel) ⟨Nat.le_of_ble_eq_true rfl, Nat.le_of_ble_eq_true rfl⟩) (tg_preV hw hK hSD hA (ci := 10) (q := (RX10, TX10, 49)) rfl h_p0 rfl) rfl rfl hl.1 rfl (lv_room (Nat.le_of_ble_eq_true rfl)) dX10_readSaid_66 ⟨Nat.le_of_ble_eq_true rfl, Nat.le_of_ble_eq_true rfl⟩) hw hA ⟨by decide, by decide⟩ (fun v_2 ws H locs hp_v_2 hw hF9 => ?_)
        have m_z0_47 := FLD.over hF9 m_z0_47 (by decide)
        have m_u_1 := FLD.over hF9 m_u_1 (by decide)
        have hn9 := FLD.over hF9 hn9 (by decide)
        have x_SN_p0_gd_gh_gg := SNp.over hF9 x_SN_p0_gd_gh_gg (by decide)
        have r_v_2 : RI v_2 0 0 := hp_v_2.1
        subst hQ
        exact W.zret (v := v_2) hx hb hr (tq_nz (r_v_2.to (by decide))) (fun t ht hW => ⟨⟨v_2, ws, rfl, ⟨⟨r_v_2.to (by decide), (fun h0 => ⟨⟨_, m_z0_47, r_z0_47⟩, trivial⟩), (fun h0 => absurd (Int32.toInt_inj.mp (by have h8 := r_v_2; unfold RI at h8; rw [Int32.toInt_zero]; omega)) h0)⟩, hw.1, hw.2.2.2.2.1⟩, by rw [ht]; exact hw.2.1, va_K.moved hW.alike hK, hw.2.2.1⟩, hw.2.2.2.1.F ht⟩) hw.2.2.2.1.2.2 dX10_readSaid_69
      · have r_vu_1 : RI vu_1 0 19 := rc_neU r_vu_1 rl_20 (ti_ne c_52) (by decide)
        refine lv_aload_n hx hb dX10_readSaid_55 rfl (lv_at hl 0 rfl) ?_
        refine tg_mem (ci := 10) (C := RX10) (T := TX10) (N := 49) hx hb hts inX10 hown hK hw 47 m_z0_47 rfl (by decide) (hts _ tw_1184) (fun _ h9 => h9) dX10_readSaid_56 ?_
        refine lv_bipush (v := 8) hx hb dX10_readSaid_59 (by decide) ?_
        refine lv_icmp_ne (tgt := 70) hx hb dX10_readSaid_61 (by decide) (fun c_61 => ?_) (fun c_61 => ?_)
        · exact absurd (r_z0_47.eq.trans rl_8.eq.symm) ((ti_ne c_61))
        · refine lv_aload_n hx hb dX10_readSaid_64 rfl (lv_at hl 0 rfl) ?_
          refine lv_iconst (v := 4) hx hb dX10_readSaid_65 (by decide) ?_
          refine tk_i (va_runV (As := [.int 4]) (rest := []) ⟨hx, hb, hml, hown, hts⟩ (c_X10_bad l D cy z H.size Ps ws hw.1 p0 4 h_p0 (rl_4.to (by decide))) (cwV 1 hts (gV tw_1336 tw_1338 ts_46 tw_15 tw_1339) rfl rfl rfl (by decide +kernel) ⟨Nat.le_of_ble_eq_true rfl, Nat.le_of_ble_eq_true rfl⟩) (tg_preV hw hK hSD hA (ci := 10) (q := (RX10, TX10, 49)) rfl h_p0 rfl) rfl rfl hl.1 rfl (lv_room (Nat.le_of_ble_eq_true rfl)) dX10_readSaid_66 ⟨Nat.le_of_ble_eq_true rfl, Nat.le_of_ble_eq_true rfl⟩) hw hA ⟨by decide, by decide⟩ (fun v_3 ws H locs hp_v_3 hw hF9 => ?_)
          have m_z0_47 := FLD.over hF9 m_z0_47 (by decide)
          have m_u_1 := FLD.over hF9 m_u_1 (by decide)
          have hn9 := FLD.over hF9 hn9 (by decide)
          have x_SN_p0_gd_gh_gg := SNp.over hF9 x_SN_p0_gd_gh_gg (by decide)
          have r_v_3 : RI v_3 0 0 := hp_v_3.1
          subst hQ
          exact W.zret (v := v_3) hx hb hr (tq_nz (r_v_3.to (by decide))) (fun t ht hW => ⟨⟨v_3, ws, rfl, ⟨⟨r_v_3.to (by decide), (fun h0 => ⟨⟨_, m_z0_47, r_z0_47⟩, trivial⟩), (fun h0 => absurd (Int32.toInt_inj.mp (by have h8 := r_v_3; unfold RI at h8; rw [Int32.toInt_zero]; omega)) h0)⟩, hw.1, hw.2.2.2.2.1⟩, by rw [ht]; exact hw.2.1, va_K.moved hW.alike hK, hw.2.2.1⟩, hw.2.2.2.1.F ht⟩) hw.2.2.2.1.2.2 dX10_readSaid_69
    · have r_x1 : RI x1 0 0 := rc_eq1 r_x1 rl_0 (ti_eq c_31) (by decide)
      refine lv_iload_n hx hb dX10_readSaid_34 rfl (lv_at hl 2 rfl) ?_
      refine lv_bipush (v := 27) hx hb dX10_readSaid_35 (by decide) ?_
      refine lv_icmp_le (tgt := 46) hx hb dX10_readSaid_37 (by decide) (fun c_37 => ?_) (fun c_37 => ?_)
      · have r_x2 : RI x2 18 27 := rc_le1 r_x2 rl_27 (ti_le c_37) (by decide)
        refine lv_aload_n hx hb dX10_readSaid_46 rfl (lv_at hl 0 rfl) ?_
        refine tg_get (ci := 10) (ts := ty_MODEL) (C := RX10) (T := TX10) (N := 49) hx hb hts inX10 hown hK hw h_p0 rfl rfl 46 (by decide) (hts _ tw_1183) (fun _ h9 => h9) (ft := vI (-2147483648) 2147483647) rfl dX10_readSaid_47 (fun u_4 hv_u_4 m_u_4 => ?_)
        obtain ⟨vu_4, rfl, r_vu_4⟩ := hv_u_4
        obtain ⟨n9, hn9, rn9, r_vu_4, b9⟩ := SNp.getO hw x_SN_p0_gd_gh_gg m_u_4
        refine lv_bipush (v := 20) hx hb dX10_readSaid_50 (by decide) ?_
        refine lv_icmp_eq (tgt := 64) hx hb dX10_readSaid_52 (by decide) (fun c_52 => ?_) (fun c_52 => ?_)
        · have r_vu_4 : RI vu_4 20 20 := rc_eq1 r_vu_4 rl_20 (ti_eq c_52) (by decide)
          refine lv_aload_n hx hb dX10_readSaid_64 rfl (lv_at hl 0 rfl) ?_
          refine lv_iconst (v := 4) hx hb dX10_readSaid_65 (by decide) ?_
          refine tk_i (va_runV (As := [.int 4]) (rest := []) ⟨hx, hb, hml, hown, hts⟩ (c_X10_bad l D cy z H.size Ps ws hw.1 p0 4 h_p0 (rl_4.to (by decide))) (cwV 1 hts (gV tw_1336 tw_1338 ts_46 tw_15 tw_1339) rfl rfl rfl (by decide +kernel) ⟨Nat.le_of_ble_eq_true rfl, Nat.le_of_ble_eq_true rfl⟩) (tg_preV hw hK hSD hA (ci := 10) (q := (RX10, TX10, 49)) rfl h_p0 rfl) rfl rfl hl.1 rfl (lv_room (Nat.le_of_ble_eq_true rfl)) dX10_readSaid_66 ⟨Nat.le_of_ble_eq_true rfl, Nat.le_of_ble_eq_true rfl⟩) hw hA ⟨by decide, by decide⟩ (fun v_5 ws H locs hp_v_5 hw hF9 => ?_)
          have m_z0_47 := FLD.over hF9 m_z0_47 (by decide)
          have m_u_4 := FLD.over hF9 m_u_4 (by decide)
          have hn9 := FLD.over hF9 hn9 (by decide)
          have x_SN_p0_gd_gh_gg := SNp.over hF9 x_SN_p0_gd_gh_gg (by decide)
          have r_v_5 : RI v_5 0 0 := hp_v_5.1
          subst hQ
          exact W.zret (v := v_5) hx hb hr (tq_nz (r_v_5.to (by decide))) (fun t ht hW => ⟨⟨v_5, ws, rfl, ⟨⟨r_v_5.to (by decide), (fun h0 => ⟨⟨_, m_z0_47, r_z0_47⟩, trivial⟩), (fun h0 => absurd (Int32.toInt_inj.mp (by have h8 := r_v_5; unfold RI at h8; rw [Int32.toInt_zero]; omega)) h0)⟩, hw.1, hw.2.2.2.2.1⟩, by rw [ht]; exact hw.2.1, va_K.moved hW.alike hK, hw.2.2.1⟩, hw.2.2.2.1.F ht⟩) hw.2.2.2.1.2.2 dX10_readSaid_69
        · have r_vu_4 : RI vu_4 0 19 := rc_neU r_vu_4 rl_20 (ti_ne c_52) (by decide)
          refine lv_aload_n hx hb dX10_readSaid_55 rfl (lv_at hl 0 rfl) ?_
          refine tg_mem (ci := 10) (C := RX10) (T := TX10) (N := 49) hx hb hts inX10 hown hK hw 47 m_z0_47 rfl (by decide) (hts _ tw_1184) (fun _ h9 => h9) dX10_readSaid_56 ?_
          refine lv_bipush (v := 8) hx hb dX10_readSaid_59 (by decide) ?_
          refine lv_icmp_ne (tgt := 70) hx hb dX10_readSaid_61 (by decide) (fun c_61 => ?_) (fun c_61 => ?_)
          · exact absurd (r_z0_47.eq.trans rl_8.eq.symm) ((ti_ne c_61))
          · refine lv_aload_n hx hb dX10_readSaid_64 rfl (lv_at hl 0 rfl) ?_
            refine lv_iconst (v := 4) hx hb dX10_readSaid_65 (by decide) ?_
            refine tk_i (va_runV (As := [.int 4]) (rest := []) ⟨hx, hb, hml, hown, hts⟩ (c_X10_bad l D cy z H.size Ps ws hw.1 p0 4 h_p0 (rl_4.to (by decide))) (cwV 1 hts (gV tw_1336 tw_1338 ts_46 tw_15 tw_1339) rfl rfl rfl (by decide +kernel) ⟨Nat.le_of_ble_eq_true rfl, Nat.le_of_ble_eq_true rfl⟩) (tg_preV hw hK hSD hA (ci := 10) (q := (RX10, TX10, 49)) rfl h_p0 rfl) rfl rfl hl.1 rfl (lv_room (Nat.le_of_ble_eq_true rfl)) dX10_readSaid_66 ⟨Nat.le_of_ble_eq_true rfl, Nat.le_of_ble_eq_true rfl⟩) hw hA ⟨by decide, by decide⟩ (fun v_6 ws H locs hp_v_6 hw hF9 => ?_)
            have m_z0_47 := FLD.over hF9 m_z0_47 (by decide)
            have m_u_4 := FLD.over hF9 m_u_4 (by decide)
            have hn9 := FLD.over hF9 hn9 (by decide)
            have x_SN_p0_gd_gh_gg := SNp.over hF9 x_SN_p0_gd_gh_gg (by decide)
            have r_v_6 : RI v_6 0 0 := hp_v_6.1
            subst hQ
            exact W.zret (v := v_6) hx hb hr (tq_nz (r_v_6.to (by decide))) (fun t ht hW => ⟨⟨v_6, ws, rfl, ⟨⟨r_v_6.to (by decide), (fun h0 => ⟨⟨_, m_z0_47, r_z0_47⟩, trivial⟩), (fun h0 => absurd (Int32.toInt_inj.mp (by have h8 := r_v_6; unfold RI at h8; rw [Int32.toInt_zero]; omega)) h0)⟩, hw.1, hw.2.2.2.2.1⟩, by rw [ht]; exact hw.2.1, va_K.moved hW.alike hK, hw.2.2.1⟩, hw.2.2.2.1.F ht⟩) hw.2.2.2.1.2.2 dX10_readSaid_69
      · have r_x2 : RI x2 28 28 := rc_lt2 rl_27 r_x2 (ti_nle c_37) (by decide)
        refine lv_aload_n hx hb dX10_readSaid_40 rfl (lv_at hl 0 rfl) ?_
        refine lv_iconst (v := 1) hx hb dX10_readSaid_41 (by decide) ?_
        refine tk_i (va_runV (As := [.int 1]) (rest := []) ⟨hx, hb, hml, hown, hts⟩ (c_X10_bad l D cy z H.size Ps ws hw.1 p0 1 h_p0 (rl_1.to (by decide))) (cwV 1 hts (gV tw_1336 tw_1338 ts_46 tw_15 tw_1339) rfl rfl rfl (by decide +kernel) ⟨Nat.le_of_ble_eq_true rfl, Nat.le_of_ble_eq_true rfl⟩) (tg_preV hw hK hSD hA (ci := 10) (q := (RX10, TX10, 49)) rfl h_p0 rfl) rfl rfl hl.1 rfl (lv_room (Nat.le_of_ble_eq_true rfl)) dX10_readSaid_42 ⟨Nat.le_of_ble_eq_true rfl, Nat.le_of_ble_eq_true rfl⟩) hw hA ⟨by decide, by decide⟩ (fun v_7 ws H locs hp_v_7 hw hF9 => ?_)
        have m_z0_47 := FLD.over hF9 m_z0_47 (by decide)
        have x_SN_p0_gd_gh_gg := SNp.over hF9 x_SN_p0_gd_gh_gg (by decide)
        have r_v_7 : RI v_7 0 0 := hp_v_7.1
        subst hQ
        exact W.zret (v := v_7) hx hb hr (tq_nz (r_v_7.to (by decide))) (fun t ht hW => ⟨⟨v_7, ws, rfl, ⟨⟨r_v_7.to (by decide), (fun h0 => ⟨⟨_, m_z0_47, r_z0_47⟩, trivial⟩), (fun h0 => absurd (Int32.toInt_inj.mp (by have h8 := r_v_7; unfold RI at h8; rw [Int32.toInt_zero]; omega)) h0)⟩, hw.1, hw.2.2.2.2.1⟩, by rw [ht]; exact hw.2.1, va_K.moved hW.alike hK, hw.2.2.1⟩, hw.2.2.2.1.F ht⟩) hw.2.2.2.1.2.2 dX10_readSaid_45
  have B10 : ∀ (nf : Nat) (x1 : Int32) (x2 : Int32) (z0_47 : Int32) (ws : va_W) (H : Heap) (locs : List Loc) (ls : Array Slot), 28 - x2.toInt < (nf : Int) → RI x1 0 1 → RI x2 18 28 → RI z0_47 8 8 → FLD ws p0 10 47 (.int z0_47) → SNp ws p0 (gd) (gh) (gg) → WD D cy GG A s wr_X10_readSaid__8 wa_X10_readSaid__8 Ps w0 Ps ws H locs → lv_has ls 4 [(0, .ref p0), (1, .int x1), (2, .int x2)] → W p l e (headSpec (Cond.code yX10_readSaid cX10_readSaid 4 (some .boolean) :: gT) ({ frames := 4, cells := 0, slots := 0, locals := 800 } : Room)).room s m ([.ref p0] : List Value).toArray below meth c H locs 0 0 Q (F0 m 10 ls []) := by
    intro nf10
    induction nf10 with
    | zero =>
      intro x1 x2 z0_47 ws H locs ls hn10 r_x1 r_x2 r_z0_47 m_z0_47 x_SN_p0_gd_gh_gg hw hl
      exact absurd hn10 (by have q0 := r_x2.1; have u0 := r_x2.2; omega)
    | succ nf10 ih10 =>
      intro x1 x2 z0_47 ws H locs ls hn10 r_x1 r_x2 r_z0_47 m_z0_47 x_SN_p0_gd_gh_gg hw hl
      refine lv_iload_n hx hb dX10_readSaid_10 rfl (lv_at hl 2 rfl) ?_
      refine lv_bipush (v := 27) hx hb dX10_readSaid_11 (by decide) ?_
      refine lv_icmp_gt (tgt := 30) hx hb dX10_readSaid_13 (by decide) (fun c_13 => ?_) (fun c_13 => ?_)
      · have r_x2 : RI x2 28 28 := rc_lt2 rl_27 r_x2 (ti_lt c_13) (by decide)
        exact B30 x1 x2 z0_47 ws _ _ ls r_x1 (r_x2.to (by decide)) r_z0_47 m_z0_47 x_SN_p0_gd_gh_gg hw hl
      · have r_x2 : RI x2 18 27 := rc_le1 r_x2 rl_27 (ti_nlt c_13) (by decide)
        refine lv_aload_n hx hb dX10_readSaid_16 rfl (lv_at hl 0 rfl) ?_
        refine lv_iload_n hx hb dX10_readSaid_17 rfl (lv_at hl 2 rfl) ?_
        refine tk_ir (va_runV (As := [.int x2]) (rest := []) ⟨hx, hb, hml, hown, hts⟩ (c_X10_isWord l D cy z H.size Ps ws hw.1 p0 x2 h_p0 (r_x2.to (by decide))) (cwV 1 hts (gV tw_1318 tw_1320 ts_43 tw_15 tw_1321) rfl rfl rfl (by decide +kernel) ⟨Nat.le_of_ble_eq_true rfl, Nat.le_of_ble_eq_true rfl⟩) (tg_preV hw hK hSD hA (ci := 10) (q := (RX10, TX10, 49)) rfl h_p0 rfl) rfl rfl hl.1 rfl (lv_room (Nat.le_of_ble_eq_true rfl)) dX10_readSaid_18 ⟨Nat.le_of_ble_eq_true rfl, Nat.le_of_ble_eq_true rfl⟩) hw hA (fun v_8  H locs hp_v_8 hw => ?_)
        have r_v_8 : RI v_8 0 1 := hp_v_8.1
        refine lv_if_ne (tgt := 30) hx hb dX10_readSaid_21 (by decide) (fun c_21 => ?_) (fun c_21 => ?_)
        · have r_v_8 : RI v_8 1 1 := rc_neL r_v_8 rl_0 (ti_ne c_21) (by decide)
          exact B30 x1 x2 z0_47 ws _ _ ls r_x1 (r_x2.to (by decide)) r_z0_47 m_z0_47 x_SN_p0_gd_gh_gg hw hl
        · have r_v_8 : RI v_8 0 0 := rc_eq1 r_v_8 rl_0 (ti_eq c_21) (by decide)
          obtain ⟨v_9, e_v_9⟩ : ∃ q9 : Int32, q9 = x2 + Int32.ofInt 1 := ⟨_, rfl⟩
          obtain ⟨t_v_9, r_v_9⟩ := tq_add (lo := 19) (hi := 28) r_x2 (show RI (Int32.ofInt 1) 1 1 by unfold RI; decide +kernel) (by decide +kernel) e_v_9
          have t_v_9 : v_9.toInt = x2.toInt + 1 := t_v_9
          refine lv_iinc (v := v_9) (lv' := [(2, .int v_9), (0, .ref p0), (1, .int x1)]) hx hb dX10_readSaid_24 hl (k := 2) rfl e_v_9.symm (by decide) rfl (fun ls hl => ?_)
          refine lv_goto (tgt := 10) hx hb dX10_readSaid_27 (by decide) ?_
          exact ih10 x1 v_9 z0_47 ws _ _ ls (by have q0 := r_v_9.1; have u0 := r_v_9.2; have o0 := r_x2.1; have p0 := r_x2.2; omega) r_x1 (r_v_9.to (by decide)) r_z0_47 m_z0_47 x_SN_p0_gd_gh_gg hw (lv_sub hl [1, 2, 0] rfl)
  refine lv_aload_n hx hb dX10_readSaid_0 rfl (lv_at hl 0 rfl) ?_
  refine lv_bipush (v := 40) hx hb dX10_readSaid_1 (by decide) ?_
  refine tk_ir (va_runV (As := [.int 40]) (rest := []) ⟨hx, hb, hml, hown, hts⟩ (c_X10_isSign l D cy z s.heap.size Ps w0 hw.1 p0 40 h_p0 (rl_40.to (by decide))) (cwV 1 hts (gV tw_1413 tw_1415 ts_63 tw_15 tw_1416) rfl rfl rfl (by decide +kernel) ⟨Nat.le_of_ble_eq_true rfl, Nat.le_of_ble_eq_true rfl⟩) (tg_preV hw hK hSD hA (ci := 10) (q := (RX10, TX10, 49)) rfl h_p0 rfl) rfl rfl hl.1 rfl (lv_room (Nat.le_of_ble_eq_true rfl)) dX10_readSaid_3 ⟨Nat.le_of_ble_eq_true rfl, Nat.le_of_ble_eq_true rfl⟩) hw hA (fun v_10  H locs hp_v_10 hw => ?_)
  have r_v_10 : RI v_10 0 1 := hp_v_10.1
  by_cases c9_v_10 : v_10 = 0
  · have r_v_10 : RI v_10 0 0 := by rw [c9_v_10]; exact rl_0
    refine lv_istore_n (lv' := [(1, .int v_10), (0, .ref p0)]) hx hb dX10_readSaid_6 rfl hl (by decide) rfl (fun ls hl => ?_)
    refine lv_bipush (v := 18) hx hb dX10_readSaid_7 (by decide) ?_
    refine lv_istore_n (lv' := [(2, .int 18), (1, .int v_10), (0, .ref p0)]) hx hb dX10_readSaid_9 rfl hl (by decide) rfl (fun ls hl => ?_)
    exact B10 4294967298 v_10 18 f0_47 w0 _ _ ls (by have q0 := rl_18.1; have u0 := rl_18.2; omega) (r_v_10.to (by decide)) (rl_18.to (by decide)) r_f0_47 m_f0_47 x_SN_p0_gd_gh_gg hw (lv_sub hl [2, 1, 0] rfl)
  · have r_v_10 : RI v_10 1 1 := rc_neL r_v_10 rl_0 (ti_ne c9_v_10) (by decide)
    obtain ⟨v_11, m_v_11, r_v_11⟩ := ((hp_v_10.2.2 c9_v_10).1)
    refine lv_istore_n (lv' := [(1, .int v_10), (0, .ref p0)]) hx hb dX10_readSaid_6 rfl hl (by decide) rfl (fun ls hl => ?_)
    refine lv_bipush (v := 18) hx hb dX10_readSaid_7 (by decide) ?_
    refine lv_istore_n (lv' := [(2, .int 18), (1, .int v_10), (0, .ref p0)]) hx hb dX10_readSaid_9 rfl hl (by decide) rfl (fun ls hl => ?_)
    exact B10 4294967298 v_10 18 f0_47 w0 _ _ ls (by have q0 := rl_18.1; have u0 := rl_18.2; omega) (r_v_10.to (by decide)) (rl_18.to (by decide)) r_f0_47 m_f0_47 x_SN_p0_gd_gh_gg hw (lv_sub hl [2, 1, 0] rfl)
abbrev wr_X10_readAnd__8 : List (Nat × Nat) := [(10, 10), (10, 11)]
abbrev wa_X10_readAnd__8 : List Nat := []
set_option maxHeartbeats 4000000 in
set_option maxRecDepth 100000 in
theorem c_X10_readAnd__8 (l : Launch) (D : va_G) (cy : Nat → ClassId) (z : Nat → Nat) (sz : Nat) (Ps : PSI) (w0 : va_W) (hT : HT cy GG Ps w0) (p0 : Nat) (f0_47 : Int32) (gd : Int) (gh : Int) (gg : Int) (h_p0 : (p0, 55) ∈ Ps) (r_f0_47 : RI f0_47 8 8) (m_f0_47 : FLD w0 p0 10 47 (.int f0_47)) (x_SN_p0_gd_gh_gg : SNp w0 p0 (gd) (gh) (gg)) : Met l yX10_readAnd (Cond.code yX10_readAnd cX10_readAnd 2 (some .boolean) :: gT) ({ frames := 5, cells := 0, slots := 0, locals := 1000 } : Room) (va_Pc [.ref p0] (PRE D cy z w0 sz)) (va_Qi (fun (r : Int32) (u : va_W) => (RI r 0 0 ∧ (r = 0 → (∃ v9 : Int32, FLD u p0 10 47 (.int v9) ∧ RI v9 8 8) ∧ True) ∧ (¬ r = 0 → SNT u p0 (gd+1) (gh+1) (gg) ∧ True)) ∧ HT cy GG Ps u ∧ FR wr_X10_readAnd__8 wa_X10_readAnd__8 Ps w0 u) (BB D cy (va_A w0 sz) (fun (u : va_W) => u)) (va_A w0 sz)) 0 0 (va_A w0 sz) := by
  refine Met.ofW (cc := cX10_readAnd) (maxL := 2) (ret := (some .boolean)) (by decide) rfl ?_
  intro p e s m args below meth c s₁ B hml hv
  obtain ⟨rfl, hsz, hP, hK, hD0, hSD⟩ := hv
  have hx := B.exec
  have hb := B.bytes
  have hr := B.returns
  have hlocks := B.notSynchronized
  have hts : ∀ w ∈ gT, w.before _ s = true := fun w h => atoms_spec (ws := Cond.code yX10_readAnd cX10_readAnd 2 (some .boolean) :: gT) B.pre w (List.mem_cons_of_mem _ h)
  have hown : s.vm.findClass RX10 = some m.cls := findClass_of_methodNamed B.named
  subst hsz
  have hD := hD0.self (sz := s.heap.size)
  generalize hAe : va_A w0 s.heap.size = A at hD hSD ⊢
  have hA : ∀ q : Nat, s.heap.size ≤ q → A q := fun q h => by rw [← hAe]; exact Or.inr h
  have hl := lv_entry ([.ref p0]) (n := 2) (Nat.le_of_ble_eq_true rfl)
  rw [lg_entry_eq]
  generalize (lg_sl ([.ref p0]) ++ List.replicate (2 - (lg_sl ([.ref p0])).length) Slot.unset).toArray = ls at hl ⊢
  have hl : lv_has ls 2 [(0, .ref p0)] := hl
  refine nameQ (fun Q hQ => ?_)
  have hw : WD D cy GG A s wr_X10_readAnd__8 wa_X10_readAnd__8 Ps w0 Ps w0 s.heap [] := ⟨hT, hP, hD, va_S.rf, FR.rf, hT.1, [], (List.append_nil _).symm⟩
  refine lv_aload_n hx hb dX10_readAnd_0 rfl (lv_at hl 0 rfl) ?_
  refine tk_i (va_runV (As := []) (rest := []) ⟨hx, hb, hml, hown, hts⟩ (c_X10_readSaid__8 l D cy z s.heap.size Ps w0 hw.1 p0 f0_47 (gd) (gh) (gg) h_p0 r_f0_47 m_f0_47 x_SN_p0_gd_gh_gg) (cwV 0 hts (gV tw_1759 tw_1761 ts_113 tw_15 tw_1762) rfl rfl rfl (by decide +kernel) ⟨Nat.le_of_ble_eq_true rfl, Nat.le_of_ble_eq_true rfl⟩) (tg_preV hw hK hSD hA (ci := 10) (q := (RX10, TX10, 49)) rfl h_p0 rfl) rfl rfl hl.1 rfl (lv_room (Nat.le_of_ble_eq_true rfl)) dX10_readAnd_1 ⟨Nat.le_of_ble_eq_true rfl, Nat.le_of_ble_eq_true rfl⟩) hw hA ⟨by decide, by decide⟩ (fun v_1 ws H locs hp_v_1 hw hF9 => ?_)
  have m_f0_47 := FLD.over hF9 m_f0_47 (by decide)
  have x_SN_p0_gd_gh_gg := SNp.over hF9 x_SN_p0_gd_gh_gg (by decide)
  have r_v_1 : RI v_1 0 0 := hp_v_1.1
  by_cases c9_v_1 : v_1 = 0
  · have r_v_1 : RI v_1 0 0 := by rw [c9_v_1]; exact rl_0
    obtain ⟨v_2, m_v_2, r_v_2⟩ := ((hp_v_1.2.1 c9_v_1).1)
    refine lv_if_ne (tgt := 9) hx hb dX10_readAnd_4 (by decide) (fun c_4 => ?_) (fun c_4 => ?_)
    · exact absurd (r_v_1.eq.trans rl_0.eq.symm) ((ti_ne c_4))
    · refine lv_iconst (v := 0) hx hb dX10_readAnd_7 (by decide) ?_
      subst hQ
      exact W.zret (v := 0) hx hb hr (rfl) (fun t ht hW => ⟨⟨0, ws, rfl, ⟨⟨rl_0.to (by decide), (fun h0 => ⟨⟨_, m_v_2, r_v_2⟩, trivial⟩), (fun h0 => absurd rfl h0)⟩, hw.1, hw.2.2.2.2.1⟩, by rw [ht]; exact hw.2.1, va_K.moved hW.alike hK, hw.2.2.1⟩, hw.2.2.2.1.F ht⟩) hw.2.2.2.1.2.2 dX10_readAnd_8
  · exact absurd (Int32.toInt_inj.mp (by rw [Int32.toInt_zero]; unfold RI at r_v_1; omega)) c9_v_1
abbrev wr_X10_readOr__8 : List (Nat × Nat) := [(10, 10), (10, 11)]
abbrev wa_X10_readOr__8 : List Nat := []
set_option maxHeartbeats 4000000 in
set_option maxRecDepth 100000 in
theorem c_X10_readOr__8 (l : Launch) (D : va_G) (cy : Nat → ClassId) (z : Nat → Nat) (sz : Nat) (Ps : PSI) (w0 : va_W) (hT : HT cy GG Ps w0) (p0 : Nat) (f0_47 : Int32) (gd : Int) (gh : Int) (gg : Int) (h_p0 : (p0, 55) ∈ Ps) (r_f0_47 : RI f0_47 8 8) (m_f0_47 : FLD w0 p0 10 47 (.int f0_47)) (x_SN_p0_gd_gh_gg : SNp w0 p0 (gd) (gh) (gg)) : Met l yX10_readOr (Cond.code yX10_readOr cX10_readOr 2 (some .boolean) :: gT) ({ frames := 6, cells := 0, slots := 0, locals := 1200 } : Room) (va_Pc [.ref p0] (PRE D cy z w0 sz)) (va_Qi (fun (r : Int32) (u : va_W) => (RI r 0 0 ∧ (r = 0 → (∃ v9 : Int32, FLD u p0 10 47 (.int v9) ∧ RI v9 8 8) ∧ True) ∧ (¬ r = 0 → SNT u p0 (gd+1) (gh+1) (gg) ∧ True)) ∧ HT cy GG Ps u ∧ FR wr_X10_readOr__8 wa_X10_readOr__8 Ps w0 u) (BB D cy (va_A w0 sz) (fun (u : va_W) => u)) (va_A w0 sz)) 0 0 (va_A w0 sz) := by
  refine Met.ofW (cc := cX10_readOr) (maxL := 2) (ret := (some .boolean)) (by decide) rfl ?_
  intro p e s m args below meth c s₁ B hml hv
  obtain ⟨rfl, hsz, hP, hK, hD0, hSD⟩ := hv
  have hx := B.exec
  have hb := B.bytes
  have hr := B.returns
  have hlocks := B.notSynchronized
  have hts : ∀ w ∈ gT, w.before _ s = true := fun w h => atoms_spec (ws := Cond.code yX10_readOr cX10_readOr 2 (some .boolean) :: gT) B.pre w (List.mem_cons_of_mem _ h)
  have hown : s.vm.findClass RX10 = some m.cls := findClass_of_methodNamed B.named
  subst hsz
  have hD := hD0.self (sz := s.heap.size)
  generalize hAe : va_A w0 s.heap.size = A at hD hSD ⊢
  have hA : ∀ q : Nat, s.heap.size ≤ q → A q := fun q h => by rw [← hAe]; exact Or.inr h
  have hl := lv_entry ([.ref p0]) (n := 2) (Nat.le_of_ble_eq_true rfl)
  rw [lg_entry_eq]
  generalize (lg_sl ([.ref p0]) ++ List.replicate (2 - (lg_sl ([.ref p0])).length) Slot.unset).toArray = ls at hl ⊢
  have hl : lv_has ls 2 [(0, .ref p0)] := hl
  refine nameQ (fun Q hQ => ?_)
  have hw : WD D cy GG A s wr_X10_readOr__8 wa_X10_readOr__8 Ps w0 Ps w0 s.heap [] := ⟨hT, hP, hD, va_S.rf, FR.rf, hT.1, [], (List.append_nil _).symm⟩
  refine lv_aload_n hx hb dX10_readOr_0 rfl (lv_at hl 0 rfl) ?_
  refine tk_i (va_runV (As := []) (rest := []) ⟨hx, hb, hml, hown, hts⟩ (c_X10_readAnd__8 l D cy z s.heap.size Ps w0 hw.1 p0 f0_47 (gd) (gh) (gg) h_p0 r_f0_47 m_f0_47 x_SN_p0_gd_gh_gg) (cwV 0 hts (gV tw_1755 tw_1757 ts_112 tw_15 tw_1758) rfl rfl rfl (by decide +kernel) ⟨Nat.le_of_ble_eq_true rfl, Nat.le_of_ble_eq_true rfl⟩) (tg_preV hw hK hSD hA (ci := 10) (q := (RX10, TX10, 49)) rfl h_p0 rfl) rfl rfl hl.1 rfl (lv_room (Nat.le_of_ble_eq_true rfl)) dX10_readOr_1 ⟨Nat.le_of_ble_eq_true rfl, Nat.le_of_ble_eq_true rfl⟩) hw hA ⟨by decide, by decide⟩ (fun v_1 ws H locs hp_v_1 hw hF9 => ?_)
  have m_f0_47 := FLD.over hF9 m_f0_47 (by decide)
  have x_SN_p0_gd_gh_gg := SNp.over hF9 x_SN_p0_gd_gh_gg (by decide)
  have r_v_1 : RI v_1 0 0 := hp_v_1.1
  by_cases c9_v_1 : v_1 = 0
  · have r_v_1 : RI v_1 0 0 := by rw [c9_v_1]; exact rl_0
    obtain ⟨v_2, m_v_2, r_v_2⟩ := ((hp_v_1.2.1 c9_v_1).1)
    refine lv_if_ne (tgt := 9) hx hb dX10_readOr_4 (by decide) (fun c_4 => ?_) (fun c_4 => ?_)
    · exact absurd (r_v_1.eq.trans rl_0.eq.symm) ((ti_ne c_4))
    · refine lv_iconst (v := 0) hx hb dX10_readOr_7 (by decide) ?_
      subst hQ
      exact W.zret (v := 0) hx hb hr (rfl) (fun t ht hW => ⟨⟨0, ws, rfl, ⟨⟨rl_0.to (by decide), (fun h0 => ⟨⟨_, m_v_2, r_v_2⟩, trivial⟩), (fun h0 => absurd rfl h0)⟩, hw.1, hw.2.2.2.2.1⟩, by rw [ht]; exact hw.2.1, va_K.moved hW.alike hK, hw.2.2.1⟩, hw.2.2.2.1.F ht⟩) hw.2.2.2.1.2.2 dX10_readOr_8
  · exact absurd (Int32.toInt_inj.mp (by rw [Int32.toInt_zero]; unfold RI at r_v_1; omega)) c9_v_1
abbrev wr_X10_readBracket__7 : List (Nat × Nat) := [(10, 10), (10, 11)]
abbrev wa_X10_readBracket__7 : List Nat := []
set_option maxHeartbeats 4000000 in
set_option maxRecDepth 100000 in
theorem c_X10_readBracket__7 (l : Launch) (D : va_G) (cy : Nat → ClassId) (z : Nat → Nat) (sz : Nat) (Ps : PSI) (w0 : va_W) (hT : HT cy GG Ps w0) (p0 : Nat) (f0_47 : Int32) (gd : Int) (gh : Int) (gg : Int) (h_p0 : (p0, 55) ∈ Ps) (r_f0_47 : RI f0_47 8 8) (m_f0_47 : FLD w0 p0 10 47 (.int f0_47)) (x_SNI_p0_gd_gh_gg : SNI w0 p0 (gd) (gh) (gg)) : Met l yX10_readBracket (Cond.code yX10_readBracket cX10_readBracket 1 (some .boolean) :: gT) ({ frames := 7, cells := 0, slots := 0, locals := 1400 } : Room) (va_Pc [.ref p0] (PRE D cy z w0 sz)) (va_Qi (fun (r : Int32) (u : va_W) => (RI r 0 0 ∧ (r = 0 → (∃ v9 : Int32, FLD u p0 10 47 (.int v9) ∧ RI v9 8 8) ∧ True) ∧ (¬ r = 0 → SNT u p0 (gd) (gh) (gg) ∧ True)) ∧ HT cy GG Ps u ∧ FR wr_X10_readBracket__7 wa_X10_readBracket__7 Ps w0 u) (BB D cy (va_A w0 sz) (fun (u : va_W) => u)) (va_A w0 sz)) 0 0 (va_A w0 sz) := by
  refine Met.ofW (cc := cX10_readBracket) (maxL := 1) (ret := (some .boolean)) (by decide) rfl ?_
  intro p e s m args below meth c s₁ B hml hv
  obtain ⟨rfl, hsz, hP, hK, hD0, hSD⟩ := hv
  have hx := B.exec
  have hb := B.bytes
  have hr := B.returns
  have hlocks := B.notSynchronized
  have hts : ∀ w ∈ gT, w.before _ s = true := fun w h => atoms_spec (ws := Cond.code yX10_readBracket cX10_readBracket 1 (some .boolean) :: gT) B.pre w (List.mem_cons_of_mem _ h)
  have hown : s.vm.findClass RX10 = some m.cls := findClass_of_methodNamed B.named
  subst hsz
  have hD := hD0.self (sz := s.heap.size)
  generalize hAe : va_A w0 s.heap.size = A at hD hSD ⊢
  have hA : ∀ q : Nat, s.heap.size ≤ q → A q := fun q h => by rw [← hAe]; exact Or.inr h
  have hl := lv_entry ([.ref p0]) (n := 1) (Nat.le_of_ble_eq_true rfl)
  rw [lg_entry_eq]
  generalize (lg_sl ([.ref p0]) ++ List.replicate (1 - (lg_sl ([.ref p0])).length) Slot.unset).toArray = ls at hl ⊢
  have hl : lv_has ls 1 [(0, .ref p0)] := hl
  refine nameQ (fun Q hQ => ?_)
  have hw : WD D cy GG A s wr_X10_readBracket__7 wa_X10_readBracket__7 Ps w0 Ps w0 s.heap [] := ⟨hT, hP, hD, va_S.rf, FR.rf, hT.1, [], (List.append_nil _).symm⟩
  refine lv_aload_n hx hb dX10_readBracket_0 rfl (lv_at hl 0 rfl) ?_
  have d_8 := x_SNI_p0_gd_gh_gg.1
  have x_SN_p0_gd_1_gh_gg : SNp w0 p0 (gd+1) (gh) (gg) := x_SNI_p0_gd_gh_gg.2
  refine tk_i (va_runV (As := []) (rest := []) ⟨hx, hb, hml, hown, hts⟩ (c_X10_readOr__8 l D cy z s.heap.size Ps w0 hw.1 p0 f0_47 (gd+1) (gh) (gg) h_p0 r_f0_47 m_f0_47 x_SN_p0_gd_1_gh_gg) (cwV 0 hts (gV tw_1751 tw_1753 ts_111 tw_15 tw_1754) rfl rfl rfl (by decide +kernel) ⟨Nat.le_of_ble_eq_true rfl, Nat.le_of_ble_eq_true rfl⟩) (tg_preV hw hK hSD hA (ci := 10) (q := (RX10, TX10, 49)) rfl h_p0 rfl) rfl rfl hl.1 rfl (lv_room (Nat.le_of_ble_eq_true rfl)) dX10_readBracket_1 ⟨Nat.le_of_ble_eq_true rfl, Nat.le_of_ble_eq_true rfl⟩) hw hA ⟨by decide, by decide⟩ (fun v_1 ws H locs hp_v_1 hw hF9 => ?_)
  have m_f0_47 := FLD.over hF9 m_f0_47 (by decide)
  have x_SNI_p0_gd_gh_gg := SNI.over hF9 x_SNI_p0_gd_gh_gg (by decide)
  have x_SN_p0_gd_1_gh_gg := SNp.over hF9 x_SN_p0_gd_1_gh_gg (by decide)
  have r_v_1 : RI v_1 0 0 := hp_v_1.1
  by_cases c9_v_1 : v_1 = 0
  · have r_v_1 : RI v_1 0 0 := by rw [c9_v_1]; exact rl_0
    obtain ⟨v_2, m_v_2, r_v_2⟩ := ((hp_v_1.2.1 c9_v_1).1)
    refine lv_if_ne (tgt := 9) hx hb dX10_readBracket_4 (by decide) (fun c_4 => ?_) (fun c_4 => ?_)
    · exact absurd (r_v_1.eq.trans rl_0.eq.symm) ((ti_ne c_4))
    · refine lv_iconst (v := 0) hx hb dX10_readBracket_7 (by decide) ?_
      subst hQ
      exact W.zret (v := 0) hx hb hr (rfl) (fun t ht hW => ⟨⟨0, ws, rfl, ⟨⟨rl_0.to (by decide), (fun h0 => ⟨⟨_, m_v_2, r_v_2⟩, trivial⟩), (fun h0 => absurd rfl h0)⟩, hw.1, hw.2.2.2.2.1⟩, by rw [ht]; exact hw.2.1, va_K.moved hW.alike hK, hw.2.2.1⟩, hw.2.2.2.1.F ht⟩) hw.2.2.2.1.2.2 dX10_readBracket_8
  · exact absurd (Int32.toInt_inj.mp (by rw [Int32.toInt_zero]; unfold RI at r_v_1; omega)) c9_v_1
abbrev wr_X10_isIn__13 : List (Nat × Nat) := []
abbrev wa_X10_isIn__13 : List Nat := []
set_option maxHeartbeats 4000000 in
set_option maxRecDepth 100000 in
theorem c_X10_isIn__13 (l : Launch) (D : va_G) (cy : Nat → ClassId) (z : Nat → Nat) (sz : Nat) (Ps : PSI) (w0 : va_W) (hT : HT cy GG Ps w0) (p0 : Int32) (p1 : Int32) (p2 : Int32) (r_p0 : RI p0 (-2147483648) 2147483647) (r_p1 : RI p1 0 0) (r_p2 : RI p2 999 999) : Met l yX10_isIn (Cond.code yX10_isIn cX10_isIn 3 (some .boolean) :: gT) ({ frames := 0, cells := 0, slots := 0, locals := 200 } : Room) (va_Pc [.int p0, .int p1, .int p2] (PRE D cy z w0 sz)) (va_Qi (fun (r : Int32) (u : Unit) => RI r 0 1 ∧ (r = 0 → True) ∧ (¬ r = 0 → RI p0 0 999 ∧ True)) (BB D cy (va_A w0 sz) (fun (u : Unit) => w0)) (va_A w0 sz)) 0 0 (va_A w0 sz) := by
  refine Met.ofW (cc := cX10_isIn) (maxL := 3) (ret := (some .boolean)) (by decide) rfl ?_
  intro p e s m args below meth c s₁ B hml hv
  obtain ⟨rfl, hsz, hP, hK, hD0, hSD⟩ := hv
  have hx := B.exec
  have hb := B.bytes
  have hr := B.returns
  have hlocks := B.notSynchronized
  have hts : ∀ w ∈ gT, w.before _ s = true := fun w h => atoms_spec (ws := Cond.code yX10_isIn cX10_isIn 3 (some .boolean) :: gT) B.pre w (List.mem_cons_of_mem _ h)
  have hown : s.vm.findClass RX10 = some m.cls := findClass_of_methodNamed B.named
  subst hsz
  have hD := hD0.self (sz := s.heap.size)
  generalize hAe : va_A w0 s.heap.size = A at hD hSD ⊢
  have hA : ∀ q : Nat, s.heap.size ≤ q → A q := fun q h => by rw [← hAe]; exact Or.inr h
  have hl := lv_entry ([.int p0, .int p1, .int p2]) (n := 3) (Nat.le_of_ble_eq_true rfl)
  rw [lg_entry_eq]
  generalize (lg_sl ([.int p0, .int p1, .int p2]) ++ List.replicate (3 - (lg_sl ([.int p0, .int p1, .int p2])).length) Slot.unset).toArray = ls at hl ⊢
  have hl : lv_has ls 3 [(0, .int p0), (1, .int p1), (2, .int p2)] := hl
  refine nameQ (fun Q hQ => ?_)
  have hw : WD D cy GG A s wr_X10_isIn__13 wa_X10_isIn__13 Ps w0 Ps w0 s.heap [] := ⟨hT, hP, hD, va_S.rf, FR.rf, hT.1, [], (List.append_nil _).symm⟩
  refine lv_iload_n hx hb dX10_isIn_0 rfl (lv_at hl 0 rfl) ?_
  refine lv_iload_n hx hb dX10_isIn_1 rfl (lv_at hl 1 rfl) ?_
  refine lv_icmp_lt (tgt := 14) hx hb dX10_isIn_2 (by decide) (fun c_2 => ?_) (fun c_2 => ?_)
  · have r_p0 : RI p0 (-2147483648) (-1) := rc_lt1 r_p0 r_p1 (ti_lt c_2) (by decide)
    refine lv_iconst (v := 0) hx hb dX10_isIn_14 (by decide) ?_
    subst hQ
    exact W.zret (v := 0) hx hb hr (rfl) (fun t ht hW => ⟨⟨0, (), rfl, ⟨rl_0.to (by decide), (fun h0 => trivial), (fun h0 => absurd rfl h0)⟩, by rw [ht]; exact hw.2.1, va_K.moved hW.alike hK, hw.2.2.1⟩, hw.2.2.2.1.F ht⟩) hw.2.2.2.1.2.2 dX10_isIn_15
  · have r_p0 : RI p0 0 2147483647 := rc_le2 r_p1 r_p0 (ti_nlt c_2) (by decide)
    refine lv_iload_n hx hb dX10_isIn_5 rfl (lv_at hl 0 rfl) ?_
    refine lv_iload_n hx hb dX10_isIn_6 rfl (lv_at hl 2 rfl) ?_
    refine lv_icmp_gt (tgt := 14) hx hb dX10_isIn_7 (by decide) (fun c_7 => ?_) (fun c_7 => ?_)
    · have r_p0 : RI p0 1000 2147483647 := rc_lt2 r_p2 r_p0 (ti_lt c_7) (by decide)
      refine lv_iconst (v := 0) hx hb dX10_isIn_14 (by decide) ?_
      subst hQ
      exact W.zret (v := 0) hx hb hr (rfl) (fun t ht hW => ⟨⟨0, (), rfl, ⟨rl_0.to (by decide), (fun h0 => trivial), (fun h0 => absurd rfl h0)⟩, by rw [ht]; exact hw.2.1, va_K.moved hW.alike hK, hw.2.2.1⟩, hw.2.2.2.1.F ht⟩) hw.2.2.2.1.2.2 dX10_isIn_15
    · have r_p0 : RI p0 0 999 := rc_le1 r_p0 r_p2 (ti_nlt c_7) (by decide)
      refine lv_iconst (v := 1) hx hb dX10_isIn_10 (by decide) ?_
      refine lv_goto (tgt := 15) hx hb dX10_isIn_11 (by decide) ?_
      subst hQ
      exact W.zret (v := 1) hx hb hr (rfl) (fun t ht hW => ⟨⟨1, (), rfl, ⟨rl_1.to (by decide), (fun _ => trivial), (fun h0 => ⟨r_p0, trivial⟩)⟩, by rw [ht]; exact hw.2.1, va_K.moved hW.alike hK, hw.2.2.1⟩, hw.2.2.2.1.F ht⟩) hw.2.2.2.1.2.2 dX10_isIn_15
abbrev wr_X10_readNumber__5 : List (Nat × Nat) := [(10, 5), (10, 6), (10, 7), (10, 8), (10, 9), (10, 10), (10, 11), (10, 12), (10, 13)]
abbrev wa_X10_readNumber__5 : List Nat := []
set_option maxHeartbeats 4000000 in
set_option maxRecDepth 100000 in
theorem c_X10_readNumber__5 (l : Launch) (D : va_G) (cy : Nat → ClassId) (z : Nat → Nat) (sz : Nat) (Ps : PSI) (w0 : va_W) (hT : HT cy GG Ps w0) (p0 : Nat) (p1 : Int32) (p2 : Int32) (h_p0 : (p0, 55) ∈ Ps) (r_p1 : RI p1 0 0) (r_p2 : RI p2 999 999) : Met l yX10_readNumber (Cond.code yX10_readNumber cX10_readNumber 3 (some .boolean) :: gT) ({ frames := 3, cells := 0, slots := 0, locals := 600 } : Room) (va_Pc [.ref p0, .int p1, .int p2] (PRE D cy z w0 sz)) (va_Qi (fun (r : Int32) (u : va_W) => (RI r 0 1 ∧ (r = 0 → True) ∧ (¬ r = 0 → (∃ v9 : Int32, FLD u p0 10 13 (.int v9) ∧ RI v9 0 999) ∧ True)) ∧ HT cy GG Ps u ∧ FR wr_X10_readNumber__5 wa_X10_readNumber__5 Ps w0 u) (BB D cy (va_A w0 sz) (fun (u : va_W) => u)) (va_A w0 sz)) 0 0 (va_A w0 sz) := by
  refine Met.ofW (cc := cX10_readNumber) (maxL := 3) (ret := (some .boolean)) (by decide) rfl ?_
  intro p e s m args below meth c s₁ B hml hv
  obtain ⟨rfl, hsz, hP, hK, hD0, hSD⟩ := hv
  have hx := B.exec
  have hb := B.bytes
  have hr := B.returns
  have hlocks := B.notSynchronized
  have hts : ∀ w ∈ gT, w.before _ s = true := fun w h => atoms_spec (ws := Cond.code yX10_readNumber cX10_readNumber 3 (some .boolean) :: gT) B.pre w (List.mem_cons_of_mem _ h)
  have hown : s.vm.findClass RX10 = some m.cls := findClass_of_methodNamed B.named
  subst hsz
  have hD := hD0.self (sz := s.heap.size)
  generalize hAe : va_A w0 s.heap.size = A at hD hSD ⊢
  have hA : ∀ q : Nat, s.heap.size ≤ q → A q := fun q h => by rw [← hAe]; exact Or.inr h
  have hl := lv_entry ([.ref p0, .int p1, .int p2]) (n := 3) (Nat.le_of_ble_eq_true rfl)
  rw [lg_entry_eq]
  generalize (lg_sl ([.ref p0, .int p1, .int p2]) ++ List.replicate (3 - (lg_sl ([.ref p0, .int p1, .int p2])).length) Slot.unset).toArray = ls at hl ⊢
  have hl : lv_has ls 3 [(0, .ref p0), (1, .int p1), (2, .int p2)] := hl
  refine nameQ (fun Q hQ => ?_)
  have hw : WD D cy GG A s wr_X10_readNumber__5 wa_X10_readNumber__5 Ps w0 Ps w0 s.heap [] := ⟨hT, hP, hD, va_S.rf, FR.rf, hT.1, [], (List.append_nil _).symm⟩
  refine lv_aload_n hx hb dX10_readNumber_0 rfl (lv_at hl 0 rfl) ?_
  refine tg_get (ci := 10) (ts := ty_MODEL) (C := RX10) (T := TX10) (N := 49) hx hb hts inX10 hown hK hw h_p0 rfl rfl 7 (by decide) (hts _ tw_1144) (fun _ h9 => h9) (ft := vI (-2147483648) 2147483647) rfl dX10_readNumber_1 (fun u_1 hv_u_1 m_u_1 => ?_)
  obtain ⟨vu_1, rfl, r_vu_1⟩ := hv_u_1
  refine lv_iconst (v := 3) hx hb dX10_readNumber_4 (by decide) ?_
  refine lv_icmp_eq (tgt := 14) hx hb dX10_readNumber_5 (by decide) (fun c_5 => ?_) (fun c_5 => ?_)
  · have r_vu_1 : RI vu_1 3 3 := rc_eq1 r_vu_1 rl_3 (ti_eq c_5) (by decide)
    refine lv_aload_n hx hb dX10_readNumber_14 rfl (lv_at hl 0 rfl) ?_
    refine tg_get (ci := 10) (ts := ty_MODEL) (C := RX10) (T := TX10) (N := 49) hx hb hts inX10 hown hK hw h_p0 rfl rfl 8 (by decide) (hts _ tw_1145) (fun _ h9 => h9) (ft := vI (-2147483648) 2147483647) rfl dX10_readNumber_15 (fun u_2 hv_u_2 m_u_2 => ?_)
    obtain ⟨vu_2, rfl, r_vu_2⟩ := hv_u_2
    refine lv_iload_n hx hb dX10_readNumber_18 rfl (lv_at hl 1 rfl) ?_
    refine lv_iload_n hx hb dX10_readNumber_19 rfl (lv_at hl 2 rfl) ?_
    refine tk_ir (va_runS (As := [.int vu_2, .int p1, .int p2]) (rest := []) ⟨hx, hb, hml, hown, hts⟩ (c_X10_isIn__13 l D cy z s.heap.size Ps w0 hw.1 vu_2 p1 p2 r_vu_2 r_p1 r_p2) (va_cwS 3 hts (gS tw_1359 tw_1360 tw_15 tw_1361) rfl rfl rfl (by decide +kernel) ⟨Nat.le_of_ble_eq_true rfl, Nat.le_of_ble_eq_true rfl⟩) (tg_preS hw hK hSD hA) rfl rfl hl.1 rfl (lv_room (Nat.le_of_ble_eq_true rfl)) dX10_readNumber_20 ⟨Nat.le_of_ble_eq_true rfl, Nat.le_of_ble_eq_true rfl⟩) hw hA (fun v_3  H locs hp_v_3 hw => ?_)
    have r_v_3 : RI v_3 0 1 := hp_v_3.1
    refine lv_if_ne (tgt := 32) hx hb dX10_readNumber_23 (by decide) (fun c_23 => ?_) (fun c_23 => ?_)
    · have r_v_3 : RI v_3 1 1 := rc_neL r_v_3 rl_0 (ti_ne c_23) (by decide)
      have r_vu_2 : RI vu_2 0 999 := ((hp_v_3.2.2 c_23).1)
      refine lv_aload_n hx hb dX10_readNumber_32 rfl (lv_at hl 0 rfl) ?_
      refine lv_aload_n hx hb dX10_readNumber_33 rfl (lv_at hl 0 rfl) ?_
      refine tg_mem (ci := 10) (C := RX10) (T := TX10) (N := 49) hx hb hts inX10 hown hK hw 8 m_u_2 rfl (by decide) (hts _ tw_1145) (fun _ h9 => h9) dX10_readNumber_34 ?_
      refine tg_put (ci := 10) (ts := ty_MODEL) (v := .int vu_2) (ty := .int) (C := RX10) (T := TX10) (N := 49) hx hb hts inX10 tyX10 tyX10_ok nmX10 hown hK hw h_p0 rfl rfl 13 (by decide) (hts _ tw_1150) (fun _ h9 => h9) rfl (by decide +kernel) rfl rfl (ft := vI (-2147483648) 2147483647) rfl ⟨_, rfl, (r_vu_2.to (by decide))⟩ (by decide) dX10_readNumber_37 (fun ws H locs hw n_k_4 hF9 => ?_)
      have m_u_1 := FLD.over hF9 m_u_1 (by decide)
      have m_u_2 := FLD.over hF9 m_u_2 (by decide)
      refine lv_aload_n hx hb dX10_readNumber_40 rfl (lv_at hl 0 rfl) ?_
      refine tk_v (va_runV (As := []) (rest := []) ⟨hx, hb, hml, hown, hts⟩ (c_X10_go l D cy z H.size Ps ws hw.1 p0 h_p0) (cwV 0 hts (gV tw_1298 tw_1300 ts_40 tw_15 tw_1301) rfl rfl rfl (by decide +kernel) ⟨Nat.le_of_ble_eq_true rfl, Nat.le_of_ble_eq_true rfl⟩) (tg_preV hw hK hSD hA (ci := 10) (q := (RX10, TX10, 49)) rfl h_p0 rfl) rfl rfl hl.1 rfl (lv_room (Nat.le_of_ble_eq_true rfl)) dX10_readNumber_41 ⟨Nat.le_of_ble_eq_true rfl, Nat.le_of_ble_eq_true rfl⟩) hw hA ⟨by decide, by decide⟩ (fun ws H locs hp_v_5 hw hF9 => ?_)
      have n_k_4 := FLD.over hF9 n_k_4 (by decide)
      refine lv_iconst (v := 1) hx hb dX10_readNumber_44 (by decide) ?_
      subst hQ
      exact W.zret (v := 1) hx hb hr (rfl) (fun t ht hW => ⟨⟨1, ws, rfl, ⟨⟨rl_1.to (by decide), (fun _ => trivial), (fun h0 => ⟨⟨_, n_k_4, r_vu_2⟩, trivial⟩)⟩, hw.1, hw.2.2.2.2.1⟩, by rw [ht]; exact hw.2.1, va_K.moved hW.alike hK, hw.2.2.1⟩, hw.2.2.2.1.F ht⟩) hw.2.2.2.1.2.2 dX10_readNumber_45
    · have r_v_3 : RI v_3 0 0 := rc_eq1 r_v_3 rl_0 (ti_eq c_23) (by decide)
      refine lv_aload_n hx hb dX10_readNumber_26 rfl (lv_at hl 0 rfl) ?_
      refine lv_iconst (v := 2) hx hb dX10_readNumber_27 (by decide) ?_
      refine tk_i (va_runV (As := [.int 2]) (rest := []) ⟨hx, hb, hml, hown, hts⟩ (c_X10_bad l D cy z H.size Ps w0 hw.1 p0 2 h_p0 (rl_2.to (by decide))) (cwV 1 hts (gV tw_1336 tw_1338 ts_46 tw_15 tw_1339) rfl rfl rfl (by decide +kernel) ⟨Nat.le_of_ble_eq_true rfl, Nat.le_of_ble_eq_true rfl⟩) (tg_preV hw hK hSD hA (ci := 10) (q := (RX10, TX10, 49)) rfl h_p0 rfl) rfl rfl hl.1 rfl (lv_room (Nat.le_of_ble_eq_true rfl)) dX10_readNumber_28 ⟨Nat.le_of_ble_eq_true rfl, Nat.le_of_ble_eq_true rfl⟩) hw hA ⟨by decide, by decide⟩ (fun v_6 ws H locs hp_v_6 hw hF9 => ?_)
      have m_u_1 := FLD.over hF9 m_u_1 (by decide)
      have m_u_2 := FLD.over hF9 m_u_2 (by decide)
      have r_v_6 : RI v_6 0 0 := hp_v_6.1
      subst hQ
      exact W.zret (v := v_6) hx hb hr (tq_nz (r_v_6.to (by decide))) (fun t ht hW => ⟨⟨v_6, ws, rfl, ⟨⟨r_v_6.to (by decide), (fun h0 => trivial), (fun h0 => absurd (Int32.toInt_inj.mp (by have h8 := r_v_6; unfold RI at h8; rw [Int32.toInt_zero]; omega)) h0)⟩, hw.1, hw.2.2.2.2.1⟩, by rw [ht]; exact hw.2.1, va_K.moved hW.alike hK, hw.2.2.1⟩, hw.2.2.2.1.F ht⟩) hw.2.2.2.1.2.2 dX10_readNumber_31
  · refine lv_aload_n hx hb dX10_readNumber_8 rfl (lv_at hl 0 rfl) ?_
    refine lv_iconst (v := 1) hx hb dX10_readNumber_9 (by decide) ?_
    refine tk_i (va_runV (As := [.int 1]) (rest := []) ⟨hx, hb, hml, hown, hts⟩ (c_X10_bad l D cy z s.heap.size Ps w0 hw.1 p0 1 h_p0 (rl_1.to (by decide))) (cwV 1 hts (gV tw_1336 tw_1338 ts_46 tw_15 tw_1339) rfl rfl rfl (by decide +kernel) ⟨Nat.le_of_ble_eq_true rfl, Nat.le_of_ble_eq_true rfl⟩) (tg_preV hw hK hSD hA (ci := 10) (q := (RX10, TX10, 49)) rfl h_p0 rfl) rfl rfl hl.1 rfl (lv_room (Nat.le_of_ble_eq_true rfl)) dX10_readNumber_10 ⟨Nat.le_of_ble_eq_true rfl, Nat.le_of_ble_eq_true rfl⟩) hw hA ⟨by decide, by decide⟩ (fun v_7 ws H locs hp_v_7 hw hF9 => ?_)
    have m_u_1 := FLD.over hF9 m_u_1 (by decide)
    have r_v_7 : RI v_7 0 0 := hp_v_7.1
    subst hQ
    exact W.zret (v := v_7) hx hb hr (tq_nz (r_v_7.to (by decide))) (fun t ht hW => ⟨⟨v_7, ws, rfl, ⟨⟨r_v_7.to (by decide), (fun h0 => trivial), (fun h0 => absurd (Int32.toInt_inj.mp (by have h8 := r_v_7; unfold RI at h8; rw [Int32.toInt_zero]; omega)) h0)⟩, hw.1, hw.2.2.2.2.1⟩, by rw [ht]; exact hw.2.1, va_K.moved hW.alike hK, hw.2.2.1⟩, hw.2.2.2.1.F ht⟩) hw.2.2.2.1.2.2 dX10_readNumber_13
abbrev wr_X10_saysOne : List (Nat × Nat) := [(10, 45)]
abbrev wa_X10_saysOne : List Nat := [54]
set_option maxHeartbeats 4000000 in
set_option maxRecDepth 100000 in
theorem c_X10_saysOne (l : Launch) (D : va_G) (cy : Nat → ClassId) (z : Nat → Nat) (sz : Nat) (Ps : PSI) (w0 : va_W) (hT : HT cy GG Ps w0) (p0 : Nat) (p1 : Int32) (p2 : Int32) (p3 : Int32) (p4 : Int32) (gd : Int) (gh : Int) (gg : Int) (h_p0 : (p0, 55) ∈ Ps) (r_p1 : RI p1 50 77) (r_p2 : RI p2 (-2147483648) 2147483647) (r_p3 : RI p3 (-2147483648) 2147483647) (r_p4 : RI p4 (-2147483648) 2147483647) (x_SNI_p0_gd_gh_gg : SNI w0 p0 (gd) (gh) (gg)) : Met l yX10_saysOne (Cond.code yX10_saysOne cX10_saysOne 6 (some .int) :: gT) ({ frames := 0, cells := 0, slots := 0, locals := 200 } : Room) (va_Pc [.ref p0, .int p1, .int p2, .int p3, .int p4] (PRE D cy z w0 sz)) (va_Qi (fun (r : Int32) (u : va_W) => (RI r 0 39 ∧ (r = 0 → True) ∧ (¬ r = 0 → True) ∧ (SNL u p0 (gd) (gh) (gg) (r) ∧ True) ∧ (r.toInt < 0 → True) ∧ (0 ≤ r.toInt → True)) ∧ HT cy GG Ps u ∧ FR wr_X10_saysOne wa_X10_saysOne Ps w0 u) (BB D cy (va_A w0 sz) (fun (u : va_W) => u)) (va_A w0 sz)) 0 0 (va_A w0 sz) := by
  refine Met.ofW (cc := cX10_saysOne) (maxL := 6) (ret := (some .int)) (by decide) rfl ?_
  intro p e s m args below meth c s₁ B hml hv
  obtain ⟨rfl, hsz, hP, hK, hD0, hSD⟩ := hv
  have hx := B.exec
  have hb := B.bytes
  have hr := B.returns
  have hlocks := B.notSynchronized
  have hts : ∀ w ∈ gT, w.before _ s = true := fun w h => atoms_spec (ws := Cond.code yX10_saysOne cX10_saysOne 6 (some .int) :: gT) B.pre w (List.mem_cons_of_mem _ h)
  have hown : s.vm.findClass RX10 = some m.cls := findClass_of_methodNamed B.named
  subst hsz
  have hD := hD0.self (sz := s.heap.size)
  generalize hAe : va_A w0 s.heap.size = A at hD hSD ⊢
  have hA : ∀ q : Nat, s.heap.size ≤ q → A q := fun q h => by rw [← hAe]; exact Or.inr h
  have hl := lv_entry ([.ref p0, .int p1, .int p2, .int p3, .int p4]) (n := 6) (Nat.le_of_ble_eq_true rfl)
  rw [lg_entry_eq]
  generalize (lg_sl ([.ref p0, .int p1, .int p2, .int p3, .int p4]) ++ List.replicate (6 - (lg_sl ([.ref p0, .int p1, .int p2, .int p3, .int p4])).length) Slot.unset).toArray = ls at hl ⊢
  have hl : lv_has ls 6 [(0, .ref p0), (1, .int p1), (2, .int p2), (3, .int p3), (4, .int p4)] := hl
  refine nameQ (fun Q hQ => ?_)
  have hw : WD D cy GG A s wr_X10_saysOne wa_X10_saysOne Ps w0 Ps w0 s.heap [] := ⟨hT, hP, hD, va_S.rf, FR.rf, hT.1, [], (List.append_nil _).symm⟩
  refine lv_iconst (v := 4) hx hb dX10_saysOne_0 (by decide) ?_
  refine lv_aload_n hx hb dX10_saysOne_1 rfl (lv_at hl 0 rfl) ?_
  refine tg_get (ci := 10) (ts := ty_MODEL) (C := RX10) (T := TX10) (N := 49) hx hb hts inX10 hown hK hw h_p0 rfl rfl 45 (by decide) (hts _ tw_1182) (fun _ h9 => h9) (ft := vI (-2147483648) 2147483647) rfl dX10_saysOne_2 (fun u_1 hv_u_1 m_u_1 => ?_)
  obtain ⟨vu_1, rfl, r_vu_1⟩ := hv_u_1
  obtain ⟨o9, ho9, ro9, b9⟩ := SNp.getN hw x_SNI_p0_gd_gh_gg.2 m_u_1
  have d9 := x_SNI_p0_gd_gh_gg.1
  have ro8 := ro9.2
  have r_vu_1 : RI vu_1 0 39 := ⟨by omega, by omega⟩
  refine lv_imul hx hb dX10_saysOne_5 (lv_topi (fun v_2 e_v_2 => ?_))
  obtain ⟨t_v_2, r_v_2⟩ := tq_mul (lo := 0) (hi := 156) rl_4 r_vu_1 (by decide +kernel) e_v_2
  have t_v_2 : v_2.toInt = 4 * vu_1.toInt := t_v_2
  refine lv_istore (lv' := [(5, .int v_2), (0, .ref p0), (1, .int p1), (2, .int p2), (3, .int p3), (4, .int p4)]) hx hb dX10_saysOne_6 hl (by decide) rfl (fun ls hl => ?_)
  have x_S0_p0_vu_1 : AX 44 54 (fun f => SYp vu_1 f) Ps w0 p0 := AX.imp (ax_of (k := 44) (t := 54) hw h_p0 rfl (fun _ => rfl)) (fun f9 h9 => fun q9 u9 _ => h9.1 q9 u9)
  obtain ⟨b_3, m_b_3, h_b_3⟩ := tg_fldR (k := 44) (ci := 10) (ts := ty_MODEL) (u := 54) hw h_p0 rfl rfl
  have hw := WD.weak b_3 hw
  refine lv_aload_n hx hb dX10_saysOne_8 rfl (lv_at hl 1 rfl) ?_
  refine tg_mem (ci := 10) (C := RX10) (T := TX10) (N := 49) hx hb hts inX10 hown hK hw 44 m_b_3 rfl (by decide) (hts _ tw_1181) (fun _ h9 => h9) dX10_saysOne_9 ?_
  refine lv_iload hx hb dX10_saysOne_12 (lv_at hl 0 rfl) ?_
  refine lv_iload_n hx hb dX10_saysOne_14 rfl (lv_at hl 2 rfl) ?_
  refine tg_iast hx hb hK hw h_b_3 rfl 0 156 r_v_2 (by decide) r_p1 (by exact fun _ _ _ => by decide) (fun _ _ _ _ _ => Or.inl rfl) (by decide) dX10_saysOne_15 (fun ws H locs hw hF9 hU9 => ?_)
  have x_S1_p0_vu_1_p1 : AX 44 54 (fun f => SYp vu_1 f ∧ f (4 * Int32.toNatClampNeg vu_1) = p1) Ps ws p0 := AX.ast hF9 hU9 x_S0_p0_vu_1 m_b_3 (fun f9 h9 => by have j9 : Int32.toNatClampNeg v_2 = 4 * Int32.toNatClampNeg vu_1 + 0 := (by have k1 := r_v_2.cl (by decide); have k2 := r_vu_1.cl (by decide); omega); exact ⟨SY_upd h9 (by omega), by rw [show 4 * Int32.toNatClampNeg vu_1 = Int32.toNatClampNeg v_2 by omega]; exact pk_us⟩)
  have x_SNI_p0_gd_gh_gg := SNI.over hF9 x_SNI_p0_gd_gh_gg (by decide)
  have m_u_1 := FLD.over hF9 m_u_1 (by decide)
  have ho9 := FLD.over hF9 ho9 (by decide)
  have m_b_3 := FLD.over hF9 m_b_3 (by decide)
  refine lv_aload_n hx hb dX10_saysOne_16 rfl (lv_at hl 1 rfl) ?_
  refine tg_mem (ci := 10) (C := RX10) (T := TX10) (N := 49) hx hb hts inX10 hown hK hw 44 m_b_3 rfl (by decide) (hts _ tw_1181) (fun _ h9 => h9) dX10_saysOne_17 ?_
  refine lv_iload hx hb dX10_saysOne_20 (lv_at hl 0 rfl) ?_
  refine lv_iconst (v := 1) hx hb dX10_saysOne_22 (by decide) ?_
  refine lv_iadd hx hb dX10_saysOne_23 (lv_topi (fun v_4 e_v_4 => ?_))
  obtain ⟨t_v_4, r_v_4⟩ := tq_add (lo := 1) (hi := 157) r_v_2 rl_1 (by decide +kernel) e_v_4
  have t_v_4 : v_4.toInt = v_2.toInt + 1 := t_v_4
  refine lv_iload_n hx hb dX10_saysOne_24 rfl (lv_at hl 3 rfl) ?_
  refine tg_iast hx hb hK hw h_b_3 rfl 1 157 r_v_4 (by decide) r_p2 (by exact fun _ _ _ => by decide) (fun _ _ _ _ _ => Or.inl rfl) (by decide) dX10_saysOne_25 (fun ws H locs hw hF9 hU9 => ?_)
  have x_S2_p0_vu_1_p1_p2 : AX 44 54 (fun f => SYp vu_1 f ∧ f (4 * Int32.toNatClampNeg vu_1) = p1 ∧ f (4 * Int32.toNatClampNeg vu_1 + 1) = p2) Ps ws p0 := AX.ast hF9 hU9 x_S1_p0_vu_1_p1 m_b_3 (fun f9 h9 => by have j9 : Int32.toNatClampNeg v_4 = 4 * Int32.toNatClampNeg vu_1 + 1 := (by have k1 := r_v_4.cl (by decide); have k2 := r_vu_1.cl (by decide); omega); exact ⟨SY_upd h9.1 (by omega), by rw [pk_un (by omega)]; exact h9.2, by rw [show 4 * Int32.toNatClampNeg vu_1 + 1 = Int32.toNatClampNeg v_4 by omega]; exact pk_us⟩)
  have x_SNI_p0_gd_gh_gg := SNI.over hF9 x_SNI_p0_gd_gh_gg (by decide)
  have m_u_1 := FLD.over hF9 m_u_1 (by decide)
  have ho9 := FLD.over hF9 ho9 (by decide)
  have m_b_3 := FLD.over hF9 m_b_3 (by decide)
  refine lv_aload_n hx hb dX10_saysOne_26 rfl (lv_at hl 1 rfl) ?_
  refine tg_mem (ci := 10) (C := RX10) (T := TX10) (N := 49) hx hb hts inX10 hown hK hw 44 m_b_3 rfl (by decide) (hts _ tw_1181) (fun _ h9 => h9) dX10_saysOne_27 ?_
  refine lv_iload hx hb dX10_saysOne_30 (lv_at hl 0 rfl) ?_
  refine lv_iconst (v := 2) hx hb dX10_saysOne_32 (by decide) ?_
  refine lv_iadd hx hb dX10_saysOne_33 (lv_topi (fun v_5 e_v_5 => ?_))
  obtain ⟨t_v_5, r_v_5⟩ := tq_add (lo := 2) (hi := 158) r_v_2 rl_2 (by decide +kernel) e_v_5
  have t_v_5 : v_5.toInt = v_2.toInt + 2 := t_v_5
  refine lv_iload_n hx hb dX10_saysOne_34 rfl (lv_at hl 4 rfl) ?_
  refine tg_iast hx hb hK hw h_b_3 rfl 2 158 r_v_5 (by decide) r_p3 (by exact fun _ _ _ => by decide) (fun _ _ _ _ _ => Or.inl rfl) (by decide) dX10_saysOne_35 (fun ws H locs hw hF9 hU9 => ?_)
  have x_S3_p0_vu_1_p1_p2_p3 : AX 44 54 (fun f => SYp vu_1 f ∧ f (4 * Int32.toNatClampNeg vu_1) = p1 ∧ f (4 * Int32.toNatClampNeg vu_1 + 1) = p2 ∧ f (4 * Int32.toNatClampNeg vu_1 + 2) = p3) Ps ws p0 := AX.ast hF9 hU9 x_S2_p0_vu_1_p1_p2 m_b_3 (fun f9 h9 => by have j9 : Int32.toNatClampNeg v_5 = 4 * Int32.toNatClampNeg vu_1 + 2 := (by have k1 := r_v_5.cl (by decide); have k2 := r_vu_1.cl (by decide); omega); exact ⟨SY_upd h9.1 (by omega), by rw [pk_un (by omega)]; exact h9.2.1, by rw [pk_un (by omega)]; exact h9.2.2, by rw [show 4 * Int32.toNatClampNeg vu_1 + 2 = Int32.toNatClampNeg v_5 by omega]; exact pk_us⟩)
  have x_SNI_p0_gd_gh_gg := SNI.over hF9 x_SNI_p0_gd_gh_gg (by decide)
  have m_u_1 := FLD.over hF9 m_u_1 (by decide)
  have ho9 := FLD.over hF9 ho9 (by decide)
  have m_b_3 := FLD.over hF9 m_b_3 (by decide)
  refine lv_aload_n hx hb dX10_saysOne_36 rfl (lv_at hl 1 rfl) ?_
  refine tg_mem (ci := 10) (C := RX10) (T := TX10) (N := 49) hx hb hts inX10 hown hK hw 44 m_b_3 rfl (by decide) (hts _ tw_1181) (fun _ h9 => h9) dX10_saysOne_37 ?_
  refine lv_iload hx hb dX10_saysOne_40 (lv_at hl 0 rfl) ?_
  refine lv_iconst (v := 3) hx hb dX10_saysOne_42 (by decide) ?_
  refine lv_iadd hx hb dX10_saysOne_43 (lv_topi (fun v_6 e_v_6 => ?_))
  obtain ⟨t_v_6, r_v_6⟩ := tq_add (lo := 3) (hi := 159) r_v_2 rl_3 (by decide +kernel) e_v_6
  have t_v_6 : v_6.toInt = v_2.toInt + 3 := t_v_6
  refine lv_iload hx hb dX10_saysOne_44 (lv_at hl 5 rfl) ?_
  refine tg_iast hx hb hK hw h_b_3 rfl 3 159 r_v_6 (by decide) r_p4 (by exact fun _ _ _ => by decide) (fun _ _ _ _ _ => Or.inl rfl) (by decide) dX10_saysOne_46 (fun ws H locs hw hF9 hU9 => ?_)
  have x_S3_p0_vu_1_p1_p2_p3 : AX 44 54 (fun f => SYp vu_1 f ∧ f (4 * Int32.toNatClampNeg vu_1) = p1 ∧ f (4 * Int32.toNatClampNeg vu_1 + 1) = p2 ∧ f (4 * Int32.toNatClampNeg vu_1 + 2) = p3) Ps ws p0 := AX.ast hF9 hU9 x_S3_p0_vu_1_p1_p2_p3 m_b_3 (fun f9 h9 => by have j9 : Int32.toNatClampNeg v_6 = 4 * Int32.toNatClampNeg vu_1 + 3 := (by have k1 := r_v_6.cl (by decide); have k2 := r_vu_1.cl (by decide); omega); exact ⟨SY_upd h9.1 (by omega), by rw [pk_un (by omega)]; exact h9.2.1, by rw [pk_un (by omega)]; exact h9.2.2.1, by rw [pk_un (by omega)]; exact h9.2.2.2⟩)
  have x_SNI_p0_gd_gh_gg := SNI.over hF9 x_SNI_p0_gd_gh_gg (by decide)
  have m_u_1 := FLD.over hF9 m_u_1 (by decide)
  have ho9 := FLD.over hF9 ho9 (by decide)
  have m_b_3 := FLD.over hF9 m_b_3 (by decide)
  have hw := WD.back hw h_b_3 rfl (fun f9 q9 => SY_end (AX.arr hw x_S3_p0_vu_1_p1_p2_p3 m_b_3 f9 q9) (by have k1 := r_p1.1; have k2 := r_p1.2; exact ⟨fun e9 => by omega, fun e9 => by omega⟩) r_vu_1.1)
  refine lv_aload_n hx hb dX10_saysOne_47 rfl (lv_at hl 1 rfl) ?_
  refine lv_dup hx hb dX10_saysOne_48 rfl ?_
  refine tg_mem (ci := 10) (C := RX10) (T := TX10) (N := 49) hx hb hts inX10 hown hK hw 45 m_u_1 rfl (by decide) (hts _ tw_1182) (fun _ h9 => h9) dX10_saysOne_49 ?_
  refine lv_iconst (v := 1) hx hb dX10_saysOne_52 (by decide) ?_
  refine lv_iadd hx hb dX10_saysOne_53 (lv_topi (fun v_7 e_v_7 => ?_))
  obtain ⟨t_v_7, r_v_7⟩ := tq_add (lo := 1) (hi := 40) r_vu_1 rl_1 (by decide +kernel) e_v_7
  have t_v_7 : v_7.toInt = vu_1.toInt + 1 := t_v_7
  refine tg_put (ci := 10) (ts := ty_MODEL) (v := .int v_7) (ty := .int) (C := RX10) (T := TX10) (N := 49) hx hb hts inX10 tyX10 tyX10_ok nmX10 hown hK hw h_p0 rfl rfl 45 (by decide) (hts _ tw_1182) (fun _ h9 => h9) rfl (by decide +kernel) rfl rfl (ft := vI (-2147483648) 2147483647) rfl ⟨_, rfl, (r_v_7.to (by decide))⟩ (by decide) dX10_saysOne_54 (fun ws H locs hw n_k_8 hF9 => ?_)
  have ho9 := FLD.over hF9 ho9 (by decide)
  have m_b_3 := FLD.over hF9 m_b_3 (by decide)
  have x_S3_p0_vu_1_p1_p2_p3 := AX.over hF9 x_S3_p0_vu_1_p1_p2_p3 (by decide)
  refine lv_aload_n hx hb dX10_saysOne_57 rfl (lv_at hl 1 rfl) ?_
  refine tg_mem (ci := 10) (C := RX10) (T := TX10) (N := 49) hx hb hts inX10 hown hK hw 45 n_k_8 rfl (by decide) (hts _ tw_1182) (fun _ h9 => h9) dX10_saysOne_58 ?_
  refine lv_iconst (v := 1) hx hb dX10_saysOne_61 (by decide) ?_
  refine lv_isub hx hb dX10_saysOne_62 (lv_topi (fun v_9 e_v_9 => ?_))
  obtain ⟨t_v_9, r_v_9⟩ := tq_sub (lo := 0) (hi := 39) r_v_7 rl_1 (by decide +kernel) e_v_9
  have t_v_9 : v_9.toInt = v_7.toInt - 1 := t_v_9
  have x_SNL_p0_gd_gh_gg_v_9 : SNL ws p0 (gd) (gh) (gg) (v_9) := ⟨_, _, n_k_8, ho9, by have k1 := r_v_7.1; omega, by have k1 := r_v_9.1; omega, by omega⟩
  subst hQ
  exact W.iret (v := v_9) hx hb hr (fun t ht hW => ⟨⟨v_9, ws, rfl, ⟨⟨r_v_9.to (by decide), (fun h0 => trivial), (fun h0 => trivial), ⟨x_SNL_p0_gd_gh_gg_v_9, trivial⟩, (fun _ => trivial), (fun _ => trivial)⟩, hw.1, hw.2.2.2.2.1⟩, by rw [ht]; exact hw.2.1, va_K.moved hW.alike hK, hw.2.2.1⟩, hw.2.2.2.1.F ht⟩) hw.2.2.2.1.2.2 dX10_saysOne_63
abbrev wr_X10_readCompare : List (Nat × Nat) := [(10, 5), (10, 6), (10, 7), (10, 8), (10, 9), (10, 10), (10, 11), (10, 12), (10, 13), (10, 45), (10, 48)]
abbrev wa_X10_readCompare : List Nat := [54]
set_option maxHeartbeats 4000000 in
set_option maxRecDepth 100000 in
theorem c_X10_readCompare (l : Launch) (D : va_G) (cy : Nat → ClassId) (z : Nat → Nat) (sz : Nat) (Ps : PSI) (w0 : va_W) (hT : HT cy GG Ps w0) (p0 : Nat) (p1 : Int32) (gd : Int) (gh : Int) (gg : Int) (h_p0 : (p0, 55) ∈ Ps) (r_p1 : RI p1 24 27) (x_SNI_p0_gd_gh_gg : SNI w0 p0 (gd) (gh) (gg)) : Met l yX10_readCompare (Cond.code yX10_readCompare cX10_readCompare 3 (some .boolean) :: gT) ({ frames := 4, cells := 0, slots := 0, locals := 800 } : Room) (va_Pc [.ref p0, .int p1] (PRE D cy z w0 sz)) (va_Qi (fun (r : Int32) (u : va_W) => (RI r 0 1 ∧ (r = 0 → True) ∧ (¬ r = 0 → (∃ v9 : Int32, FLD u p0 10 13 (.int v9) ∧ RI v9 0 999) ∧ (∃ v9 : Int32, FLD u p0 10 48 (.int v9) ∧ RI v9 0 39) ∧ SNT u p0 (gd) (gh) (gg) ∧ True)) ∧ HT cy GG Ps u ∧ FR wr_X10_readCompare wa_X10_readCompare Ps w0 u) (BB D cy (va_A w0 sz) (fun (u : va_W) => u)) (va_A w0 sz)) 0 0 (va_A w0 sz) := by
  refine Met.ofW (cc := cX10_readCompare) (maxL := 3) (ret := (some .boolean)) (by decide) rfl ?_
  intro p e s m args below meth c s₁ B hml hv
  obtain ⟨rfl, hsz, hP, hK, hD0, hSD⟩ := hv
  have hx := B.exec
  have hb := B.bytes
  have hr := B.returns
  have hlocks := B.notSynchronized
  have hts : ∀ w ∈ gT, w.before _ s = true := fun w h => atoms_spec (ws := Cond.code yX10_readCompare cX10_readCompare 3 (some .boolean) :: gT) B.pre w (List.mem_cons_of_mem _ h)
  have hown : s.vm.findClass RX10 = some m.cls := findClass_of_methodNamed B.named
  subst hsz
  have hD := hD0.self (sz := s.heap.size)
  generalize hAe : va_A w0 s.heap.size = A at hD hSD ⊢
  have hA : ∀ q : Nat, s.heap.size ≤ q → A q := fun q h => by rw [← hAe]; exact Or.inr h
  have hl := lv_entry ([.ref p0, .int p1]) (n := 3) (Nat.le_of_ble_eq_true rfl)
  rw [lg_entry_eq]
  generalize (lg_sl ([.ref p0, .int p1]) ++ List.replicate (3 - (lg_sl ([.ref p0, .int p1])).length) Slot.unset).toArray = ls at hl ⊢
  have hl : lv_has ls 3 [(0, .ref p0), (1, .int p1)] := hl
  refine nameQ (fun Q hQ => ?_)
  have hw : WD D cy GG A s wr_X10_readCompare wa_X10_readCompare Ps w0 Ps w0 s.heap [] := ⟨hT, hP, hD, va_S.rf, FR.rf, hT.1, [], (List.append_nil _).symm⟩
  have B33 : ∀ (z0_7 : Int32) (ws : va_W) (H : Heap) (locs : List Loc) (ls : Array Slot), RI p1 24 27 → RI z0_7 4 4 → FLD ws p0 10 7 (.int z0_7) → SNI ws p0 (gd) (gh) (gg) → WD D cy GG A s wr_X10_readCompare wa_X10_readCompare Ps w0 Ps ws H locs → lv_has ls 3 [(0, .ref p0), (1, .int p1)] → W p l e (headSpec (Cond.code yX10_readCompare cX10_readCompare 3 (some .boolean) :: gT) ({ frames := 4, cells := 0, slots := 0, locals := 800 } : Room)).room s m ([.ref p0, .int p1] : List Value).toArray below meth c H locs 0 0 Q (F0 m 33 ls []) := by
    intro z0_7 ws H locs ls r_p1 r_z0_7 m_z0_7 x_SNI_p0_gd_gh_gg hw hl
    refine lv_aload_n hx hb dX10_readCompare_33 rfl (lv_at hl 0 rfl) ?_
    refine tg_get (ci := 10) (ts := ty_MODEL) (C := RX10) (T := TX10) (N := 49) hx hb hts inX10 hown hK hw h_p0 rfl rfl 9 (by decide) (hts _ tw_1146) (fun _ h9 => h9) (ft := vI (-2147483648) 2147483647) rfl dX10_readCompare_34 (fun u_1 hv_u_1 m_u_1 => ?_)
    obtain ⟨vu_1, rfl, r_vu_1⟩ := hv_u_1
    refine lv_istore_n (lv' := [(2, .int vu_1), (0, .ref p0), (1, .int p1)]) hx hb dX10_readCompare_37 rfl hl (by decide) rfl (fun ls hl => ?_)
    refine lv_aload_n hx hb dX10_readCompare_38 rfl (lv_at hl 1 rfl) ?_
    refine tk_v (va_runV (As := []) (rest := []) ⟨hx, hb, hml, hown, hts⟩ (c_X10_go l D cy z H.size Ps ws hw.1 p0 h_p0) (cwV 0 hts (gV tw_1298 tw_1300 ts_40 tw_15 tw_1301) rfl rfl rfl (by decide +kernel) ⟨Nat.le_of_ble_eq_true rfl, Nat.le_of_ble_eq_true rfl⟩) (tg_preV hw hK hSD hA (ci := 10) (q := (RX10, TX10, 49)) rfl h_p0 rfl) rfl rfl hl.1 rfl (lv_room (Nat.le_of_ble_eq_true rfl)) dX10_readCompare_39 ⟨Nat.le_of_ble_eq_true rfl, Nat.le_of_ble_eq_true rfl⟩) hw hA ⟨by decide, by decide⟩ (fun ws H locs hp_v_2 hw hF9 => ?_)
    have x_SNI_p0_gd_gh_gg := SNI.over hF9 x_SNI_p0_gd_gh_gg (by decide)
    refine lv_aload_n hx hb dX10_readCompare_42 rfl (lv_at hl 1 rfl) ?_
    refine lv_iconst (v := 0) hx hb dX10_readCompare_43 (by decide) ?_
    refine lv_sipush (v := 999) hx hb dX10_readCompare_44 (by decide) ?_
    refine tk_i (va_runV (As := [.int 0, .int 999]) (rest := []) ⟨hx, hb, hml, hown, hts⟩ (c_X10_readNumber__5 l D cy z H.size Ps ws hw.1 p0 0 999 h_p0 rl_0 rl_999) (cwV 2 hts (gV tw_1355 tw_1357 ts_50 tw_15 tw_1358) rfl rfl rfl (by decide +kernel) ⟨Nat.le_of_ble_eq_true rfl, Nat.le_of_ble_eq_true rfl⟩) (tg_preV hw hK hSD hA (ci := 10) (q := (RX10, TX10, 49)) rfl h_p0 rfl) rfl rfl hl.1 rfl (lv_room (Nat.le_of_ble_eq_true rfl)) dX10_readCompare_47 ⟨Nat.le_of_ble_eq_true rfl, Nat.le_of_ble_eq_true rfl⟩) hw hA ⟨by decide, by decide⟩ (fun v_3 ws H locs hp_v_3 hw hF9 => ?_)
    have x_SNI_p0_gd_gh_gg := SNI.over hF9 x_SNI_p0_gd_gh_gg (by decide)
    have r_v_3 : RI v_3 0 1 := hp_v_3.1
    by_cases c9_v_3 : v_3 = 0
    · have r_v_3 : RI v_3 0 0 := by rw [c9_v_3]; exact rl_0
      refine lv_if_ne (tgt := 55) hx hb dX10_readCompare_50 (by decide) (fun c_50 => ?_) (fun c_50 => ?_)
      · exact absurd (r_v_3.eq.trans rl_0.eq.symm) ((ti_ne c_50))
      · refine lv_iconst (v := 0) hx hb dX10_readCompare_53 (by decide) ?_
        subst hQ
        exact W.zret (v := 0) hx hb hr (rfl) (fun t ht hW => ⟨⟨0, ws, rfl, ⟨⟨rl_0.to (by decide), (fun h0 => trivial), (fun h0 => absurd rfl h0)⟩, hw.1, hw.2.2.2.2.1⟩, by rw [ht]; exact hw.2.1, va_K.moved hW.alike hK, hw.2.2.1⟩, hw.2.2.2.1.F ht⟩) hw.2.2.2.1.2.2 dX10_readCompare_54
    · have r_v_3 : RI v_3 1 1 := rc_neL r_v_3 rl_0 (ti_ne c9_v_3) (by decide)
      obtain ⟨v_4, m_v_4, r_v_4⟩ := ((hp_v_3.2.2 c9_v_3).1)
      refine lv_if_ne (tgt := 55) hx hb dX10_readCompare_50 (by decide) (fun c_50 => ?_) (fun c_50 => ?_)
      · refine lv_aload_n hx hb dX10_readCompare_55 rfl (lv_at hl 1 rfl) ?_
        refine lv_aload_n hx hb dX10_readCompare_56 rfl (lv_at hl 1 rfl) ?_
        refine lv_bipush (v := 50) hx hb dX10_readCompare_57 (by decide) ?_
        refine lv_iload_n hx hb dX10_readCompare_59 rfl (lv_at hl 2 rfl) ?_
        refine lv_iadd hx hb dX10_readCompare_60 (lv_topi (fun v_5 e_v_5 => ?_))
        obtain ⟨t_v_5, r_v_5⟩ := tq_add (lo := 74) (hi := 77) rl_50 r_p1 (by decide +kernel) e_v_5
        have t_v_5 : v_5.toInt = 50 + p1.toInt := t_v_5
        refine lv_iconst (v := 0) hx hb dX10_readCompare_61 (by decide) ?_
        refine lv_aload_n hx hb dX10_readCompare_62 rfl (lv_at hl 1 rfl) ?_
        refine tg_mem (ci := 10) (C := RX10) (T := TX10) (N := 49) hx hb hts inX10 hown hK hw 13 m_v_4 rfl (by decide) (hts _ tw_1150) (fun _ h9 => h9) dX10_readCompare_63 ?_
        refine lv_iload_n hx hb dX10_readCompare_66 rfl (lv_at hl 0 rfl) ?_
        refine tk_i (va_runV (As := [.int v_5, .int 0, .int v_4, .int vu_1]) (rest := [.ref p0]) ⟨hx, hb, hml, hown, hts⟩ (c_X10_saysOne l D cy z H.size Ps ws hw.1 p0 v_5 0 v_4 vu_1 (gd) (gh) (gg) h_p0 (r_v_5.to (by decide)) (rl_0.to (by decide)) (r_v_4.to (by decide)) r_vu_1 x_SNI_p0_gd_gh_gg) (cwV 4 hts (gV tw_1771 tw_1773 ts_116 tw_15 tw_1774) rfl rfl rfl (by decide +kernel) ⟨Nat.le_of_ble_eq_true rfl, Nat.le_of_ble_eq_true rfl⟩) (tg_preV hw hK hSD hA (ci := 10) (q := (RX10, TX10, 49)) rfl h_p0 rfl) rfl rfl hl.1 rfl (lv_room (Nat.le_of_ble_eq_true rfl)) dX10_readCompare_67 ⟨Nat.le_of_ble_eq_true rfl, Nat.le_of_ble_eq_true rfl⟩) hw hA ⟨by decide, by decide⟩ (fun v_6 ws H locs hp_v_6 hw hF9 => ?_)
        have m_v_4 := FLD.over hF9 m_v_4 (by decide)
        have r_v_6 : RI v_6 0 39 := hp_v_6.1
        have x_SNL_p0_gd_gh_gg_v_6 := hp_v_6.2.2.2.1.1
        refine tg_put (ci := 10) (ts := ty_MODEL) (v := .int v_6) (ty := .int) (C := RX10) (T := TX10) (N := 49) hx hb hts inX10 tyX10 tyX10_ok nmX10 hown hK hw h_p0 rfl rfl 48 (by decide) (hts _ tw_1185) (fun _ h9 => h9) rfl (by decide +kernel) rfl rfl (ft := vI (-2147483648) 2147483647) rfl ⟨_, rfl, (r_v_6.to (by decide))⟩ (by decide) dX10_readCompare_70 (fun ws H locs hw n_k_7 hF9 => ?_)
        have m_v_4 := FLD.over hF9 m_v_4 (by decide)
        have x_SNL_p0_gd_gh_gg_v_6 := SNL.over hF9 x_SNL_p0_gd_gh_gg_v_6 (by decide)
        have x_SNT_p0_gd_gh_gg : SNT ws p0 (gd) (gh) (gg) := (x_SNL_p0_gd_gh_gg_v_6.weak (d' := gd) (h' := gh) (g' := gg) (by have k1 := x_SNL_p0_gd_gh_gg_v_6.le; have d_8 := SNp.le x_SNI_p0_gd_gh_gg.2; have d_7 := x_SNI_p0_gd_gh_gg.1; omega)).snt n_k_7
        refine lv_iconst (v := 1) hx hb dX10_readCompare_73 (by decide) ?_
        subst hQ
        exact W.zret (v := 1) hx hb hr (rfl) (fun t ht hW => ⟨⟨1, ws, rfl, ⟨⟨rl_1.to (by decide), (fun _ => trivial), (fun h0 => ⟨⟨_, m_v_4, r_v_4⟩, ⟨_, n_k_7, r_v_6⟩, x_SNT_p0_gd_gh_gg, trivial⟩)⟩, hw.1, hw.2.2.2.2.1⟩, by rw [ht]; exact hw.2.1, va_K.moved hW.alike hK, hw.2.2.1⟩, hw.2.2.2.1.F ht⟩) hw.2.2.2.1.2.2 dX10_readCompare_74
      · have r_v_3 : RI v_3 1 0 := rc_eq1 r_v_3 rl_0 (ti_eq c_50) (by decide)
        exact (r_v_3.no (by decide)).elim
  refine lv_aload_n hx hb dX10_readCompare_0 rfl (lv_at hl 0 rfl) ?_
  refine lv_bipush (v := 60) hx hb dX10_readCompare_1 (by decide) ?_
  refine tk_ir (va_runV (As := [.int 60]) (rest := []) ⟨hx, hb, hml, hown, hts⟩ (c_X10_isSign l D cy z s.heap.size Ps w0 hw.1 p0 60 h_p0 (rl_60.to (by decide))) (cwV 1 hts (gV tw_1413 tw_1415 ts_63 tw_15 tw_1416) rfl rfl rfl (by decide +kernel) ⟨Nat.le_of_ble_eq_true rfl, Nat.le_of_ble_eq_true rfl⟩) (tg_preV hw hK hSD hA (ci := 10) (q := (RX10, TX10, 49)) rfl h_p0 rfl) rfl rfl hl.1 rfl (lv_room (Nat.le_of_ble_eq_true rfl)) dX10_readCompare_3 ⟨Nat.le_of_ble_eq_true rfl, Nat.le_of_ble_eq_true rfl⟩) hw hA (fun v_8  H locs hp_v_8 hw => ?_)
  have r_v_8 : RI v_8 0 1 := hp_v_8.1
  by_cases c9_v_8 : v_8 = 0
  · have r_v_8 : RI v_8 0 0 := by rw [c9_v_8]; exact rl_0
    refine lv_if_ne (tgt := 33) hx hb dX10_readCompare_6 (by decide) (fun c_6 => ?_) (fun c_6 => ?_)
    · exact absurd (r_v_8.eq.trans rl_0.eq.symm) ((ti_ne c_6))
    · refine lv_aload_n hx hb dX10_readCompare_9 rfl (lv_at hl 0 rfl) ?_
      refine lv_bipush (v := 61) hx hb dX10_readCompare_10 (by decide) ?_
      refine tk_ir (va_runV (As := [.int 61]) (rest := []) ⟨hx, hb, hml, hown, hts⟩ (c_X10_isSign l D cy z H.size Ps w0 hw.1 p0 61 h_p0 (rl_61.to (by decide))) (cwV 1 hts (gV tw_1413 tw_1415 ts_63 tw_15 tw_1416) rfl rfl rfl (by decide +kernel) ⟨Nat.le_of_ble_eq_true rfl, Nat.le_of_ble_eq_true rfl⟩) (tg_preV hw hK hSD hA (ci := 10) (q := (RX10, TX10, 49)) rfl h_p0 rfl) rfl rfl hl.1 rfl (lv_room (Nat.le_of_ble_eq_true rfl)) dX10_readCompare_12 ⟨Nat.le_of_ble_eq_true rfl, Nat.le_of_ble_eq_true rfl⟩) hw hA (fun v_9  H locs hp_v_9 hw => ?_)
      have r_v_9 : RI v_9 0 1 := hp_v_9.1
      by_cases c9_v_9 : v_9 = 0
      · have r_v_9 : RI v_9 0 0 := by rw [c9_v_9]; exact rl_0
        refine lv_if_ne (tgt := 33) hx hb dX10_readCompare_15 (by decide) (fun c_15 => ?_) (fun c_15 => ?_)
        · exact absurd (r_v_9.eq.trans rl_0.eq.symm) ((ti_ne c_15))
        · refine lv_aload_n hx hb dX10_readCompare_18 rfl (lv_at hl 0 rfl) ?_
          refine lv_bipush (v := 62) hx hb dX10_readCompare_19 (by decide) ?_
          refine tk_ir (va_runV (As := [.int 62]) (rest := []) ⟨hx, hb, hml, hown, hts⟩ (c_X10_isSign l D cy z H.size Ps w0 hw.1 p0 62 h_p0 (rl_62.to (by decide))) (cwV 1 hts (gV tw_1413 tw_1415 ts_63 tw_15 tw_1416) rfl rfl rfl (by decide +kernel) ⟨Nat.le_of_ble_eq_true rfl, Nat.le_of_ble_eq_true rfl⟩) (tg_preV hw hK hSD hA (ci := 10) (q := (RX10, TX10, 49)) rfl h_p0 rfl) rfl rfl hl.1 rfl (lv_room (Nat.le_of_ble_eq_true rfl)) dX10_readCompare_21 ⟨Nat.le_of_ble_eq_true rfl, Nat.le_of_ble_eq_true rfl⟩) hw hA (fun v_10  H locs hp_v_10 hw => ?_)
          have r_v_10 : RI v_10 0 1 := hp_v_10.1
          by_cases c9_v_10 : v_10 = 0
          · have r_v_10 : RI v_10 0 0 := by rw [c9_v_10]; exact rl_0
            refine lv_if_ne (tgt := 33) hx hb dX10_readCompare_24 (by decide) (fun c_24 => ?_) (fun c_24 => ?_)
            · exact absurd (r_v_10.eq.trans rl_0.eq.symm) ((ti_ne c_24))
            · refine lv_aload_n hx hb dX10_readCompare_27 rfl (lv_at hl 0 rfl) ?_
              refine lv_iconst (v := 1) hx hb dX10_readCompare_28 (by decide) ?_
              refine tk_i (va_runV (As := [.int 1]) (rest := []) ⟨hx, hb, hml, hown, hts⟩ (c_X10_bad l D cy z H.size Ps w0 hw.1 p0 1 h_p0 (rl_1.to (by decide))) (cwV 1 hts (gV tw_1336 tw_1338 ts_46 tw_15 tw_1339) rfl rfl rfl (by decide +kernel) ⟨Nat.le_of_ble_eq_true rfl, Nat.le_of_ble_eq_true rfl⟩) (tg_preV hw hK hSD hA (ci := 10) (q := (RX10, TX10, 49)) rfl h_p0 rfl) rfl rfl hl.1 rfl (lv_room (Nat.le_of_ble_eq_true rfl)) dX10_readCompare_29 ⟨Nat.le_of_ble_eq_true rfl, Nat.le_of_ble_eq_true rfl⟩) hw hA ⟨by decide, by decide⟩ (fun v_11 ws H locs hp_v_11 hw hF9 => ?_)
              have x_SNI_p0_gd_gh_gg := SNI.over hF9 x_SNI_p0_gd_gh_gg (by decide)
              have r_v_11 : RI v_11 0 0 := hp_v_11.1
              subst hQ
              exact W.zret (v := v_11) hx hb hr (tq_nz (r_v_11.to (by decide))) (fun t ht hW => ⟨⟨v_11, ws, rfl, ⟨⟨r_v_11.to (by decide), (fun h0 => trivial), (fun h0 => absurd (Int32.toInt_inj.mp (by have h8 := r_v_11; unfold RI at h8; rw [Int32.toInt_zero]; omega)) h0)⟩, hw.1, hw.2.2.2.2.1⟩, by rw [ht]; exact hw.2.1, va_K.moved hW.alike hK, hw.2.2.1⟩, hw.2.2.2.1.F ht⟩) hw.2.2.2.1.2.2 dX10_readCompare_32
          · have r_v_10 : RI v_10 1 1 := rc_neL r_v_10 rl_0 (ti_ne c9_v_10) (by decide)
            obtain ⟨v_12, m_v_12, r_v_12⟩ := ((hp_v_10.2.2 c9_v_10).1)
            refine lv_if_ne (tgt := 33) hx hb dX10_readCompare_24 (by decide) (fun c_24 => ?_) (fun c_24 => ?_)
            · exact B33 v_12 w0 _ _ ls r_p1 r_v_12 m_v_12 x_SNI_p0_gd_gh_gg hw hl
            · have r_v_10 : RI v_10 1 0 := rc_eq1 r_v_10 rl_0 (ti_eq c_24) (by decide)
              exact (r_v_10.no (by decide)).elim
      · have r_v_9 : RI v_9 1 1 := rc_neL r_v_9 rl_0 (ti_ne c9_v_9) (by decide)
        obtain ⟨v_13, m_v_13, r_v_13⟩ := ((hp_v_9.2.2 c9_v_9).1)
        refine lv_if_ne (tgt := 33) hx hb dX10_readCompare_15 (by decide) (fun c_15 => ?_) (fun c_15 => ?_)
        · exact B33 v_13 w0 _ _ ls r_p1 r_v_13 m_v_13 x_SNI_p0_gd_gh_gg hw hl
        · have r_v_9 : RI v_9 1 0 := rc_eq1 r_v_9 rl_0 (ti_eq c_15) (by decide)
          exact (r_v_9.no (by decide)).elim
  · have r_v_8 : RI v_8 1 1 := rc_neL r_v_8 rl_0 (ti_ne c9_v_8) (by decide)
    obtain ⟨v_14, m_v_14, r_v_14⟩ := ((hp_v_8.2.2 c9_v_8).1)
    refine lv_if_ne (tgt := 33) hx hb dX10_readCompare_6 (by decide) (fun c_6 => ?_) (fun c_6 => ?_)
    · exact B33 v_14 w0 _ _ ls r_p1 r_v_14 m_v_14 x_SNI_p0_gd_gh_gg hw hl
    · have r_v_8 : RI v_8 1 0 := rc_eq1 r_v_8 rl_0 (ti_eq c_6) (by decide)
      exact (r_v_8.no (by decide)).elim
abbrev wr_X10_findIn__6 : List (Nat × Nat) := []
abbrev wa_X10_findIn__6 : List Nat := []
set_option maxHeartbeats 4000000 in
set_option maxRecDepth 100000 in
theorem c_X10_findIn__6 (l : Launch) (D : va_G) (cy : Nat → ClassId) (z : Nat → Nat) (sz : Nat) (Ps : PSI) (w0 : va_W) (hT : HT cy GG Ps w0) (p0 : Nat) (p1 : Int32) (p2 : Int32) (p3 : Int64) (h_p0 : (p0, 41) ∈ Ps) (r_p1 : RI p1 6 6) (r_p2 : RI p2 0 4) (r_p3 : RJ p3 (-9223372036854775808) 9223372036854775807) : Met l yX10_findIn (Cond.code yX10_findIn cX10_findIn 6 (some .int) :: gT) ({ frames := 0, cells := 0, slots := 0, locals := 200 } : Room) (va_Pc [.ref p0, .int p1, .int p2, .long p3] (PRE D cy z w0 sz)) (va_Qi (fun (r : Int32) (u : Unit) => RI r (-1) 3 ∧ (r = 0 → True) ∧ (¬ r = 0 → True) ∧ (True) ∧ (r.toInt < 0 → NFD w0 p0 p1 p2 p3 ∧ True) ∧ (0 ≤ r.toInt → FDD w0 p0 p1 p2 p3 ∧ 1 ≤ Int32.toInt p2 ∧ True)) (BB D cy (va_A w0 sz) (fun (u : Unit) => w0)) (va_A w0 sz)) 0 0 (va_A w0 sz) := by
  refine Met.ofW (cc := cX10_findIn) (maxL := 6) (ret := (some .int)) (by decide) rfl ?_
  intro p e s m args below meth c s₁ B hml hv
  obtain ⟨rfl, hsz, hP, hK, hD0, hSD⟩ := hv
  have hx := B.exec
  have hb := B.bytes
  have hr := B.returns
  have hlocks := B.notSynchronized
  have hts : ∀ w ∈ gT, w.before _ s = true := fun w h => atoms_spec (ws := Cond.code yX10_findIn cX10_findIn 6 (some .int) :: gT) B.pre w (List.mem_cons_of_mem _ h)
  have hown : s.vm.findClass RX10 = some m.cls := findClass_of_methodNamed B.named
  subst hsz
  have hD := hD0.self (sz := s.heap.size)
  generalize hAe : va_A w0 s.heap.size = A at hD hSD ⊢
  have hA : ∀ q : Nat, s.heap.size ≤ q → A q := fun q h => by rw [← hAe]; exact Or.inr h
  have hl := lv_entry ([.ref p0, .int p1, .int p2, .long p3]) (n := 6) (Nat.le_of_ble_eq_true rfl)
  rw [lg_entry_eq]
  generalize (lg_sl ([.ref p0, .int p1, .int p2, .long p3]) ++ List.replicate (6 - (lg_sl ([.ref p0, .int p1, .int p2, .long p3])).length) Slot.unset).toArray = ls at hl ⊢
  have hl : lv_has ls 6 [(0, .ref p0), (1, .int p1), (2, .int p2), (3, .long p3)] := hl
  refine nameQ (fun Q hQ => ?_)
  have hw : WD D cy GG A s wr_X10_findIn__6 wa_X10_findIn__6 Ps w0 Ps w0 s.heap [] := ⟨hT, hP, hD, va_S.rf, FR.rf, hT.1, [], (List.append_nil _).symm⟩
  have B3 : ∀ (nf : Nat) (x5 : Int32) (H : Heap) (locs : List Loc) (ls : Array Slot), 4 - x5.toInt < (nf : Int) → RI p1 6 6 → RI p2 0 4 → RJ p3 (-9223372036854775808) 9223372036854775807 → RI x5 0 4 → NFD w0 p0 p1 x5 p3 → WD D cy GG A s wr_X10_findIn__6 wa_X10_findIn__6 Ps w0 Ps w0 H locs → lv_has ls 6 [(0, .ref p0), (1, .int p1), (2, .int p2), (3, .long p3), (5, .int x5)] → W p l e (headSpec (Cond.code yX10_findIn cX10_findIn 6 (some .int) :: gT) ({ frames := 0, cells := 0, slots := 0, locals := 200 } : Room)).room s m ([.ref p0, .int p1, .int p2, .long p3] : List Value).toArray below meth c H locs 0 0 Q (F0 m 3 ls []) := by
    intro nf3
    induction nf3 with
    | zero =>
      intro x5 H locs ls hn3 r_p1 r_p2 r_p3 r_x5 x_NF_p0_p1__5_p3 hw hl
      exact absurd hn3 (by have q0 := r_x5.1; have u0 := r_x5.2; omega)
    | succ nf3 ih3 =>
      intro x5 H locs ls hn3 r_p1 r_p2 r_p3 r_x5 x_NF_p0_p1__5_p3 hw hl
      refine lv_iload hx hb dX10_findIn_3 (lv_at hl 4 rfl) ?_
      refine lv_iload_n hx hb dX10_findIn_5 rfl (lv_at hl 2 rfl) ?_
      refine lv_icmp_ge (tgt := 29) hx hb dX10_findIn_6 (by decide) (fun c_6 => ?_) (fun c_6 => ?_)
      · have x_NF_p0_p1_p2_p3 : NFD w0 p0 p1 p2 p3 := NFD.mono x_NF_p0_p1__5_p3 c_6
        refine lv_iconst (v := (-1)) hx hb dX10_findIn_29 (by decide) ?_
        subst hQ
        exact W.iret (v := (-1)) hx hb hr (fun t ht hW => ⟨⟨(-1), (), rfl, ⟨rl_m1.to (by decide), (fun _ => trivial), (fun h0 => trivial), trivial, (fun h0 => ⟨x_NF_p0_p1_p2_p3, trivial⟩), (fun h0 => absurd h0 (by have h8 := rl_m1; unfold RI at h8; omega))⟩, by rw [ht]; exact hw.2.1, va_K.moved hW.alike hK, hw.2.2.1⟩, hw.2.2.2.1.F ht⟩) hw.2.2.2.1.2.2 dX10_findIn_30
      · have r_x5 : RI x5 0 3 := rc_lt1 r_x5 r_p2 (ti_nle c_6) (by decide)
        have r_p2 : RI p2 1 4 := rc_lt2 r_x5 r_p2 (ti_nle c_6) (by decide)
        refine lv_aload_n hx hb dX10_findIn_9 rfl (lv_at hl 0 rfl) ?_
        refine lv_iload_n hx hb dX10_findIn_10 rfl (lv_at hl 1 rfl) ?_
        refine lv_iload hx hb dX10_findIn_11 (lv_at hl 4 rfl) ?_
        refine lv_iadd hx hb dX10_findIn_13 (lv_topi (fun v_1 e_v_1 => ?_))
        obtain ⟨t_v_1, r_v_1⟩ := tq_add (lo := 6) (hi := 9) r_p1 r_x5 (by decide +kernel) e_v_1
        refine tg_laldE hx hb hK hw h_p0 rfl r_v_1 (by decide) dX10_findIn_14 (fun w_2 r_w_2 l_w_2 => ?_)
        refine lv_lload_n hx hb dX10_findIn_15 rfl (lv_at hl 3 rfl) ?_
        refine W.lcmp hx hb dX10_findIn_16 (lv_topi (fun v_3 e_v_3 => ?_))
        have r_v_3 := ri_any v_3
        refine lv_if_ne (tgt := 23) hx hb dX10_findIn_17 (by decide) (fun c_17 => ?_) (fun c_17 => ?_)
        · obtain ⟨v_4, e_v_4⟩ : ∃ q9 : Int32, q9 = x5 + Int32.ofInt 1 := ⟨_, rfl⟩
          obtain ⟨t_v_4, r_v_4⟩ := tq_add (lo := 1) (hi := 4) r_x5 (show RI (Int32.ofInt 1) 1 1 by unfold RI; decide +kernel) (by decide +kernel) e_v_4
          have t_v_4 : v_4.toInt = x5.toInt + 1 := t_v_4
          refine lv_iinc (v := v_4) (lv' := [(5, .int v_4), (0, .ref p0), (1, .int p1), (2, .int p2), (3, .long p3)]) hx hb dX10_findIn_23 hl (k := 4) rfl e_v_4.symm (by decide) rfl (fun ls hl => ?_)
          refine lv_goto (tgt := 3) hx hb dX10_findIn_26 (by decide) ?_
          have x_NF_p0_p1_v_4_p3 : NFD w0 p0 p1 v_4 p3 := NFD.step hw x_NF_p0_p1__5_p3 l_w_2 (by have k1 := r_v_1.cl (by decide); have k2 := r_p1.cl (by decide); have k3 := r_x5.cl (by decide); omega) (lcmp_ne e_v_3 c_17) t_v_4 r_x5.1
          exact ih3 v_4 _ _ ls (by have q0 := r_v_4.1; have u0 := r_v_4.2; have o0 := r_x5.1; have p0 := r_x5.2; omega) r_p1 (r_p2.to (by decide)) r_p3 (r_v_4.to (by decide)) x_NF_p0_p1_v_4_p3 hw (lv_sub hl [1, 2, 3, 4, 0] rfl)
        · have r_v_3 : RI v_3 0 0 := rc_eq1 r_v_3 rl_0 (ti_eq c_17) (by decide)
          have x_FD_p0_p1_p2_p3 : FDD w0 p0 p1 p2 p3 := FDD.mk l_w_2 (by have k1 := r_v_1.cl (by decide); have k2 := r_p1.cl (by decide); have k3 := r_x5.cl (by decide); omega) (lcmp_eq e_v_3 c_17) (ti_nle c_6) r_x5.1
          have x_POS_p2 : 1 ≤ Int32.toInt p2 := by have k1 := ti_nle c_6; have k2 := r_x5.1; omega
          refine lv_iload hx hb dX10_findIn_20 (lv_at hl 4 rfl) ?_
          subst hQ
          exact W.iret (v := x5) hx hb hr (fun t ht hW => ⟨⟨x5, (), rfl, ⟨r_x5.to (by decide), (fun h0 => trivial), (fun h0 => trivial), trivial, (fun h0 => absurd h0 (by have h8 := r_x5; unfold RI at h8; omega)), (fun h0 => ⟨x_FD_p0_p1_p2_p3, x_POS_p2, trivial⟩)⟩, by rw [ht]; exact hw.2.1, va_K.moved hW.alike hK, hw.2.2.1⟩, hw.2.2.2.1.F ht⟩) hw.2.2.2.1.2.2 dX10_findIn_22
  refine lv_iconst (v := 0) hx hb dX10_findIn_0 (by decide) ?_
  refine lv_istore (lv' := [(5, .int 0), (0, .ref p0), (1, .int p1), (2, .int p2), (3, .long p3)]) hx hb dX10_findIn_1 hl (by decide) rfl (fun ls hl => ?_)
  have x_NF_p0_p1_0_p3 : NFD w0 p0 p1 0 p3 := NFD.zero hw h_p0 rfl
  exact B3 4294967298 0 _ _ ls (by have q0 := rl_0.1; have u0 := rl_0.2; omega) r_p1 r_p2 r_p3 (rl_0.to (by decide)) x_NF_p0_p1_0_p3 hw (lv_sub hl [1, 2, 3, 4, 0] rfl)
abbrev wr_X10_readNamed__2 : List (Nat × Nat) := [(10, 5), (10, 6), (10, 7), (10, 8), (10, 9), (10, 10), (10, 11), (10, 12), (10, 13)]
abbrev wa_X10_readNamed__2 : List Nat := []
set_option maxHeartbeats 4000000 in
set_option maxRecDepth 100000 in
theorem c_X10_readNamed__2 (l : Launch) (D : va_G) (cy : Nat → ClassId) (z : Nat → Nat) (sz : Nat) (Ps : PSI) (w0 : va_W) (hT : HT cy GG Ps w0) (p0 : Nat) (p1 : Int32) (p2 : Int32) (h_p0 : (p0, 55) ∈ Ps) (r_p1 : RI p1 6 6) (r_p2 : RI p2 0 4) : Met l yX10_readNamed (Cond.code yX10_readNamed cX10_readNamed 3 (some .boolean) :: gT) ({ frames := 4, cells := 0, slots := 0, locals := 800 } : Room) (va_Pc [.ref p0, .int p1, .int p2] (PRE D cy z w0 sz)) (va_Qi (fun (r : Int32) (u : va_W) => (RI r 0 1 ∧ (r = 0 → True) ∧ (¬ r = 0 → RI p2 1 4 ∧ (∃ v9 : Int32, FLD u p0 10 13 (.int v9) ∧ RI v9 0 3) ∧ True)) ∧ HT cy GG Ps u ∧ FR wr_X10_readNamed__2 wa_X10_readNamed__2 Ps w0 u) (BB D cy (va_A w0 sz) (fun (u : va_W) => u)) (va_A w0 sz)) 0 0 (va_A w0 sz) := by
  refine Met.ofW (cc := cX10_readNamed) (maxL := 3) (ret := (some .boolean)) (by decide) rfl ?_
  intro p e s m args below meth c s₁ B hml hv
  obtain ⟨rfl, hsz, hP, hK, hD0, hSD⟩ := hv
  have hx := B.exec
  have hb := B.bytes
  have hr := B.returns
  have hlocks := B.notSynchronized
  have hts : ∀ w ∈ gT, w.before _ s = true := fun w h => atoms_spec (ws := Cond.code yX10_readNamed cX10_readNamed 3 (some .boolean) :: gT) B.pre w (List.mem_cons_of_mem _ h)
  have hown : s.vm.findClass RX10 = some m.cls := findClass_of_methodNamed B.named
  subst hsz
  have hD := hD0.self (sz := s.heap.size)
  generalize hAe : va_A w0 s.heap.size = A at hD hSD ⊢
  have hA : ∀ q : Nat, s.heap.size ≤ q → A q := fun q h => by rw [← hAe]; exact Or.inr h
  have hl := lv_entry ([.ref p0, .int p1, .int p2]) (n := 3) (Nat.le_of_ble_eq_true rfl)
  rw [lg_entry_eq]
  generalize (lg_sl ([.ref p0, .int p1, .int p2]) ++ List.replicate (3 - (lg_sl ([.ref p0, .int p1, .int p2])).length) Slot.unset).toArray = ls at hl ⊢
  have hl : lv_has ls 3 [(0, .ref p0), (1, .int p1), (2, .int p2)] := hl
  refine nameQ (fun Q hQ => ?_)
  have hw : WD D cy GG A s wr_X10_readNamed__2 wa_X10_readNamed__2 Ps w0 Ps w0 s.heap [] := ⟨hT, hP, hD, va_S.rf, FR.rf, hT.1, [], (List.append_nil _).symm⟩
  refine lv_aload_n hx hb dX10_readNamed_0 rfl (lv_at hl 0 rfl) ?_
  refine tk_ir (va_runV (As := []) (rest := []) ⟨hx, hb, hml, hown, hts⟩ (c_X10_isName l D cy z s.heap.size Ps w0 hw.1 p0 h_p0) (cwV 0 hts (gV tw_1344 tw_1346 ts_48 tw_15 tw_1347) rfl rfl rfl (by decide +kernel) ⟨Nat.le_of_ble_eq_true rfl, Nat.le_of_ble_eq_true rfl⟩) (tg_preV hw hK hSD hA (ci := 10) (q := (RX10, TX10, 49)) rfl h_p0 rfl) rfl rfl hl.1 rfl (lv_room (Nat.le_of_ble_eq_true rfl)) dX10_readNamed_1 ⟨Nat.le_of_ble_eq_true rfl, Nat.le_of_ble_eq_true rfl⟩) hw hA (fun v_1  H locs hp_v_1 hw => ?_)
  have r_v_1 : RI v_1 0 1 := hp_v_1.1
  refine lv_if_ne (tgt := 13) hx hb dX10_readNamed_4 (by decide) (fun c_4 => ?_) (fun c_4 => ?_)
  · have r_v_1 : RI v_1 1 1 := rc_neL r_v_1 rl_0 (ti_ne c_4) (by decide)
    refine lv_aload_n hx hb dX10_readNamed_13 rfl (lv_at hl 0 rfl) ?_
    refine lv_aload_n hx hb dX10_readNamed_14 rfl (lv_at hl 0 rfl) ?_
    refine tg_get (ci := 10) (ts := ty_MODEL) (C := RX10) (T := TX10) (N := 49) hx hb hts inX10 hown hK hw h_p0 rfl rfl 20 (by decide) (hts _ tw_1157) (fun _ h9 => h9) (ft := vR 41) rfl dX10_readNamed_15 (fun u_2 hv_u_2 m_u_2 => ?_)
    obtain ⟨vu_2, rfl, h_vu_2⟩ := hv_u_2
    refine lv_iload_n hx hb dX10_readNamed_18 rfl (lv_at hl 1 rfl) ?_
    refine lv_iload_n hx hb dX10_readNamed_19 rfl (lv_at hl 2 rfl) ?_
    refine lv_aload_n hx hb dX10_readNamed_20 rfl (lv_at hl 0 rfl) ?_
    refine tg_get (ci := 10) (ts := ty_MODEL) (C := RX10) (T := TX10) (N := 49) hx hb hts inX10 hown hK hw h_p0 rfl rfl 12 (by decide) (hts _ tw_1149) (fun _ h9 => h9) (ft := vJ (-9223372036854775808) 9223372036854775807) rfl dX10_readNamed_21 (fun u_3 hv_u_3 m_u_3 => ?_)
    obtain ⟨vu_3, rfl, r_vu_3⟩ := hv_u_3
    refine tk_ir (va_runS (As := [.ref vu_2, .int p1, .int p2, .long vu_3]) (rest := [.ref p0]) ⟨hx, hb, hml, hown, hts⟩ (c_X10_findIn__6 l D cy z H.size Ps w0 hw.1 vu_2 p1 p2 vu_3 h_vu_2 r_p1 r_p2 r_vu_3) (va_cwS 4 hts (gS tw_1352 tw_1353 tw_15 tw_1354) rfl rfl rfl (by decide +kernel) ⟨Nat.le_of_ble_eq_true rfl, Nat.le_of_ble_eq_true rfl⟩) (tg_preS hw hK hSD hA) rfl rfl hl.1 rfl (lv_room (Nat.le_of_ble_eq_true rfl)) dX10_readNamed_24 ⟨Nat.le_of_ble_eq_true rfl, Nat.le_of_ble_eq_true rfl⟩) hw hA (fun v_4  H locs hp_v_4 hw => ?_)
    have r_v_4 : RI v_4 (-1) 3 := hp_v_4.1
    by_cases c9_v_4 : v_4.toInt < 0
    · have r_v_4 : RI v_4 (-1) (-1) := by unfold RI at r_v_4 ⊢; omega
      have x_NF_vu_2_p1_p2_vu_3 := (hp_v_4.2.2.2.2.1 (by omega)).1
      refine tg_put (ci := 10) (ts := ty_MODEL) (v := .int v_4) (ty := .int) (C := RX10) (T := TX10) (N := 49) hx hb hts inX10 tyX10 tyX10_ok nmX10 hown hK hw h_p0 rfl rfl 13 (by decide) (hts _ tw_1150) (fun _ h9 => h9) rfl (by decide +kernel) rfl rfl (ft := vI (-2147483648) 2147483647) rfl ⟨_, rfl, (r_v_4.to (by decide))⟩ (by decide) dX10_readNamed_27 (fun ws H locs hw n_k_5 hF9 => ?_)
      refine lv_aload_n hx hb dX10_readNamed_30 rfl (lv_at hl 0 rfl) ?_
      refine tg_mem (ci := 10) (C := RX10) (T := TX10) (N := 49) hx hb hts inX10 hown hK hw 13 n_k_5 rfl (by decide) (hts _ tw_1150) (fun _ h9 => h9) dX10_readNamed_31 ?_
      refine lv_iconst (v := (-1)) hx hb dX10_readNamed_34 (by decide) ?_
      refine lv_icmp_ne (tgt := 44) hx hb dX10_readNamed_35 (by decide) (fun c_35 => ?_) (fun c_35 => ?_)
      · exact absurd (r_v_4.eq.trans rl_m1.eq.symm) ((ti_ne c_35))
      · refine lv_aload_n hx hb dX10_readNamed_38 rfl (lv_at hl 0 rfl) ?_
        refine lv_iconst (v := 3) hx hb dX10_readNamed_39 (by decide) ?_
        refine tk_i (va_runV (As := [.int 3]) (rest := []) ⟨hx, hb, hml, hown, hts⟩ (c_X10_bad l D cy z H.size Ps ws hw.1 p0 3 h_p0 (rl_3.to (by decide))) (cwV 1 hts (gV tw_1336 tw_1338 ts_46 tw_15 tw_1339) rfl rfl rfl (by decide +kernel) ⟨Nat.le_of_ble_eq_true rfl, Nat.le_of_ble_eq_true rfl⟩) (tg_preV hw hK hSD hA (ci := 10) (q := (RX10, TX10, 49)) rfl h_p0 rfl) rfl rfl hl.1 rfl (lv_room (Nat.le_of_ble_eq_true rfl)) dX10_readNamed_40 ⟨Nat.le_of_ble_eq_true rfl, Nat.le_of_ble_eq_true rfl⟩) hw hA ⟨by decide, by decide⟩ (fun v_6 ws H locs hp_v_6 hw hF9 => ?_)
        have n_k_5 := FLD.over hF9 n_k_5 (by decide)
        have r_v_6 : RI v_6 0 0 := hp_v_6.1
        subst hQ
        exact W.zret (v := v_6) hx hb hr (tq_nz (r_v_6.to (by decide))) (fun t ht hW => ⟨⟨v_6, ws, rfl, ⟨⟨r_v_6.to (by decide), (fun h0 => trivial), (fun h0 => absurd (Int32.toInt_inj.mp (by have h8 := r_v_6; unfold RI at h8; rw [Int32.toInt_zero]; omega)) h0)⟩, hw.1, hw.2.2.2.2.1⟩, by rw [ht]; exact hw.2.1, va_K.moved hW.alike hK, hw.2.2.1⟩, hw.2.2.2.1.F ht⟩) hw.2.2.2.1.2.2 dX10_readNamed_43
    · have r_v_4 : RI v_4 0 3 := by unfold RI at r_v_4 ⊢; omega
      have x_FD_vu_2_p1_p2_vu_3 := (hp_v_4.2.2.2.2.2 (by omega)).1
      have x_POS_p2 := (hp_v_4.2.2.2.2.2 (by omega)).2.1
      have r_p2 : RI p2 1 4 := ⟨x_POS_p2, r_p2.2⟩
      refine tg_put (ci := 10) (ts := ty_MODEL) (v := .int v_4) (ty := .int) (C := RX10) (T := TX10) (N := 49) hx hb hts inX10 tyX10 tyX10_ok nmX10 hown hK hw h_p0 rfl rfl 13 (by decide) (hts _ tw_1150) (fun _ h9 => h9) rfl (by decide +kernel) rfl rfl (ft := vI (-2147483648) 2147483647) rfl ⟨_, rfl, (r_v_4.to (by decide))⟩ (by decide) dX10_readNamed_27 (fun ws H locs hw n_k_7 hF9 => ?_)
      refine lv_aload_n hx hb dX10_readNamed_30 rfl (lv_at hl 0 rfl) ?_
      refine tg_mem (ci := 10) (C := RX10) (T := TX10) (N := 49) hx hb hts inX10 hown hK hw 13 n_k_7 rfl (by decide) (hts _ tw_1150) (fun _ h9 => h9) dX10_readNamed_31 ?_
      refine lv_iconst (v := (-1)) hx hb dX10_readNamed_34 (by decide) ?_
      refine lv_icmp_ne (tgt := 44) hx hb dX10_readNamed_35 (by decide) (fun c_35 => ?_) (fun c_35 => ?_)
      · refine lv_aload_n hx hb dX10_readNamed_44 rfl (lv_at hl 0 rfl) ?_
        refine tk_v (va_runV (As := []) (rest := []) ⟨hx, hb, hml, hown, hts⟩ (c_X10_go l D cy z H.size Ps ws hw.1 p0 h_p0) (cwV 0 hts (gV tw_1298 tw_1300 ts_40 tw_15 tw_1301) rfl rfl rfl (by decide +kernel) ⟨Nat.le_of_ble_eq_true rfl, Nat.le_of_ble_eq_true rfl⟩) (tg_preV hw hK hSD hA (ci := 10) (q := (RX10, TX10, 49)) rfl h_p0 rfl) rfl rfl hl.1 rfl (lv_room (Nat.le_of_ble_eq_true rfl)) dX10_readNamed_45 ⟨Nat.le_of_ble_eq_true rfl, Nat.le_of_ble_eq_true rfl⟩) hw hA ⟨by decide, by decide⟩ (fun ws H locs hp_v_8 hw hF9 => ?_)
        have n_k_7 := FLD.over hF9 n_k_7 (by decide)
        refine lv_iconst (v := 1) hx hb dX10_readNamed_48 (by decide) ?_
        subst hQ
        exact W.zret (v := 1) hx hb hr (rfl) (fun t ht hW => ⟨⟨1, ws, rfl, ⟨⟨rl_1.to (by decide), (fun _ => trivial), (fun h0 => ⟨r_p2, ⟨_, n_k_7, r_v_4⟩, trivial⟩)⟩, hw.1, hw.2.2.2.2.1⟩, by rw [ht]; exact hw.2.1, va_K.moved hW.alike hK, hw.2.2.1⟩, hw.2.2.2.1.F ht⟩) hw.2.2.2.1.2.2 dX10_readNamed_49
      · have r_v_4 : RI v_4 0 (-1) := rc_eq1 r_v_4 rl_m1 (ti_eq c_35) (by decide)
        exact (r_v_4.no (by decide)).elim
  · have r_v_1 : RI v_1 0 0 := rc_eq1 r_v_1 rl_0 (ti_eq c_4) (by decide)
    refine lv_aload_n hx hb dX10_readNamed_7 rfl (lv_at hl 0 rfl) ?_
    refine lv_iconst (v := 1) hx hb dX10_readNamed_8 (by decide) ?_
    refine tk_i (va_runV (As := [.int 1]) (rest := []) ⟨hx, hb, hml, hown, hts⟩ (c_X10_bad l D cy z H.size Ps w0 hw.1 p0 1 h_p0 (rl_1.to (by decide))) (cwV 1 hts (gV tw_1336 tw_1338 ts_46 tw_15 tw_1339) rfl rfl rfl (by decide +kernel) ⟨Nat.le_of_ble_eq_true rfl, Nat.le_of_ble_eq_true rfl⟩) (tg_preV hw hK hSD hA (ci := 10) (q := (RX10, TX10, 49)) rfl h_p0 rfl) rfl rfl hl.1 rfl (lv_room (Nat.le_of_ble_eq_true rfl)) dX10_readNamed_9 ⟨Nat.le_of_ble_eq_true rfl, Nat.le_of_ble_eq_true rfl⟩) hw hA ⟨by decide, by decide⟩ (fun v_9 ws H locs hp_v_9 hw hF9 => ?_)
    have r_v_9 : RI v_9 0 0 := hp_v_9.1
    subst hQ
    exact W.zret (v := v_9) hx hb hr (tq_nz (r_v_9.to (by decide))) (fun t ht hW => ⟨⟨v_9, ws, rfl, ⟨⟨r_v_9.to (by decide), (fun h0 => trivial), (fun h0 => absurd (Int32.toInt_inj.mp (by have h8 := r_v_9; unfold RI at h8; rw [Int32.toInt_zero]; omega)) h0)⟩, hw.1, hw.2.2.2.2.1⟩, by rw [ht]; exact hw.2.1, va_K.moved hW.alike hK, hw.2.2.1⟩, hw.2.2.2.1.F ht⟩) hw.2.2.2.1.2.2 dX10_readNamed_12
abbrev wr_X10_readOf : List (Nat × Nat) := [(10, 5), (10, 6), (10, 7), (10, 8), (10, 9), (10, 10), (10, 11), (10, 12), (10, 13), (10, 45), (10, 48)]
abbrev wa_X10_readOf : List Nat := [54]
set_option maxHeartbeats 4000000 in
set_option maxRecDepth 100000 in
theorem c_X10_readOf (l : Launch) (D : va_G) (cy : Nat → ClassId) (z : Nat → Nat) (sz : Nat) (Ps : PSI) (w0 : va_W) (hT : HT cy GG Ps w0) (p0 : Nat) (p1 : Int32) (gd : Int) (gh : Int) (gg : Int) (h_p0 : (p0, 55) ∈ Ps) (r_p1 : RI p1 22 23) (x_SNI_p0_gd_gh_gg : SNI w0 p0 (gd) (gh) (gg)) : Met l yX10_readOf (Cond.code yX10_readOf cX10_readOf 2 (some .boolean) :: gT) ({ frames := 5, cells := 0, slots := 0, locals := 1000 } : Room) (va_Pc [.ref p0, .int p1] (PRE D cy z w0 sz)) (va_Qi (fun (r : Int32) (u : va_W) => (RI r 0 1 ∧ (r = 0 → True) ∧ (¬ r = 0 → (∃ v9 : Int32, FLD u p0 10 13 (.int v9) ∧ RI v9 0 5) ∧ (∃ v9 : Int32, FLD u p0 10 48 (.int v9) ∧ RI v9 0 39) ∧ SNT u p0 (gd) (gh) (gg) ∧ True)) ∧ HT cy GG Ps u ∧ FR wr_X10_readOf wa_X10_readOf Ps w0 u) (BB D cy (va_A w0 sz) (fun (u : va_W) => u)) (va_A w0 sz)) 0 0 (va_A w0 sz) := by
  refine Met.ofW (cc := cX10_readOf) (maxL := 2) (ret := (some .boolean)) (by decide) rfl ?_
  intro p e s m args below meth c s₁ B hml hv
  obtain ⟨rfl, hsz, hP, hK, hD0, hSD⟩ := hv
  have hx := B.exec
  have hb := B.bytes
  have hr := B.returns
  have hlocks := B.notSynchronized
  have hts : ∀ w ∈ gT, w.before _ s = true := fun w h => atoms_spec (ws := Cond.code yX10_readOf cX10_readOf 2 (some .boolean) :: gT) B.pre w (List.mem_cons_of_mem _ h)
  have hown : s.vm.findClass RX10 = some m.cls := findClass_of_methodNamed B.named
  subst hsz
  have hD := hD0.self (sz := s.heap.size)
  generalize hAe : va_A w0 s.heap.size = A at hD hSD ⊢
  have hA : ∀ q : Nat, s.heap.size ≤ q → A q := fun q h => by rw [← hAe]; exact Or.inr h
  have hl := lv_entry ([.ref p0, .int p1]) (n := 2) (Nat.le_of_ble_eq_true rfl)
  rw [lg_entry_eq]
  generalize (lg_sl ([.ref p0, .int p1]) ++ List.replicate (2 - (lg_sl ([.ref p0, .int p1])).length) Slot.unset).toArray = ls at hl ⊢
  have hl : lv_has ls 2 [(0, .ref p0), (1, .int p1)] := hl
  refine nameQ (fun Q hQ => ?_)
  have hw : WD D cy GG A s wr_X10_readOf wa_X10_readOf Ps w0 Ps w0 s.heap [] := ⟨hT, hP, hD, va_S.rf, FR.rf, hT.1, [], (List.append_nil _).symm⟩
  refine lv_aload_n hx hb dX10_readOf_0 rfl (lv_at hl 0 rfl) ?_
  refine lv_iload_n hx hb dX10_readOf_1 rfl (lv_at hl 1 rfl) ?_
  refine lv_bipush (v := 22) hx hb dX10_readOf_2 (by decide) ?_
  refine lv_icmp_ne (tgt := 11) hx hb dX10_readOf_4 (by decide) (fun c_4 => ?_) (fun c_4 => ?_)
  · have r_p1 : RI p1 23 23 := rc_neL r_p1 rl_22 (ti_ne c_4) (by decide)
    refine lv_bipush (v := 6) hx hb dX10_readOf_11 (by decide) ?_
    refine lv_aload_n hx hb dX10_readOf_13 rfl (lv_at hl 0 rfl) ?_
    refine tg_get (ci := 10) (ts := ty_MODEL) (C := RX10) (T := TX10) (N := 49) hx hb hts inX10 hown hK hw h_p0 rfl rfl 14 (by decide) (hts _ tw_1151) (fun _ h9 => h9) (ft := vR 34) rfl dX10_readOf_14 (fun u_1 hv_u_1 m_u_1 => ?_)
    obtain ⟨vu_1, rfl, h_vu_1⟩ := hv_u_1
    refine lv_iload_n hx hb dX10_readOf_17 rfl (lv_at hl 1 rfl) ?_
    refine lv_bipush (v := 22) hx hb dX10_readOf_18 (by decide) ?_
    refine lv_icmp_ne (tgt := 27) hx hb dX10_readOf_20 (by decide) (fun c_20 => ?_) (fun c_20 => ?_)
    · refine lv_iconst (v := 1) hx hb dX10_readOf_27 (by decide) ?_
      refine tg_iald (lo := 0) (hi := 4) hx hb hK hw h_vu_1 rfl 1 1 rl_1 (by decide) (by decide +kernel) dX10_readOf_28 (fun v_2 r_v_2 m_v_2 o_v_2 => ?_)
      refine tk_i (va_runV (As := [.int 6, .int v_2]) (rest := []) ⟨hx, hb, hml, hown, hts⟩ (c_X10_readNamed__2 l D cy z s.heap.size Ps w0 hw.1 p0 6 v_2 h_p0 rl_6 r_v_2) (cwV 2 hts (gV tw_1723 tw_1725 ts_106 tw_15 tw_1726) rfl rfl rfl (by decide +kernel) ⟨Nat.le_of_ble_eq_true rfl, Nat.le_of_ble_eq_true rfl⟩) (tg_preV hw hK hSD hA (ci := 10) (q := (RX10, TX10, 49)) rfl h_p0 rfl) rfl rfl hl.1 rfl (lv_room (Nat.le_of_ble_eq_true rfl)) dX10_readOf_29 ⟨Nat.le_of_ble_eq_true rfl, Nat.le_of_ble_eq_true rfl⟩) hw hA ⟨by decide, by decide⟩ (fun v_3 ws H locs hp_v_3 hw hF9 => ?_)
      have x_SNI_p0_gd_gh_gg := SNI.over hF9 x_SNI_p0_gd_gh_gg (by decide)
      have r_v_3 : RI v_3 0 1 := hp_v_3.1
      by_cases c9_v_3 : v_3 = 0
      · have r_v_3 : RI v_3 0 0 := by rw [c9_v_3]; exact rl_0
        refine lv_if_ne (tgt := 37) hx hb dX10_readOf_32 (by decide) (fun c_32 => ?_) (fun c_32 => ?_)
        · exact absurd (r_v_3.eq.trans rl_0.eq.symm) ((ti_ne c_32))
        · refine lv_iconst (v := 0) hx hb dX10_readOf_35 (by decide) ?_
          subst hQ
          exact W.zret (v := 0) hx hb hr (rfl) (fun t ht hW => ⟨⟨0, ws, rfl, ⟨⟨rl_0.to (by decide), (fun h0 => trivial), (fun h0 => absurd rfl h0)⟩, hw.1, hw.2.2.2.2.1⟩, by rw [ht]; exact hw.2.1, va_K.moved hW.alike hK, hw.2.2.1⟩, hw.2.2.2.1.F ht⟩) hw.2.2.2.1.2.2 dX10_readOf_36
      · have r_v_3 : RI v_3 1 1 := rc_neL r_v_3 rl_0 (ti_ne c9_v_3) (by decide)
        have r_v_2 : RI v_2 1 4 := ((hp_v_3.2.2 c9_v_3).1)
        obtain ⟨v_4, m_v_4, r_v_4⟩ := ((hp_v_3.2.2 c9_v_3).2.1)
        refine lv_if_ne (tgt := 37) hx hb dX10_readOf_32 (by decide) (fun c_32 => ?_) (fun c_32 => ?_)
        · refine lv_aload_n hx hb dX10_readOf_37 rfl (lv_at hl 0 rfl) ?_
          refine lv_aload_n hx hb dX10_readOf_38 rfl (lv_at hl 0 rfl) ?_
          refine lv_bipush (v := 50) hx hb dX10_readOf_39 (by decide) ?_
          refine lv_iload_n hx hb dX10_readOf_41 rfl (lv_at hl 1 rfl) ?_
          refine lv_iadd hx hb dX10_readOf_42 (lv_topi (fun v_5 e_v_5 => ?_))
          obtain ⟨t_v_5, r_v_5⟩ := tq_add (lo := 73) (hi := 73) rl_50 r_p1 (by decide +kernel) e_v_5
          have t_v_5 : v_5.toInt = 50 + p1.toInt := t_v_5
          refine lv_aload_n hx hb dX10_readOf_43 rfl (lv_at hl 0 rfl) ?_
          refine tg_mem (ci := 10) (C := RX10) (T := TX10) (N := 49) hx hb hts inX10 hown hK hw 13 m_v_4 rfl (by decide) (hts _ tw_1150) (fun _ h9 => h9) dX10_readOf_44 ?_
          refine lv_iconst (v := 0) hx hb dX10_readOf_47 (by decide) ?_
          refine lv_iconst (v := 0) hx hb dX10_readOf_48 (by decide) ?_
          refine tk_i (va_runV (As := [.int v_5, .int v_4, .int 0, .int 0]) (rest := [.ref p0]) ⟨hx, hb, hml, hown, hts⟩ (c_X10_saysOne l D cy z H.size Ps ws hw.1 p0 v_5 v_4 0 0 (gd) (gh) (gg) h_p0 (r_v_5.to (by decide)) (r_v_4.to (by decide)) (rl_0.to (by decide)) (rl_0.to (by decide)) x_SNI_p0_gd_gh_gg) (cwV 4 hts (gV tw_1771 tw_1773 ts_116 tw_15 tw_1774) rfl rfl rfl (by decide +kernel) ⟨Nat.le_of_ble_eq_true rfl, Nat.le_of_ble_eq_true rfl⟩) (tg_preV hw hK hSD hA (ci := 10) (q := (RX10, TX10, 49)) rfl h_p0 rfl) rfl rfl hl.1 rfl (lv_room (Nat.le_of_ble_eq_true rfl)) dX10_readOf_49 ⟨Nat.le_of_ble_eq_true rfl, Nat.le_of_ble_eq_true rfl⟩) hw hA ⟨by decide, by decide⟩ (fun v_6 ws H locs hp_v_6 hw hF9 => ?_)
          have m_v_4 := FLD.over hF9 m_v_4 (by decide)
          have r_v_6 : RI v_6 0 39 := hp_v_6.1
          have x_SNL_p0_gd_gh_gg_v_6 := hp_v_6.2.2.2.1.1
          refine tg_put (ci := 10) (ts := ty_MODEL) (v := .int v_6) (ty := .int) (C := RX10) (T := TX10) (N := 49) hx hb hts inX10 tyX10 tyX10_ok nmX10 hown hK hw h_p0 rfl rfl 48 (by decide) (hts _ tw_1185) (fun _ h9 => h9) rfl (by decide +kernel) rfl rfl (ft := vI (-2147483648) 2147483647) rfl ⟨_, rfl, (r_v_6.to (by decide))⟩ (by decide) dX10_readOf_52 (fun ws H locs hw n_k_7 hF9 => ?_)
          have m_v_4 := FLD.over hF9 m_v_4 (by decide)
          have x_SNL_p0_gd_gh_gg_v_6 := SNL.over hF9 x_SNL_p0_gd_gh_gg_v_6 (by decide)
          have x_SNT_p0_gd_gh_gg : SNT ws p0 (gd) (gh) (gg) := (x_SNL_p0_gd_gh_gg_v_6.weak (d' := gd) (h' := gh) (g' := gg) (by have k1 := x_SNL_p0_gd_gh_gg_v_6.le; have d_8 := SNp.le x_SNI_p0_gd_gh_gg.2; have d_7 := x_SNI_p0_gd_gh_gg.1; omega)).snt n_k_7
          refine lv_iconst (v := 1) hx hb dX10_readOf_55 (by decide) ?_
          subst hQ
          exact W.zret (v := 1) hx hb hr (rfl) (fun t ht hW => ⟨⟨1, ws, rfl, ⟨⟨rl_1.to (by decide), (fun _ => trivial), (fun h0 => ⟨⟨_, m_v_4, (r_v_4.to (by decide))⟩, ⟨_, n_k_7, r_v_6⟩, x_SNT_p0_gd_gh_gg, trivial⟩)⟩, hw.1, hw.2.2.2.2.1⟩, by rw [ht]; exact hw.2.1, va_K.moved hW.alike hK, hw.2.2.1⟩, hw.2.2.2.1.F ht⟩) hw.2.2.2.1.2.2 dX10_readOf_56
        · have r_v_3 : RI v_3 1 0 := rc_eq1 r_v_3 rl_0 (ti_eq c_32) (by decide)
          exact (r_v_3.no (by decide)).elim
    · have r_p1 : RI p1 23 22 := rc_eq1 r_p1 rl_22 (ti_eq c_20) (by decide)
      exact (r_p1.no (by decide)).elim
  · have r_p1 : RI p1 22 22 := rc_eq1 r_p1 rl_22 (ti_eq c_4) (by decide)
    refine lv_iconst (v := 0) hx hb dX10_readOf_7 (by decide) ?_
    refine lv_goto (tgt := 13) hx hb dX10_readOf_8 (by decide) ?_
    refine lv_aload_n hx hb dX10_readOf_13 rfl (lv_at hl 0 rfl) ?_
    refine tg_get (ci := 10) (ts := ty_MODEL) (C := RX10) (T := TX10) (N := 49) hx hb hts inX10 hown hK hw h_p0 rfl rfl 14 (by decide) (hts _ tw_1151) (fun _ h9 => h9) (ft := vR 34) rfl dX10_readOf_14 (fun u_8 hv_u_8 m_u_8 => ?_)
    obtain ⟨vu_8, rfl, h_vu_8⟩ := hv_u_8
    refine lv_iload_n hx hb dX10_readOf_17 rfl (lv_at hl 1 rfl) ?_
    refine lv_bipush (v := 22) hx hb dX10_readOf_18 (by decide) ?_
    refine lv_icmp_ne (tgt := 27) hx hb dX10_readOf_20 (by decide) (fun c_20 => ?_) (fun c_20 => ?_)
    · exact absurd (r_p1.eq.trans rl_22.eq.symm) ((ti_ne c_20))
    · refine lv_iconst (v := 0) hx hb dX10_readOf_23 (by decide) ?_
      refine lv_goto (tgt := 28) hx hb dX10_readOf_24 (by decide) ?_
      refine tg_iald (lo := 0) (hi := 6) hx hb hK hw h_vu_8 rfl 0 0 rl_0 (by decide) (by decide +kernel) dX10_readOf_28 (fun v_9 r_v_9 m_v_9 o_v_9 => ?_)
      refine tk_i (va_runV (As := [.int 0, .int v_9]) (rest := []) ⟨hx, hb, hml, hown, hts⟩ (c_X10_readNamed l D cy z s.heap.size Ps w0 hw.1 p0 0 v_9 h_p0 rl_0 r_v_9) (cwV 2 hts (gV tw_1723 tw_1725 ts_106 tw_15 tw_1726) rfl rfl rfl (by decide +kernel) ⟨Nat.le_of_ble_eq_true rfl, Nat.le_of_ble_eq_true rfl⟩) (tg_preV hw hK hSD hA (ci := 10) (q := (RX10, TX10, 49)) rfl h_p0 rfl) rfl rfl hl.1 rfl (lv_room (Nat.le_of_ble_eq_true rfl)) dX10_readOf_29 ⟨Nat.le_of_ble_eq_true rfl, Nat.le_of_ble_eq_true rfl⟩) hw hA ⟨by decide, by decide⟩ (fun v_10 ws H locs hp_v_10 hw hF9 => ?_)
      have x_SNI_p0_gd_gh_gg := SNI.over hF9 x_SNI_p0_gd_gh_gg (by decide)
      have r_v_10 : RI v_10 0 1 := hp_v_10.1
      by_cases c9_v_10 : v_10 = 0
      · have r_v_10 : RI v_10 0 0 := by rw [c9_v_10]; exact rl_0
        refine lv_if_ne (tgt := 37) hx hb dX10_readOf_32 (by decide) (fun c_32 => ?_) (fun c_32 => ?_)
        · exact absurd (r_v_10.eq.trans rl_0.eq.symm) ((ti_ne c_32))
        · refine lv_iconst (v := 0) hx hb dX10_readOf_35 (by decide) ?_
          subst hQ
          exact W.zret (v := 0) hx hb hr (rfl) (fun t ht hW => ⟨⟨0, ws, rfl, ⟨⟨rl_0.to (by decide), (fun h0 => trivial), (fun h0 => absurd rfl h0)⟩, hw.1, hw.2.2.2.2.1⟩, by rw [ht]; exact hw.2.1, va_K.moved hW.alike hK, hw.2.2.1⟩, hw.2.2.2.1.F ht⟩) hw.2.2.2.1.2.2 dX10_readOf_36
      · have r_v_10 : RI v_10 1 1 := rc_neL r_v_10 rl_0 (ti_ne c9_v_10) (by decide)
        have r_v_9 : RI v_9 1 6 := ((hp_v_10.2.2 c9_v_10).1)
        obtain ⟨v_11, m_v_11, r_v_11⟩ := ((hp_v_10.2.2 c9_v_10).2.1)
        refine lv_if_ne (tgt := 37) hx hb dX10_readOf_32 (by decide) (fun c_32 => ?_) (fun c_32 => ?_)
        · refine lv_aload_n hx hb dX10_readOf_37 rfl (lv_at hl 0 rfl) ?_
          refine lv_aload_n hx hb dX10_readOf_38 rfl (lv_at hl 0 rfl) ?_
          refine lv_bipush (v := 50) hx hb dX10_readOf_39 (by decide) ?_
          refine lv_iload_n hx hb dX10_readOf_41 rfl (lv_at hl 1 rfl) ?_
          refine lv_iadd hx hb dX10_readOf_42 (lv_topi (fun v_12 e_v_12 => ?_))
          obtain ⟨t_v_12, r_v_12⟩ := tq_add (lo := 72) (hi := 72) rl_50 r_p1 (by decide +kernel) e_v_12
          have t_v_12 : v_12.toInt = 50 + p1.toInt := t_v_12
          refine lv_aload_n hx hb dX10_readOf_43 rfl (lv_at hl 0 rfl) ?_
          refine tg_mem (ci := 10) (C := RX10) (T := TX10) (N := 49) hx hb hts inX10 hown hK hw 13 m_v_11 rfl (by decide) (hts _ tw_1150) (fun _ h9 => h9) dX10_readOf_44 ?_
          refine lv_iconst (v := 0) hx hb dX10_readOf_47 (by decide) ?_
          refine lv_iconst (v := 0) hx hb dX10_readOf_48 (by decide) ?_
          refine tk_i (va_runV (As := [.int v_12, .int v_11, .int 0, .int 0]) (rest := [.ref p0]) ⟨hx, hb, hml, hown, hts⟩ (c_X10_saysOne l D cy z H.size Ps ws hw.1 p0 v_12 v_11 0 0 (gd) (gh) (gg) h_p0 (r_v_12.to (by decide)) (r_v_11.to (by decide)) (rl_0.to (by decide)) (rl_0.to (by decide)) x_SNI_p0_gd_gh_gg) (cwV 4 hts (gV tw_1771 tw_1773 ts_116 tw_15 tw_1774) rfl rfl rfl (by decide +kernel) ⟨Nat.le_of_ble_eq_true rfl, Nat.le_of_ble_eq_true rfl⟩) (tg_preV hw hK hSD hA (ci := 10) (q := (RX10, TX10, 49)) rfl h_p0 rfl) rfl rfl hl.1 rfl (lv_room (Nat.le_of_ble_eq_true rfl)) dX10_readOf_49 ⟨Nat.le_of_ble_eq_true rfl, Nat.le_of_ble_eq_true rfl⟩) hw hA ⟨by decide, by decide⟩ (fun v_13 ws H locs hp_v_13 hw hF9 => ?_)
          have m_v_11 := FLD.over hF9 m_v_11 (by decide)
          have r_v_13 : RI v_13 0 39 := hp_v_13.1
          have x_SNL_p0_gd_gh_gg_v_13 := hp_v_13.2.2.2.1.1
          refine tg_put (ci := 10) (ts := ty_MODEL) (v := .int v_13) (ty := .int) (C := RX10) (T := TX10) (N := 49) hx hb hts inX10 tyX10 tyX10_ok nmX10 hown hK hw h_p0 rfl rfl 48 (by decide) (hts _ tw_1185) (fun _ h9 => h9) rfl (by decide +kernel) rfl rfl (ft := vI (-2147483648) 2147483647) rfl ⟨_, rfl, (r_v_13.to (by decide))⟩ (by decide) dX10_readOf_52 (fun ws H locs hw n_k_14 hF9 => ?_)
          have m_v_11 := FLD.over hF9 m_v_11 (by decide)
          have x_SNL_p0_gd_gh_gg_v_13 := SNL.over hF9 x_SNL_p0_gd_gh_gg_v_13 (by decide)
          have x_SNT_p0_gd_gh_gg : SNT ws p0 (gd) (gh) (gg) := (x_SNL_p0_gd_gh_gg_v_13.weak (d' := gd) (h' := gh) (g' := gg) (by have k1 := x_SNL_p0_gd_gh_gg_v_13.le; have d_8 := SNp.le x_SNI_p0_gd_gh_gg.2; have d_7 := x_SNI_p0_gd_gh_gg.1; omega)).snt n_k_14
          refine lv_iconst (v := 1) hx hb dX10_readOf_55 (by decide) ?_
          subst hQ
          exact W.zret (v := 1) hx hb hr (rfl) (fun t ht hW => ⟨⟨1, ws, rfl, ⟨⟨rl_1.to (by decide), (fun _ => trivial), (fun h0 => ⟨⟨_, m_v_11, r_v_11⟩, ⟨_, n_k_14, r_v_13⟩, x_SNT_p0_gd_gh_gg, trivial⟩)⟩, hw.1, hw.2.2.2.2.1⟩, by rw [ht]; exact hw.2.1, va_K.moved hW.alike hK, hw.2.2.1⟩, hw.2.2.2.1.F ht⟩) hw.2.2.2.1.2.2 dX10_readOf_56
        · have r_v_10 : RI v_10 1 0 := rc_eq1 r_v_10 rl_0 (ti_eq c_32) (by decide)
          exact (r_v_10.no (by decide)).elim
abbrev wr_X10_readNot : List (Nat × Nat) := [(10, 10), (10, 11)]
abbrev wa_X10_readNot : List Nat := []
set_option maxHeartbeats 4000000 in
set_option maxRecDepth 100000 in
theorem c_X10_readNot (l : Launch) (D : va_G) (cy : Nat → ClassId) (z : Nat → Nat) (sz : Nat) (Ps : PSI) (w0 : va_W) (hT : HT cy GG Ps w0) (p0 : Nat) (f0_47 : Int32) (gd : Int) (gh : Int) (gg : Int) (h_p0 : (p0, 55) ∈ Ps) (r_f0_47 : RI f0_47 8 8) (m_f0_47 : FLD w0 p0 10 47 (.int f0_47)) (x_SNI_p0_gd_gh_gg : SNI w0 p0 (gd) (gh) (gg)) : Met l yX10_readNot (Cond.code yX10_readNot cX10_readNot 1 (some .boolean) :: gT) ({ frames := 5, cells := 0, slots := 0, locals := 1000 } : Room) (va_Pc [.ref p0] (PRE D cy z w0 sz)) (va_Qi (fun (r : Int32) (u : va_W) => (RI r 0 0 ∧ (r = 0 → (∃ v9 : Int32, FLD u p0 10 47 (.int v9) ∧ RI v9 8 8) ∧ True) ∧ (¬ r = 0 → SNT u p0 (gd) (gh) (gg) ∧ True)) ∧ HT cy GG Ps u ∧ FR wr_X10_readNot wa_X10_readNot Ps w0 u) (BB D cy (va_A w0 sz) (fun (u : va_W) => u)) (va_A w0 sz)) 0 0 (va_A w0 sz) := by
  refine Met.ofW (cc := cX10_readNot) (maxL := 1) (ret := (some .boolean)) (by decide) rfl ?_
  intro p e s m args below meth c s₁ B hml hv
  obtain ⟨rfl, hsz, hP, hK, hD0, hSD⟩ := hv
  have hx := B.exec
  have hb := B.bytes
  have hr := B.returns
  have hlocks := B.notSynchronized
  have hts : ∀ w ∈ gT, w.before _ s = true := fun w h => atoms_spec (ws := Cond.code yX10_readNot cX10_readNot 1 (some .boolean) :: gT) B.pre w (List.mem_cons_of_mem _ h)
  have hown : s.vm.findClass RX10 = some m.cls := findClass_of_methodNamed B.named
  subst hsz
  have hD := hD0.self (sz := s.heap.size)
  generalize hAe : va_A w0 s.heap.size = A at hD hSD ⊢
  have hA : ∀ q : Nat, s.heap.size ≤ q → A q := fun q h => by rw [← hAe]; exact Or.inr h
  have hl := lv_entry ([.ref p0]) (n := 1) (Nat.le_of_ble_eq_true rfl)
  rw [lg_entry_eq]
  generalize (lg_sl ([.ref p0]) ++ List.replicate (1 - (lg_sl ([.ref p0])).length) Slot.unset).toArray = ls at hl ⊢
  have hl : lv_has ls 1 [(0, .ref p0)] := hl
  refine nameQ (fun Q hQ => ?_)
  have hw : WD D cy GG A s wr_X10_readNot wa_X10_readNot Ps w0 Ps w0 s.heap [] := ⟨hT, hP, hD, va_S.rf, FR.rf, hT.1, [], (List.append_nil _).symm⟩
  refine lv_aload_n hx hb dX10_readNot_0 rfl (lv_at hl 0 rfl) ?_
  have x_SN_p0_gd_1_gh_gg : SNp w0 p0 (gd+1) (gh) (gg) := x_SNI_p0_gd_gh_gg.2
  refine tk_i (va_runV (As := []) (rest := []) ⟨hx, hb, hml, hown, hts⟩ (c_X10_readSaid__8 l D cy z s.heap.size Ps w0 hw.1 p0 f0_47 (gd+1) (gh) (gg) h_p0 r_f0_47 m_f0_47 x_SN_p0_gd_1_gh_gg) (cwV 0 hts (gV tw_1759 tw_1761 ts_113 tw_15 tw_1762) rfl rfl rfl (by decide +kernel) ⟨Nat.le_of_ble_eq_true rfl, Nat.le_of_ble_eq_true rfl⟩) (tg_preV hw hK hSD hA (ci := 10) (q := (RX10, TX10, 49)) rfl h_p0 rfl) rfl rfl hl.1 rfl (lv_room (Nat.le_of_ble_eq_true rfl)) dX10_readNot_1 ⟨Nat.le_of_ble_eq_true rfl, Nat.le_of_ble_eq_true rfl⟩) hw hA ⟨by decide, by decide⟩ (fun v_1 ws H locs hp_v_1 hw hF9 => ?_)
  have m_f0_47 := FLD.over hF9 m_f0_47 (by decide)
  have x_SNI_p0_gd_gh_gg := SNI.over hF9 x_SNI_p0_gd_gh_gg (by decide)
  have x_SN_p0_gd_1_gh_gg := SNp.over hF9 x_SN_p0_gd_1_gh_gg (by decide)
  have r_v_1 : RI v_1 0 0 := hp_v_1.1
  by_cases c9_v_1 : v_1 = 0
  · have r_v_1 : RI v_1 0 0 := by rw [c9_v_1]; exact rl_0
    obtain ⟨v_2, m_v_2, r_v_2⟩ := ((hp_v_1.2.1 c9_v_1).1)
    refine lv_if_ne (tgt := 9) hx hb dX10_readNot_4 (by decide) (fun c_4 => ?_) (fun c_4 => ?_)
    · exact absurd (r_v_1.eq.trans rl_0.eq.symm) ((ti_ne c_4))
    · refine lv_iconst (v := 0) hx hb dX10_readNot_7 (by decide) ?_
      subst hQ
      exact W.zret (v := 0) hx hb hr (rfl) (fun t ht hW => ⟨⟨0, ws, rfl, ⟨⟨rl_0.to (by decide), (fun h0 => ⟨⟨_, m_v_2, r_v_2⟩, trivial⟩), (fun h0 => absurd rfl h0)⟩, hw.1, hw.2.2.2.2.1⟩, by rw [ht]; exact hw.2.1, va_K.moved hW.alike hK, hw.2.2.1⟩, hw.2.2.2.1.F ht⟩) hw.2.2.2.1.2.2 dX10_readNot_8
  · exact absurd (Int32.toInt_inj.mp (by rw [Int32.toInt_zero]; unfold RI at r_v_1; omega)) c9_v_1
abbrev wr_X10_readSaid__7 : List (Nat × Nat) := [(10, 5), (10, 6), (10, 7), (10, 8), (10, 9), (10, 10), (10, 11), (10, 12), (10, 13), (10, 45), (10, 46), (10, 47), (10, 48)]
abbrev wa_X10_readSaid__7 : List Nat := [54]
set_option maxHeartbeats 4000000 in
set_option maxRecDepth 100000 in
theorem c_X10_readSaid__7 (l : Launch) (D : va_G) (cy : Nat → ClassId) (z : Nat → Nat) (sz : Nat) (Ps : PSI) (w0 : va_W) (hT : HT cy GG Ps w0) (p0 : Nat) (f0_47 : Int32) (gd : Int) (gh : Int) (gg : Int) (h_p0 : (p0, 55) ∈ Ps) (r_f0_47 : RI f0_47 7 7) (m_f0_47 : FLD w0 p0 10 47 (.int f0_47)) (x_SN_p0_gd_gh_gg : SNp w0 p0 (gd) (gh) (gg)) : Met l yX10_readSaid (Cond.code yX10_readSaid cX10_readSaid 4 (some .boolean) :: gT) ({ frames := 8, cells := 0, slots := 0, locals := 1600 } : Room) (va_Pc [.ref p0] (PRE D cy z w0 sz)) (va_Qi (fun (r : Int32) (u : va_W) => (RI r 0 1 ∧ (r = 0 → (∃ v9 : Int32, FLD u p0 10 47 (.int v9) ∧ RI v9 7 7) ∧ True) ∧ (¬ r = 0 → (∃ v9 : Int32, FLD u p0 10 46 (.int v9) ∧ RI v9 1 20) ∧ (∃ v9 : Int32, FLD u p0 10 48 (.int v9) ∧ RI v9 0 39) ∧ (∃ v9 : Int32, FLD u p0 10 47 (.int v9) ∧ RI v9 7 7) ∧ SNT u p0 (gd+1) (gh+1) (gg) ∧ True)) ∧ HT cy GG Ps u ∧ FR wr_X10_readSaid__7 wa_X10_readSaid__7 Ps w0 u) (BB D cy (va_A w0 sz) (fun (u : va_W) => u)) (va_A w0 sz)) 0 0 (va_A w0 sz) := by
  refine Met.ofW (cc := cX10_readSaid) (maxL := 4) (ret := (some .boolean)) (by decide) rfl ?_
  intro p e s m args below meth c s₁ B hml hv
  obtain ⟨rfl, hsz, hP, hK, hD0, hSD⟩ := hv
  have hx := B.exec
  have hb := B.bytes
  have hr := B.returns
  have hlocks := B.notSynchronized
  have hts : ∀ w ∈ gT, w.before _ s = true := fun w h => atoms_spec (ws := Cond.code yX10_readSaid cX10_readSaid 4 (some .boolean) :: gT) B.pre w (List.mem_cons_of_mem _ h)
  have hown : s.vm.findClass RX10 = some m.cls := findClass_of_methodNamed B.named
  subst hsz
  have hD := hD0.self (sz := s.heap.size)
  generalize hAe : va_A w0 s.heap.size = A at hD hSD ⊢
  have hA : ∀ q : Nat, s.heap.size ≤ q → A q := fun q h => by rw [← hAe]; exact Or.inr h
  have hl := lv_entry ([.ref p0]) (n := 4) (Nat.le_of_ble_eq_true rfl)
  rw [lg_entry_eq]
  generalize (lg_sl ([.ref p0]) ++ List.replicate (4 - (lg_sl ([.ref p0])).length) Slot.unset).toArray = ls at hl ⊢
  have hl : lv_has ls 4 [(0, .ref p0)] := hl
  refine nameQ (fun Q hQ => ?_)
  have hw : WD D cy GG A s wr_X10_readSaid__7 wa_X10_readSaid__7 Ps w0 Ps w0 s.heap [] := ⟨hT, hP, hD, va_S.rf, FR.rf, hT.1, [], (List.append_nil _).symm⟩
  have B30 : ∀ (x1 : Int32) (x2 : Int32) (z0_47 : Int32) (ws : va_W) (H : Heap) (locs : List Loc) (ls : Array Slot), RI x1 0 1 → RI x2 18 28 → RI z0_47 7 7 → FLD ws p0 10 47 (.int z0_47) → SNp ws p0 (gd) (gh) (gg) → WD D cy GG A s wr_X10_readSaid__7 wa_X10_readSaid__7 Ps w0 Ps ws H locs → lv_has ls 4 [(0, .ref p0), (1, .int x1), (2, .int x2)] → W p l e (headSpec (Cond.code yX10_readSaid cX10_readSaid 4 (some .boolean) :: gT) ({ frames := 8, cells := 0, slots := 0, locals := 1600 } : Room)).room s m ([.ref p0] : List Value).toArray below meth c H locs 0 0 Q (F0 m 30 ls []) := by
    intro x1 x2 z0_47 ws H locs ls r_x1 r_x2 r_z0_47 m_z0_47 x_SN_p0_gd_gh_gg hw hl
    refine lv_iload_n hx hb dX10_readSaid_30 rfl (lv_at hl 1 rfl) ?_
    refine lv_if_ne (tgt := 46) hx hb dX10_readSaid_31 (by decide) (fun c_31 => ?_) (fun c_31 => ?_)
    · have r_x1 : RI x1 1 1 := rc_neL r_x1 rl_0 (ti_ne c_31) (by decide)
      refine lv_aload_n hx hb dX10_readSaid_46 rfl (lv_at hl 0 rfl) ?_
      refine tg_get (ci := 10) (ts := ty_MODEL) (C := RX10) (T := TX10) (N := 49) hx hb hts inX10 hown hK hw h_p0 rfl rfl 46 (by decide) (hts _ tw_1183) (fun _ h9 => h9) (ft := vI (-2147483648) 2147483647) rfl dX10_readSaid_47 (fun u_1 hv_u_1 m_u_1 => ?_)
      obtain ⟨vu_1, rfl, r_vu_1⟩ := hv_u_1
      obtain ⟨n9, hn9, rn9, r_vu_1, b9⟩ := SNp.getO hw x_SN_p0_gd_gh_gg m_u_1
      refine lv_bipush (v := 20) hx hb dX10_readSaid_50 (by decide) ?_
      refine lv_icmp_eq (tgt := 64) hx hb dX10_readSaid_52 (by decide) (fun c_52 => ?_) (fun c_52 => ?_)
      · have r_vu_1 : RI vu_1 20 20 := rc_eq1 r_vu_1 rl_20 (ti_eq c_52) (by decide)
        refine lv_aload_n hx hb dX10_readSaid_64 rfl (lv_at hl 0 rfl) ?_
        refine lv_iconst (v := 4) hx hb dX10_readSaid_65 (by decide) ?_
        refine tk_i (va_runV (As := [.int 4]) (rest := []) ⟨hx, hb, hml, hown, hts⟩ (c_X10_bad l D cy z H.size Ps ws hw.1 p0 4 h_p0 (rl_4.to (by decide))) (cwV 1 hts (gV tw_1336 tw_1338 ts_46 tw_15 tw_1339) rfl rfl rfl (by decide +kernel) ⟨Nat.le_of_ble_eq_true rfl, Nat.le_of_ble_eq_true rfl⟩) (tg_preV hw hK hSD hA (ci := 10) (q := (RX10, TX10, 49)) rfl h_p0 rfl) rfl rfl hl.1 rfl (lv_room (Nat.le_of_ble_eq_true rfl)) dX10_readSaid_66 ⟨Nat.le_of_ble_eq_true rfl, Nat.le_of_ble_eq_true rfl⟩) hw hA ⟨by decide, by decide⟩ (fun v_2 ws H locs hp_v_2 hw hF9 => ?_)
        have m_z0_47 := FLD.over hF9 m_z0_47 (by decide)
        have m_u_1 := FLD.over hF9 m_u_1 (by decide)
        have hn9 := FLD.over hF9 hn9 (by decide)
        have x_SN_p0_gd_gh_gg := SNp.over hF9 x_SN_p0_gd_gh_gg (by decide)
        have r_v_2 : RI v_2 0 0 := hp_v_2.1
        subst hQ
        exact W.zret (v := v_2) hx hb hr (tq_nz (r_v_2.to (by decide))) (fun t ht hW => ⟨⟨v_2, ws, rfl, ⟨⟨r_v_2.to (by decide), (fun h0 => ⟨⟨_, m_z0_47, r_z0_47⟩, trivial⟩), (fun h0 => absurd (Int32.toInt_inj.mp (by have h8 := r_v_2; unfold RI at h8; rw [Int32.toInt_zero]; omega)) h0)⟩, hw.1, hw.2.2.2.2.1⟩, by rw [ht]; exact hw.2.1, va_K.moved hW.alike hK, hw.2.2.1⟩, hw.2.2.2.1.F ht⟩) hw.2.2.2.1.2.2 dX10_readSaid_69
      · have r_vu_1 : RI vu_1 0 19 := rc_neU r_vu_1 rl_20 (ti_ne c_52) (by decide)
        refine lv_aload_n hx hb dX10_readSaid_55 rfl (lv_at hl 0 rfl) ?_
        refine tg_mem (ci := 10) (C := RX10) (T := TX10) (N := 49) hx hb hts inX10 hown hK hw 47 m_z0_47 rfl (by decide) (hts _ tw_1184) (fun _ h9 => h9) dX10_readSaid_56 ?_
        refine lv_bipush (v := 8) hx hb dX10_readSaid_59 (by decide) ?_
        refine lv_icmp_ne (tgt := 70) hx hb dX10_readSaid_61 (by decide) (fun c_61 => ?_) (fun c_61 => ?_)
        · refine lv_aload_n hx hb dX10_readSaid_70 rfl (lv_at hl 0 rfl) ?_
          refine lv_dup hx hb dX10_readSaid_71 rfl ?_
          refine tg_mem (ci := 10) (C := RX10) (T := TX10) (N := 49) hx hb hts inX10 hown hK hw 46 m_u_1 rfl (by decide) (hts _ tw_1183) (fun _ h9 => h9) dX10_readSaid_72 ?_
          refine lv_iconst (v := 1) hx hb dX10_readSaid_75 (by decide) ?_
          refine lv_iadd hx hb dX10_readSaid_76 (lv_topi (fun v_3 e_v_3 => ?_))
          obtain ⟨t_v_3, r_v_3⟩ := tq_add (lo := 1) (hi := 20) r_vu_1 rl_1 (by decide +kernel) e_v_3
          have t_v_3 : v_3.toInt = vu_1.toInt + 1 := t_v_3
          refine tg_put (ci := 10) (ts := ty_MODEL) (v := .int v_3) (ty := .int) (C := RX10) (T := TX10) (N := 49) hx hb hts inX10 tyX10 tyX10_ok nmX10 hown hK hw h_p0 rfl rfl 46 (by decide) (hts _ tw_1183) (fun _ h9 => h9) rfl (by decide +kernel) rfl rfl (ft := vI (-2147483648) 2147483647) rfl ⟨_, rfl, (r_v_3.to (by decide))⟩ (by decide) dX10_readSaid_77 (fun ws H locs hw n_k_4 hF9 => ?_)
          have m_z0_47 := FLD.over hF9 m_z0_47 (by decide)
          have hn9 := FLD.over hF9 hn9 (by decide)
          have x_SNI_p0_gd_1_gh_1_gg : SNI ws p0 (gd+1) (gh+1) (gg) := ⟨by omega, _, _, hn9, n_k_4, by have k1 := rn9.1; have k2 := r_v_3.2; omega⟩
          refine lv_aload_n hx hb dX10_readSaid_80 rfl (lv_at hl 0 rfl) ?_
          refine lv_dup hx hb dX10_readSaid_81 rfl ?_
          refine tg_mem (ci := 10) (C := RX10) (T := TX10) (N := 49) hx hb hts inX10 hown hK hw 47 m_z0_47 rfl (by decide) (hts _ tw_1184) (fun _ h9 => h9) dX10_readSaid_82 ?_
          refine lv_iconst (v := 1) hx hb dX10_readSaid_85 (by decide) ?_
          refine lv_iadd hx hb dX10_readSaid_86 (lv_topi (fun v_5 e_v_5 => ?_))
          obtain ⟨t_v_5, r_v_5⟩ := tq_add (lo := 8) (hi := 8) r_z0_47 rl_1 (by decide +kernel) e_v_5
          have t_v_5 : v_5.toInt = z0_47.toInt + 1 := t_v_5
          refine tg_put (ci := 10) (ts := ty_MODEL) (v := .int v_5) (ty := .int) (C := RX10) (T := TX10) (N := 49) hx hb hts inX10 tyX10 tyX10_ok nmX10 hown hK hw h_p0 rfl rfl 47 (by decide) (hts _ tw_1184) (fun _ h9 => h9) rfl (by decide +kernel) rfl rfl (ft := vI (-2147483648) 2147483647) rfl ⟨_, rfl, (r_v_5.to (by decide))⟩ (by decide) dX10_readSaid_87 (fun ws H locs hw n_k_6 hF9 => ?_)
          have hn9 := FLD.over hF9 hn9 (by decide)
          have n_k_4 := FLD.over hF9 n_k_4 (by decide)
          have x_SNI_p0_gd_1_gh_1_gg := SNI.over hF9 x_SNI_p0_gd_1_gh_1_gg (by decide)
          refine lv_aload_n hx hb dX10_readSaid_90 rfl (lv_at hl 0 rfl) ?_
          refine tk_v (va_runV (As := []) (rest := []) ⟨hx, hb, hml, hown, hts⟩ (c_X10_go l D cy z H.size Ps ws hw.1 p0 h_p0) (cwV 0 hts (gV tw_1298 tw_1300 ts_40 tw_15 tw_1301) rfl rfl rfl (by decide +kernel) ⟨Nat.le_of_ble_eq_true rfl, Nat.le_of_ble_eq_true rfl⟩) (tg_preV hw hK hSD hA (ci := 10) (q := (RX10, TX10, 49)) rfl h_p0 rfl) rfl rfl hl.1 rfl (lv_room (Nat.le_of_ble_eq_true rfl)) dX10_readSaid_91 ⟨Nat.le_of_ble_eq_true rfl, Nat.le_of_ble_eq_true rfl⟩) hw hA ⟨by decide, by decide⟩ (fun ws H locs hp_v_7 hw hF9 => ?_)
          have hn9 := FLD.over hF9 hn9 (by decide)
          have n_k_4 := FLD.over hF9 n_k_4 (by decide)
          have n_k_6 := FLD.over hF9 n_k_6 (by decide)
          have x_SNI_p0_gd_1_gh_1_gg := SNI.over hF9 x_SNI_p0_gd_1_gh_1_gg (by decide)
          refine lv_iconst (v := 1) hx hb dX10_readSaid_94 (by decide) ?_
          refine lv_istore_n (lv' := [(3, .int 1), (0, .ref p0), (1, .int x1), (2, .int x2)]) hx hb dX10_readSaid_95 rfl hl (by decide) rfl (fun ls hl => ?_)
          refine lv_iload_n hx hb dX10_readSaid_96 rfl (lv_at hl 2 rfl) ?_
          refine lv_if_eq (tgt := 108) hx hb dX10_readSaid_97 (by decide) (fun c_97 => ?_) (fun c_97 => ?_)
          · have r_x1 : RI x1 1 0 := rc_eq1 r_x1 rl_0 (ti_eq c_97) (by decide)
            exact (r_x1.no (by decide)).elim
          · refine lv_aload_n hx hb dX10_readSaid_100 rfl (lv_at hl 1 rfl) ?_
            refine tk_i (va_runV (As := []) (rest := []) ⟨hx, hb, hml, hown, hts⟩ (c_X10_readBracket__7 l D cy z H.size Ps ws hw.1 p0 v_5 (gd+1) (gh+1) (gg) h_p0 r_v_5 n_k_6 x_SNI_p0_gd_1_gh_1_gg) (cwV 0 hts (gV tw_1763 tw_1765 ts_114 tw_15 tw_1766) rfl rfl rfl (by decide +kernel) ⟨Nat.le_of_ble_eq_true rfl, Nat.le_of_ble_eq_true rfl⟩) (tg_preV hw hK hSD hA (ci := 10) (q := (RX10, TX10, 49)) rfl h_p0 rfl) rfl rfl hl.1 rfl (lv_room (Nat.le_of_ble_eq_true rfl)) dX10_readSaid_101 ⟨Nat.le_of_ble_eq_true rfl, Nat.le_of_ble_eq_true rfl⟩) hw hA ⟨by decide, by decide⟩ (fun v_8 ws H locs hp_v_8 hw hF9 => ?_)
            have hn9 := FLD.over hF9 hn9 (by decide)
            have n_k_4 := FLD.over hF9 n_k_4 (by decide)
            have n_k_6 := FLD.over hF9 n_k_6 (by decide)
            have x_SNI_p0_gd_1_gh_1_gg := SNI.over hF9 x_SNI_p0_gd_1_gh_1_gg (by decide)
            have r_v_8 : RI v_8 0 0 := hp_v_8.1
            by_cases c9_v_8 : v_8 = 0
            · have r_v_8 : RI v_8 0 0 := by rw [c9_v_8]; exact rl_0
              obtain ⟨v_9, m_v_9, r_v_9⟩ := ((hp_v_8.2.1 c9_v_8).1)
              refine lv_istore_n (lv' := [(3, .int v_8), (0, .ref p0), (1, .int x1), (2, .int x2)]) hx hb dX10_readSaid_104 rfl hl (by decide) rfl (fun ls hl => ?_)
              refine lv_goto (tgt := 166) hx hb dX10_readSaid_105 (by decide) ?_
              refine lv_aload_n hx hb dX10_readSaid_166 rfl (lv_at hl 1 rfl) ?_
              refine lv_dup hx hb dX10_readSaid_167 rfl ?_
              refine tg_mem (ci := 10) (C := RX10) (T := TX10) (N := 49) hx hb hts inX10 hown hK hw 47 m_v_9 rfl (by decide) (hts _ tw_1184) (fun _ h9 => h9) dX10_readSaid_168 ?_
              refine lv_iconst (v := 1) hx hb dX10_readSaid_171 (by decide) ?_
              refine lv_isub hx hb dX10_readSaid_172 (lv_topi (fun v_10 e_v_10 => ?_))
              obtain ⟨t_v_10, r_v_10⟩ := tq_sub (lo := 7) (hi := 7) r_v_9 rl_1 (by decide +kernel) e_v_10
              have t_v_10 : v_10.toInt = v_9.toInt - 1 := t_v_10
              refine tg_put (ci := 10) (ts := ty_MODEL) (v := .int v_10) (ty := .int) (C := RX10) (T := TX10) (N := 49) hx hb hts inX10 tyX10 tyX10_ok nmX10 hown hK hw h_p0 rfl rfl 47 (by decide) (hts _ tw_1184) (fun _ h9 => h9) rfl (by decide +kernel) rfl rfl (ft := vI (-2147483648) 2147483647) rfl ⟨_, rfl, (r_v_10.to (by decide))⟩ (by decide) dX10_readSaid_173 (fun ws H locs hw n_k_11 hF9 => ?_)
              have hn9 := FLD.over hF9 hn9 (by decide)
              have n_k_4 := FLD.over hF9 n_k_4 (by decide)
              have x_SNI_p0_gd_1_gh_1_gg := SNI.over hF9 x_SNI_p0_gd_1_gh_1_gg (by decide)
              refine lv_iload_n hx hb dX10_readSaid_176 rfl (lv_at hl 0 rfl) ?_
              subst hQ
              exact W.zret (v := v_8) hx hb hr (tq_nz (r_v_8.to (by decide))) (fun t ht hW => ⟨⟨v_8, ws, rfl, ⟨⟨r_v_8.to (by decide), (fun h0 => ⟨⟨_, n_k_11, r_v_10⟩, trivial⟩), (fun h0 => absurd (Int32.toInt_inj.mp (by have h8 := r_v_8; unfold RI at h8; rw [Int32.toInt_zero]; omega)) h0)⟩, hw.1, hw.2.2.2.2.1⟩, by rw [ht]; exact hw.2.1, va_K.moved hW.alike hK, hw.2.2.1⟩, hw.2.2.2.1.F ht⟩) hw.2.2.2.1.2.2 dX10_readSaid_177
            · exact absurd (Int32.toInt_inj.mp (by rw [Int32.toInt_zero]; unfold RI at r_v_8; omega)) c9_v_8
        · have r_z0_47 : RI z0_47 8 7 := rc_eq1 r_z0_47 rl_8 (ti_eq c_61) (by decide)
          exact (r_z0_47.no (by decide)).elim
    · have r_x1 : RI x1 0 0 := rc_eq1 r_x1 rl_0 (ti_eq c_31) (by decide)
      refine lv_iload_n hx hb dX10_readSaid_34 rfl (lv_at hl 2 rfl) ?_
      refine lv_bipush (v := 27) hx hb dX10_readSaid_35 (by decide) ?_
      refine lv_icmp_le (tgt := 46) hx hb dX10_readSaid_37 (by decide) (fun c_37 => ?_) (fun c_37 => ?_)
      · have r_x2 : RI x2 18 27 := rc_le1 r_x2 rl_27 (ti_le c_37) (by decide)
        refine lv_aload_n hx hb dX10_readSaid_46 rfl (lv_at hl 0 rfl) ?_
        refine tg_get (ci := 10) (ts := ty_MODEL) (C := RX10) (T := TX10) (N := 49) hx hb hts inX10 hown hK hw h_p0 rfl rfl 46 (by decide) (hts _ tw_1183) (fun _ h9 => h9) (ft := vI (-2147483648) 2147483647) rfl dX10_readSaid_47 (fun u_12 hv_u_12 m_u_12 => ?_)
        obtain ⟨vu_12, rfl, r_vu_12⟩ := hv_u_12
        obtain ⟨n9, hn9, rn9, r_vu_12, b9⟩ := SNp.getO hw x_SN_p0_gd_gh_gg m_u_12
        refine lv_bipush (v := 20) hx hb dX10_readSaid_50 (by decide) ?_
        refine lv_icmp_eq (tgt := 64) hx hb dX10_readSaid_52 (by decide) (fun c_52 => ?_) (fun c_52 => ?_)
        · have r_vu_12 : RI vu_12 20 20 := rc_eq1 r_vu_12 rl_20 (ti_eq c_52) (by decide)
          refine lv_aload_n hx hb dX10_readSaid_64 rfl (lv_at hl 0 rfl) ?_
          refine lv_iconst (v := 4) hx hb dX10_readSaid_65 (by decide) ?_
          refine tk_i (va_runV (As := [.int 4]) (rest := []) ⟨hx, hb, hml, hown, hts⟩ (c_X10_bad l D cy z H.size Ps ws hw.1 p0 4 h_p0 (rl_4.to (by decide))) (cwV 1 hts (gV tw_1336 tw_1338 ts_46 tw_15 tw_1339) rfl rfl rfl (by decide +kernel) ⟨Nat.le_of_ble_eq_true rfl, Nat.le_of_ble_eq_true rfl⟩) (tg_preV hw hK hSD hA (ci := 10) (q := (RX10, TX10, 49)) rfl h_p0 rfl) rfl rfl hl.1 rfl (lv_room (Nat.le_of_ble_eq_true rfl)) dX10_readSaid_66 ⟨Nat.le_of_ble_eq_true rfl, Nat.le_of_ble_eq_true rfl⟩) hw hA ⟨by decide, by decide⟩ (fun v_13 ws H locs hp_v_13 hw hF9 => ?_)
          have m_z0_47 := FLD.over hF9 m_z0_47 (by decide)
          have m_u_12 := FLD.over hF9 m_u_12 (by decide)
          have hn9 := FLD.over hF9 hn9 (by decide)
          have x_SN_p0_gd_gh_gg := SNp.over hF9 x_SN_p0_gd_gh_gg (by decide)
          have r_v_13 : RI v_13 0 0 := hp_v_13.1
          subst hQ
          exact W.zret (v := v_13) hx hb hr (tq_nz (r_v_13.to (by decide))) (fun t ht hW => ⟨⟨v_13, ws, rfl, ⟨⟨r_v_13.to (by decide), (fun h0 => ⟨⟨_, m_z0_47, r_z0_47⟩, trivial⟩), (fun h0 => absurd (Int32.toInt_inj.mp (by have h8 := r_v_13; unfold RI at h8; rw [Int32.toInt_zero]; omega)) h0)⟩, hw.1, hw.2.2.2.2.1⟩, by rw [ht]; exact hw.2.1, va_K.moved hW.alike hK, hw.2.2.1⟩, hw.2.2.2.1.F ht⟩) hw.2.2.2.1.2.2 dX10_readSaid_69
        · have r_vu_12 : RI vu_12 0 19 := rc_neU r_vu_12 rl_20 (ti_ne c_52) (by decide)
          refine lv_aload_n hx hb dX10_readSaid_55 rfl (lv_at hl 0 rfl) ?_
          refine tg_mem (ci := 10) (C := RX10) (T := TX10) (N := 49) hx hb hts inX10 hown hK hw 47 m_z0_47 rfl (by decide) (hts _ tw_1184) (fun _ h9 => h9) dX10_readSaid_56 ?_
          refine lv_bipush (v := 8) hx hb dX10_readSaid_59 (by decide) ?_
          refine lv_icmp_ne (tgt := 70) hx hb dX10_readSaid_61 (by decide) (fun c_61 => ?_) (fun c_61 => ?_)
          · refine lv_aload_n hx hb dX10_readSaid_70 rfl (lv_at hl 0 rfl) ?_
            refine lv_dup hx hb dX10_readSaid_71 rfl ?_
            refine tg_mem (ci := 10) (C := RX10) (T := TX10) (N := 49) hx hb hts inX10 hown hK hw 46 m_u_12 rfl (by decide) (hts _ tw_1183) (fun _ h9 => h9) dX10_readSaid_72 ?_
            refine lv_iconst (v := 1) hx hb dX10_readSaid_75 (by decide) ?_
            refine lv_iadd hx hb dX10_readSaid_76 (lv_topi (fun v_14 e_v_14 => ?_))
            obtain ⟨t_v_14, r_v_14⟩ := tq_add (lo := 1) (hi := 20) r_vu_12 rl_1 (by decide +kernel) e_v_14
            have t_v_14 : v_14.toInt = vu_12.toInt + 1 := t_v_14
            refine tg_put (ci := 10) (ts := ty_MODEL) (v := .int v_14) (ty := .int) (C := RX10) (T := TX10) (N := 49) hx hb hts inX10 tyX10 tyX10_ok nmX10 hown hK hw h_p0 rfl rfl 46 (by decide) (hts _ tw_1183) (fun _ h9 => h9) rfl (by decide +kernel) rfl rfl (ft := vI (-2147483648) 2147483647) rfl ⟨_, rfl, (r_v_14.to (by decide))⟩ (by decide) dX10_readSaid_77 (fun ws H locs hw n_k_15 hF9 => ?_)
            have m_z0_47 := FLD.over hF9 m_z0_47 (by decide)
            have hn9 := FLD.over hF9 hn9 (by decide)
            have x_SNI_p0_gd_1_gh_1_gg : SNI ws p0 (gd+1) (gh+1) (gg) := ⟨by omega, _, _, hn9, n_k_15, by have k1 := rn9.1; have k2 := r_v_14.2; omega⟩
            refine lv_aload_n hx hb dX10_readSaid_80 rfl (lv_at hl 0 rfl) ?_
            refine lv_dup hx hb dX10_readSaid_81 rfl ?_
            refine tg_mem (ci := 10) (C := RX10) (T := TX10) (N := 49) hx hb hts inX10 hown hK hw 47 m_z0_47 rfl (by decide) (hts _ tw_1184) (fun _ h9 => h9) dX10_readSaid_82 ?_
            refine lv_iconst (v := 1) hx hb dX10_readSaid_85 (by decide) ?_
            refine lv_iadd hx hb dX10_readSaid_86 (lv_topi (fun v_16 e_v_16 => ?_))
            obtain ⟨t_v_16, r_v_16⟩ := tq_add (lo := 8) (hi := 8) r_z0_47 rl_1 (by decide +kernel) e_v_16
            have t_v_16 : v_16.toInt = z0_47.toInt + 1 := t_v_16
            refine tg_put (ci := 10) (ts := ty_MODEL) (v := .int v_16) (ty := .int) (C := RX10) (T := TX10) (N := 49) hx hb hts inX10 tyX10 tyX10_ok nmX10 hown hK hw h_p0 rfl rfl 47 (by decide) (hts _ tw_1184) (fun _ h9 => h9) rfl (by decide +kernel) rfl rfl (ft := vI (-2147483648) 2147483647) rfl ⟨_, rfl, (r_v_16.to (by decide))⟩ (by decide) dX10_readSaid_87 (fun ws H locs hw n_k_17 hF9 => ?_)
            have hn9 := FLD.over hF9 hn9 (by decide)
            have n_k_15 := FLD.over hF9 n_k_15 (by decide)
            have x_SNI_p0_gd_1_gh_1_gg := SNI.over hF9 x_SNI_p0_gd_1_gh_1_gg (by decide)
            refine lv_aload_n hx hb dX10_readSaid_90 rfl (lv_at hl 0 rfl) ?_
            refine tk_v (va_runV (As := []) (rest := []) ⟨hx, hb, hml, hown, hts⟩ (c_X10_go l D cy z H.size Ps ws hw.1 p0 h_p0) (cwV 0 hts (gV tw_1298 tw_1300 ts_40 tw_15 tw_1301) rfl rfl rfl (by decide +kernel) ⟨Nat.le_of_ble_eq_true rfl, Nat.le_of_ble_eq_true rfl⟩) (tg_preV hw hK hSD hA (ci := 10) (q := (RX10, TX10, 49)) rfl h_p0 rfl) rfl rfl hl.1 rfl (lv_room (Nat.le_of_ble_eq_true rfl)) dX10_readSaid_91 ⟨Nat.le_of_ble_eq_true rfl, Nat.le_of_ble_eq_true rfl⟩) hw hA ⟨by decide, by decide⟩ (fun ws H locs hp_v_18 hw hF9 => ?_)
            have hn9 := FLD.over hF9 hn9 (by decide)
            have n_k_15 := FLD.over hF9 n_k_15 (by decide)
            have n_k_17 := FLD.over hF9 n_k_17 (by decide)
            have x_SNI_p0_gd_1_gh_1_gg := SNI.over hF9 x_SNI_p0_gd_1_gh_1_gg (by decide)
            refine lv_iconst (v := 1) hx hb dX10_readSaid_94 (by decide) ?_
            refine lv_istore_n (lv' := [(3, .int 1), (0, .ref p0), (1, .int x1), (2, .int x2)]) hx hb dX10_readSaid_95 rfl hl (by decide) rfl (fun ls hl => ?_)
            refine lv_iload_n hx hb dX10_readSaid_96 rfl (lv_at hl 2 rfl) ?_
            refine lv_if_eq (tgt := 108) hx hb dX10_readSaid_97 (by decide) (fun c_97 => ?_) (fun c_97 => ?_)
            · refine lv_iload_n hx hb dX10_readSaid_108 rfl (lv_at hl 3 rfl) ?_
              refine lv_bipush (v := 18) hx hb dX10_readSaid_109 (by decide) ?_
              refine lv_icmp_ne (tgt := 122) hx hb dX10_readSaid_111 (by decide) (fun c_111 => ?_) (fun c_111 => ?_)
              · have r_x2 : RI x2 19 27 := rc_neL r_x2 rl_18 (ti_ne c_111) (by decide)
                refine lv_iload_n hx hb dX10_readSaid_122 rfl (lv_at hl 3 rfl) ?_
                refine lv_bipush (v := 22) hx hb dX10_readSaid_123 (by decide) ?_
                refine lv_icmp_ge (tgt := 146) hx hb dX10_readSaid_125 (by decide) (fun c_125 => ?_) (fun c_125 => ?_)
                · have r_x2 : RI x2 22 27 := rc_le2 rl_22 r_x2 (ti_le c_125) (by decide)
                  refine lv_iload_n hx hb dX10_readSaid_146 rfl (lv_at hl 3 rfl) ?_
                  refine lv_bipush (v := 24) hx hb dX10_readSaid_147 (by decide) ?_
                  refine lv_icmp_ge (tgt := 160) hx hb dX10_readSaid_149 (by decide) (fun c_149 => ?_) (fun c_149 => ?_)
                  · have r_x2 : RI x2 24 27 := rc_le2 rl_24 r_x2 (ti_le c_149) (by decide)
                    refine lv_aload_n hx hb dX10_readSaid_160 rfl (lv_at hl 1 rfl) ?_
                    refine lv_iload_n hx hb dX10_readSaid_161 rfl (lv_at hl 3 rfl) ?_
                    refine tk_i (va_runV (As := [.int x2]) (rest := []) ⟨hx, hb, hml, hown, hts⟩ (c_X10_readCompare l D cy z H.size Ps ws hw.1 p0 x2 (gd+1) (gh+1) (gg) h_p0 r_x2 x_SNI_p0_gd_1_gh_1_gg) (cwV 1 hts (gV tw_1779 tw_1781 ts_118 tw_15 tw_1782) rfl rfl rfl (by decide +kernel) ⟨Nat.le_of_ble_eq_true rfl, Nat.le_of_ble_eq_true rfl⟩) (tg_preV hw hK hSD hA (ci := 10) (q := (RX10, TX10, 49)) rfl h_p0 rfl) rfl rfl hl.1 rfl (lv_room (Nat.le_of_ble_eq_true rfl)) dX10_readSaid_162 ⟨Nat.le_of_ble_eq_true rfl, Nat.le_of_ble_eq_true rfl⟩) hw hA ⟨by decide, by decide⟩ (fun v_19 ws H locs hp_v_19 hw hF9 => ?_)
                    have n_k_15 := FLD.over hF9 n_k_15 (by decide)
                    have n_k_17 := FLD.over hF9 n_k_17 (by decide)
                    have r_v_19 : RI v_19 0 1 := hp_v_19.1
                    by_cases c9_v_19 : v_19 = 0
                    · have r_v_19 : RI v_19 0 0 := by rw [c9_v_19]; exact rl_0
                      refine lv_istore_n (lv' := [(3, .int v_19), (0, .ref p0), (1, .int x1), (2, .int x2)]) hx hb dX10_readSaid_165 rfl hl (by decide) rfl (fun ls hl => ?_)
                      refine lv_aload_n hx hb dX10_readSaid_166 rfl (lv_at hl 1 rfl) ?_
                      refine lv_dup hx hb dX10_readSaid_167 rfl ?_
                      refine tg_mem (ci := 10) (C := RX10) (T := TX10) (N := 49) hx hb hts inX10 hown hK hw 47 n_k_17 rfl (by decide) (hts _ tw_1184) (fun _ h9 => h9) dX10_readSaid_168 ?_
                      refine lv_iconst (v := 1) hx hb dX10_readSaid_171 (by decide) ?_
                      refine lv_isub hx hb dX10_readSaid_172 (lv_topi (fun v_20 e_v_20 => ?_))
                      obtain ⟨t_v_20, r_v_20⟩ := tq_sub (lo := 7) (hi := 7) r_v_16 rl_1 (by decide +kernel) e_v_20
                      have t_v_20 : v_20.toInt = v_16.toInt - 1 := t_v_20
                      refine tg_put (ci := 10) (ts := ty_MODEL) (v := .int v_20) (ty := .int) (C := RX10) (T := TX10) (N := 49) hx hb hts inX10 tyX10 tyX10_ok nmX10 hown hK hw h_p0 rfl rfl 47 (by decide) (hts _ tw_1184) (fun _ h9 => h9) rfl (by decide +kernel) rfl rfl (ft := vI (-2147483648) 2147483647) rfl ⟨_, rfl, (r_v_20.to (by decide))⟩ (by decide) dX10_readSaid_173 (fun ws H locs hw n_k_21 hF9 => ?_)
                      have n_k_15 := FLD.over hF9 n_k_15 (by decide)
                      refine lv_iload_n hx hb dX10_readSaid_176 rfl (lv_at hl 0 rfl) ?_
                      subst hQ
                      exact W.zret (v := v_19) hx hb hr (tq_nz (r_v_19.to (by decide))) (fun t ht hW => ⟨⟨v_19, ws, rfl, ⟨⟨r_v_19.to (by decide), (fun h0 => ⟨⟨_, n_k_21, r_v_20⟩, trivial⟩), (fun h0 => absurd (Int32.toInt_inj.mp (by have h8 := r_v_19; unfold RI at h8; rw [Int32.toInt_zero]; omega)) h0)⟩, hw.1, hw.2.2.2.2.1⟩, by rw [ht]; exact hw.2.1, va_K.moved hW.alike hK, hw.2.2.1⟩, hw.2.2.2.1.F ht⟩) hw.2.2.2.1.2.2 dX10_readSaid_177
                    · have r_v_19 : RI v_19 1 1 := rc_neL r_v_19 rl_0 (ti_ne c9_v_19) (by decide)
                      obtain ⟨v_22, m_v_22, r_v_22⟩ := ((hp_v_19.2.2 c9_v_19).1)
                      obtain ⟨v_23, m_v_23, r_v_23⟩ := ((hp_v_19.2.2 c9_v_19).2.1)
                      have x_SNT_p0_gd_1_gh_1_gg := ((hp_v_19.2.2 c9_v_19).2.2.1)
                      refine lv_istore_n (lv' := [(3, .int v_19), (0, .ref p0), (1, .int x1), (2, .int x2)]) hx hb dX10_readSaid_165 rfl hl (by decide) rfl (fun ls hl => ?_)
                      refine lv_aload_n hx hb dX10_readSaid_166 rfl (lv_at hl 1 rfl) ?_
                      refine lv_dup hx hb dX10_readSaid_167 rfl ?_
                      refine tg_mem (ci := 10) (C := RX10) (T := TX10) (N := 49) hx hb hts inX10 hown hK hw 47 n_k_17 rfl (by decide) (hts _ tw_1184) (fun _ h9 => h9) dX10_readSaid_168 ?_
                      refine lv_iconst (v := 1) hx hb dX10_readSaid_171 (by decide) ?_
                      refine lv_isub hx hb dX10_readSaid_172 (lv_topi (fun v_24 e_v_24 => ?_))
                      obtain ⟨t_v_24, r_v_24⟩ := tq_sub (lo := 7) (hi := 7) r_v_16 rl_1 (by decide +kernel) e_v_24
                      have t_v_24 : v_24.toInt = v_16.toInt - 1 := t_v_24
                      refine tg_put (ci := 10) (ts := ty_MODEL) (v := .int v_24) (ty := .int) (C := RX10) (T := TX10) (N := 49) hx hb hts inX10 tyX10 tyX10_ok nmX10 hown hK hw h_p0 rfl rfl 47 (by decide) (hts _ tw_1184) (fun _ h9 => h9) rfl (by decide +kernel) rfl rfl (ft := vI (-2147483648) 2147483647) rfl ⟨_, rfl, (r_v_24.to (by decide))⟩ (by decide) dX10_readSaid_173 (fun ws H locs hw n_k_25 hF9 => ?_)
                      have n_k_15 := FLD.over hF9 n_k_15 (by decide)
                      have m_v_22 := FLD.over hF9 m_v_22 (by decide)
                      have m_v_23 := FLD.over hF9 m_v_23 (by decide)
                      have x_SNT_p0_gd_1_gh_1_gg := SNT.over hF9 x_SNT_p0_gd_1_gh_1_gg (by decide)
                      refine lv_iload_n hx hb dX10_readSaid_176 rfl (lv_at hl 0 rfl) ?_
                      subst hQ
                      exact W.zret (v := v_19) hx hb hr (tq_nz (r_v_19.to (by decide))) (fun t ht hW => ⟨⟨v_19, ws, rfl, ⟨⟨r_v_19.to (by decide), (fun h0 => absurd (ti_eq h0) (by have h8 := r_v_19; unfold RI at h8; rw [Int32.toInt_zero]; omega)), (fun h0 => ⟨⟨_, n_k_15, r_v_14⟩, ⟨_, m_v_23, r_v_23⟩, ⟨_, n_k_25, r_v_24⟩, x_SNT_p0_gd_1_gh_1_gg, trivial⟩)⟩, hw.1, hw.2.2.2.2.1⟩, by rw [ht]; exact hw.2.1, va_K.moved hW.alike hK, hw.2.2.1⟩, hw.2.2.2.1.F ht⟩) hw.2.2.2.1.2.2 dX10_readSaid_177
                  · have r_x2 : RI x2 22 23 := rc_lt1 r_x2 rl_24 (ti_nle c_149) (by decide)
                    refine lv_aload_n hx hb dX10_readSaid_152 rfl (lv_at hl 1 rfl) ?_
                    refine lv_iload_n hx hb dX10_readSaid_153 rfl (lv_at hl 3 rfl) ?_
                    refine tk_i (va_runV (As := [.int x2]) (rest := []) ⟨hx, hb, hml, hown, hts⟩ (c_X10_readOf l D cy z H.size Ps ws hw.1 p0 x2 (gd+1) (gh+1) (gg) h_p0 r_x2 x_SNI_p0_gd_1_gh_1_gg) (cwV 1 hts (gV tw_1775 tw_1777 ts_117 tw_15 tw_1778) rfl rfl rfl (by decide +kernel) ⟨Nat.le_of_ble_eq_true rfl, Nat.le_of_ble_eq_true rfl⟩) (tg_preV hw hK hSD hA (ci := 10) (q := (RX10, TX10, 49)) rfl h_p0 rfl) rfl rfl hl.1 rfl (lv_room (Nat.le_of_ble_eq_true rfl)) dX10_readSaid_154 ⟨Nat.le_of_ble_eq_true rfl, Nat.le_of_ble_eq_true rfl⟩) hw hA ⟨by decide, by decide⟩ (fun v_26 ws H locs hp_v_26 hw hF9 => ?_)
                    have n_k_15 := FLD.over hF9 n_k_15 (by decide)
                    have n_k_17 := FLD.over hF9 n_k_17 (by decide)
                    have r_v_26 : RI v_26 0 1 := hp_v_26.1
                    by_cases c9_v_26 : v_26 = 0
                    · have r_v_26 : RI v_26 0 0 := by rw [c9_v_26]; exact rl_0
                      refine lv_goto (tgt := 165) hx hb dX10_readSaid_157 (by decide) ?_
                      refine lv_istore_n (lv' := [(3, .int v_26), (0, .ref p0), (1, .int x1), (2, .int x2)]) hx hb dX10_readSaid_165 rfl hl (by decide) rfl (fun ls hl => ?_)
                      refine lv_aload_n hx hb dX10_readSaid_166 rfl (lv_at hl 1 rfl) ?_
                      refine lv_dup hx hb dX10_readSaid_167 rfl ?_
                      refine tg_mem (ci := 10) (C := RX10) (T := TX10) (N := 49) hx hb hts inX10 hown hK hw 47 n_k_17 rfl (by decide) (hts _ tw_1184) (fun _ h9 => h9) dX10_readSaid_168 ?_
                      refine lv_iconst (v := 1) hx hb dX10_readSaid_171 (by decide) ?_
                      refine lv_isub hx hb dX10_readSaid_172 (lv_topi (fun v_27 e_v_27 => ?_))
                      obtain ⟨t_v_27, r_v_27⟩ := tq_sub (lo := 7) (hi := 7) r_v_16 rl_1 (by decide +kernel) e_v_27
                      have t_v_27 : v_27.toInt = v_16.toInt - 1 := t_v_27
                      refine tg_put (ci := 10) (ts := ty_MODEL) (v := .int v_27) (ty := .int) (C := RX10) (T := TX10) (N := 49) hx hb hts inX10 tyX10 tyX10_ok nmX10 hown hK hw h_p0 rfl rfl 47 (by decide) (hts _ tw_1184) (fun _ h9 => h9) rfl (by decide +kernel) rfl rfl (ft := vI (-2147483648) 2147483647) rfl ⟨_, rfl, (r_v_27.to (by decide))⟩ (by decide) dX10_readSaid_173 (fun ws H locs hw n_k_28 hF9 => ?_)
                      have n_k_15 := FLD.over hF9 n_k_15 (by decide)
                      refine lv_iload_n hx hb dX10_readSaid_176 rfl (lv_at hl 0 rfl) ?_
                      subst hQ
                      exact W.zret (v := v_26) hx hb hr (tq_nz (r_v_26.to (by decide))) (fun t ht hW => ⟨⟨v_26, ws, rfl, ⟨⟨r_v_26.to (by decide), (fun h0 => ⟨⟨_, n_k_28, r_v_27⟩, trivial⟩), (fun h0 => absurd (Int32.toInt_inj.mp (by have h8 := r_v_26; unfold RI at h8; rw [Int32.toInt_zero]; omega)) h0)⟩, hw.1, hw.2.2.2.2.1⟩, by rw [ht]; exact hw.2.1, va_K.moved hW.alike hK, hw.2.2.1⟩, hw.2.2.2.1.F ht⟩) hw.2.2.2.1.2.2 dX10_readSaid_177
                    · have r_v_26 : RI v_26 1 1 := rc_neL r_v_26 rl_0 (ti_ne c9_v_26) (by decide)
                      obtain ⟨v_29, m_v_29, r_v_29⟩ := ((hp_v_26.2.2 c9_v_26).1)
                      obtain ⟨v_30, m_v_30, r_v_30⟩ := ((hp_v_26.2.2 c9_v_26).2.1)
                      have x_SNT_p0_gd_1_gh_1_gg := ((hp_v_26.2.2 c9_v_26).2.2.1)
                      refine lv_goto (tgt := 165) hx hb dX10_readSaid_157 (by decide) ?_
                      refine lv_istore_n (lv' := [(3, .int v_26), (0, .ref p0), (1, .int x1), (2, .int x2)]) hx hb dX10_readSaid_165 rfl hl (by decide) rfl (fun ls hl => ?_)
                      refine lv_aload_n hx hb dX10_readSaid_166 rfl (lv_at hl 1 rfl) ?_
                      refine lv_dup hx hb dX10_readSaid_167 rfl ?_
                      refine tg_mem (ci := 10) (C := RX10) (T := TX10) (N := 49) hx hb hts inX10 hown hK hw 47 n_k_17 rfl (by decide) (hts _ tw_1184) (fun _ h9 => h9) dX10_readSaid_168 ?_
                      refine lv_iconst (v := 1) hx hb dX10_readSaid_171 (by decide) ?_
                      refine lv_isub hx hb dX10_readSaid_172 (lv_topi (fun v_31 e_v_31 => ?_))
                      obtain ⟨t_v_31, r_v_31⟩ := tq_sub (lo := 7) (hi := 7) r_v_16 rl_1 (by decide +kernel) e_v_31
                      have t_v_31 : v_31.toInt = v_16.toInt - 1 := t_v_31
                      refine tg_put (ci := 10) (ts := ty_MODEL) (v := .int v_31) (ty := .int) (C := RX10) (T := TX10) (N := 49) hx hb hts inX10 tyX10 tyX10_ok nmX10 hown hK hw h_p0 rfl rfl 47 (by decide) (hts _ tw_1184) (fun _ h9 => h9) rfl (by decide +kernel) rfl rfl (ft := vI (-2147483648) 2147483647) rfl ⟨_, rfl, (r_v_31.to (by decide))⟩ (by decide) dX10_readSaid_173 (fun ws H locs hw n_k_32 hF9 => ?_)
                      have n_k_15 := FLD.over hF9 n_k_15 (by decide)
                      have m_v_29 := FLD.over hF9 m_v_29 (by decide)
                      have m_v_30 := FLD.over hF9 m_v_30 (by decide)
                      have x_SNT_p0_gd_1_gh_1_gg := SNT.over hF9 x_SNT_p0_gd_1_gh_1_gg (by decide)
                      refine lv_iload_n hx hb dX10_readSaid_176 rfl (lv_at hl 0 rfl) ?_
                      subst hQ
                      exact W.zret (v := v_26) hx hb hr (tq_nz (r_v_26.to (by decide))) (fun t ht hW => ⟨⟨v_26, ws, rfl, ⟨⟨r_v_26.to (by decide), (fun h0 => absurd (ti_eq h0) (by have h8 := r_v_26; unfold RI at h8; rw [Int32.toInt_zero]; omega)), (fun h0 => ⟨⟨_, n_k_15, r_v_14⟩, ⟨_, m_v_30, r_v_30⟩, ⟨_, n_k_32, r_v_31⟩, x_SNT_p0_gd_1_gh_1_gg, trivial⟩)⟩, hw.1, hw.2.2.2.2.1⟩, by rw [ht]; exact hw.2.1, va_K.moved hW.alike hK, hw.2.2.1⟩, hw.2.2.2.1.F ht⟩) hw.2.2.2.1.2.2 dX10_readSaid_177
                · have r_x2 : RI x2 19 21 := rc_lt1 r_x2 rl_22 (ti_nle c_125) (by decide)
                  refine lv_aload_n hx hb dX10_readSaid_128 rfl (lv_at hl 1 rfl) ?_
                  refine lv_aload_n hx hb dX10_readSaid_129 rfl (lv_at hl 1 rfl) ?_
                  refine lv_bipush (v := 50) hx hb dX10_readSaid_130 (by decide) ?_
                  refine lv_iload_n hx hb dX10_readSaid_132 rfl (lv_at hl 3 rfl) ?_
                  refine lv_iadd hx hb dX10_readSaid_133 (lv_topi (fun v_33 e_v_33 => ?_))
                  obtain ⟨t_v_33, r_v_33⟩ := tq_add (lo := 69) (hi := 71) rl_50 r_x2 (by decide +kernel) e_v_33
                  have t_v_33 : v_33.toInt = 50 + x2.toInt := t_v_33
                  refine lv_iconst (v := 0) hx hb dX10_readSaid_134 (by decide) ?_
                  refine lv_iconst (v := 0) hx hb dX10_readSaid_135 (by decide) ?_
                  refine lv_iconst (v := 0) hx hb dX10_readSaid_136 (by decide) ?_
                  refine tk_i (va_runV (As := [.int v_33, .int 0, .int 0, .int 0]) (rest := [.ref p0]) ⟨hx, hb, hml, hown, hts⟩ (c_X10_saysOne l D cy z H.size Ps ws hw.1 p0 v_33 0 0 0 (gd+1) (gh+1) (gg) h_p0 (r_v_33.to (by decide)) (rl_0.to (by decide)) (rl_0.to (by decide)) (rl_0.to (by decide)) x_SNI_p0_gd_1_gh_1_gg) (cwV 4 hts (gV tw_1771 tw_1773 ts_116 tw_15 tw_1774) rfl rfl rfl (by decide +kernel) ⟨Nat.le_of_ble_eq_true rfl, Nat.le_of_ble_eq_true rfl⟩) (tg_preV hw hK hSD hA (ci := 10) (q := (RX10, TX10, 49)) rfl h_p0 rfl) rfl rfl hl.1 rfl (lv_room (Nat.le_of_ble_eq_true rfl)) dX10_readSaid_137 ⟨Nat.le_of_ble_eq_true rfl, Nat.le_of_ble_eq_true rfl⟩) hw hA ⟨by decide, by decide⟩ (fun v_34 ws H locs hp_v_34 hw hF9 => ?_)
                  have n_k_15 := FLD.over hF9 n_k_15 (by decide)
                  have n_k_17 := FLD.over hF9 n_k_17 (by decide)
                  have r_v_34 : RI v_34 0 39 := hp_v_34.1
                  have x_SNL_p0_gd_1_gh_1_gg_v_34 := hp_v_34.2.2.2.1.1
                  refine tg_put (ci := 10) (ts := ty_MODEL) (v := .int v_34) (ty := .int) (C := RX10) (T := TX10) (N := 49) hx hb hts inX10 tyX10 tyX10_ok nmX10 hown hK hw h_p0 rfl rfl 48 (by decide) (hts _ tw_1185) (fun _ h9 => h9) rfl (by decide +kernel) rfl rfl (ft := vI (-2147483648) 2147483647) rfl ⟨_, rfl, (r_v_34.to (by decide))⟩ (by decide) dX10_readSaid_140 (fun ws H locs hw n_k_35 hF9 => ?_)
                  have n_k_15 := FLD.over hF9 n_k_15 (by decide)
                  have n_k_17 := FLD.over hF9 n_k_17 (by decide)
                  have x_SNL_p0_gd_1_gh_1_gg_v_34 := SNL.over hF9 x_SNL_p0_gd_1_gh_1_gg_v_34 (by decide)
                  have x_SNT_p0_gd_1_gh_1_gg : SNT ws p0 (gd+1) (gh+1) (gg) := (x_SNL_p0_gd_1_gh_1_gg_v_34.weak (d' := gd+1) (h' := gh+1) (g' := gg) (by have k1 := x_SNL_p0_gd_1_gh_1_gg_v_34.le; have d_8 := SNp.le x_SN_p0_gd_gh_gg; omega)).snt n_k_35
                  refine lv_goto (tgt := 166) hx hb dX10_readSaid_143 (by decide) ?_
                  refine lv_aload_n hx hb dX10_readSaid_166 rfl (lv_at hl 1 rfl) ?_
                  refine lv_dup hx hb dX10_readSaid_167 rfl ?_
                  refine tg_mem (ci := 10) (C := RX10) (T := TX10) (N := 49) hx hb hts inX10 hown hK hw 47 n_k_17 rfl (by decide) (hts _ tw_1184) (fun _ h9 => h9) dX10_readSaid_168 ?_
                  refine lv_iconst (v := 1) hx hb dX10_readSaid_171 (by decide) ?_
                  refine lv_isub hx hb dX10_readSaid_172 (lv_topi (fun v_36 e_v_36 => ?_))
                  obtain ⟨t_v_36, r_v_36⟩ := tq_sub (lo := 7) (hi := 7) r_v_16 rl_1 (by decide +kernel) e_v_36
                  have t_v_36 : v_36.toInt = v_16.toInt - 1 := t_v_36
                  refine tg_put (ci := 10) (ts := ty_MODEL) (v := .int v_36) (ty := .int) (C := RX10) (T := TX10) (N := 49) hx hb hts inX10 tyX10 tyX10_ok nmX10 hown hK hw h_p0 rfl rfl 47 (by decide) (hts _ tw_1184) (fun _ h9 => h9) rfl (by decide +kernel) rfl rfl (ft := vI (-2147483648) 2147483647) rfl ⟨_, rfl, (r_v_36.to (by decide))⟩ (by decide) dX10_readSaid_173 (fun ws H locs hw n_k_37 hF9 => ?_)
                  have n_k_15 := FLD.over hF9 n_k_15 (by decide)
                  have n_k_35 := FLD.over hF9 n_k_35 (by decide)
                  have x_SNL_p0_gd_1_gh_1_gg_v_34 := SNL.over hF9 x_SNL_p0_gd_1_gh_1_gg_v_34 (by decide)
                  have x_SNT_p0_gd_1_gh_1_gg := SNT.over hF9 x_SNT_p0_gd_1_gh_1_gg (by decide)
                  refine lv_iload_n hx hb dX10_readSaid_176 rfl (lv_at hl 0 rfl) ?_
                  subst hQ
                  exact W.zret (v := 1) hx hb hr (rfl) (fun t ht hW => ⟨⟨1, ws, rfl, ⟨⟨rl_1.to (by decide), (fun h0 => absurd h0 (by decide)), (fun h0 => ⟨⟨_, n_k_15, r_v_14⟩, ⟨_, n_k_35, r_v_34⟩, ⟨_, n_k_37, r_v_36⟩, x_SNT_p0_gd_1_gh_1_gg, trivial⟩)⟩, hw.1, hw.2.2.2.2.1⟩, by rw [ht]; exact hw.2.1, va_K.moved hW.alike hK, hw.2.2.1⟩, hw.2.2.2.1.F ht⟩) hw.2.2.2.1.2.2 dX10_readSaid_177
              · have r_x2 : RI x2 18 18 := rc_eq1 r_x2 rl_18 (ti_eq c_111) (by decide)
                refine lv_aload_n hx hb dX10_readSaid_114 rfl (lv_at hl 1 rfl) ?_
                refine tk_i (va_runV (As := []) (rest := []) ⟨hx, hb, hml, hown, hts⟩ (c_X10_readNot l D cy z H.size Ps ws hw.1 p0 v_16 (gd+1) (gh+1) (gg) h_p0 r_v_16 n_k_17 x_SNI_p0_gd_1_gh_1_gg) (cwV 0 hts (gV tw_1767 tw_1769 ts_115 tw_15 tw_1770) rfl rfl rfl (by decide +kernel) ⟨Nat.le_of_ble_eq_true rfl, Nat.le_of_ble_eq_true rfl⟩) (tg_preV hw hK hSD hA (ci := 10) (q := (RX10, TX10, 49)) rfl h_p0 rfl) rfl rfl hl.1 rfl (lv_room (Nat.le_of_ble_eq_true rfl)) dX10_readSaid_115 ⟨Nat.le_of_ble_eq_true rfl, Nat.le_of_ble_eq_true rfl⟩) hw hA ⟨by decide, by decide⟩ (fun v_38 ws H locs hp_v_38 hw hF9 => ?_)
                have hn9 := FLD.over hF9 hn9 (by decide)
                have n_k_15 := FLD.over hF9 n_k_15 (by decide)
                have n_k_17 := FLD.over hF9 n_k_17 (by decide)
                have x_SNI_p0_gd_1_gh_1_gg := SNI.over hF9 x_SNI_p0_gd_1_gh_1_gg (by decide)
                have r_v_38 : RI v_38 0 0 := hp_v_38.1
                by_cases c9_v_38 : v_38 = 0
                · have r_v_38 : RI v_38 0 0 := by rw [c9_v_38]; exact rl_0
                  obtain ⟨v_39, m_v_39, r_v_39⟩ := ((hp_v_38.2.1 c9_v_38).1)
                  refine lv_istore_n (lv' := [(3, .int v_38), (0, .ref p0), (1, .int x1), (2, .int x2)]) hx hb dX10_readSaid_118 rfl hl (by decide) rfl (fun ls hl => ?_)
                  refine lv_goto (tgt := 166) hx hb dX10_readSaid_119 (by decide) ?_
                  refine lv_aload_n hx hb dX10_readSaid_166 rfl (lv_at hl 1 rfl) ?_
                  refine lv_dup hx hb dX10_readSaid_167 rfl ?_
                  refine tg_mem (ci := 10) (C := RX10) (T := TX10) (N := 49) hx hb hts inX10 hown hK hw 47 m_v_39 rfl (by decide) (hts _ tw_1184) (fun _ h9 => h9) dX10_readSaid_168 ?_
                  refine lv_iconst (v := 1) hx hb dX10_readSaid_171 (by decide) ?_
                  refine lv_isub hx hb dX10_readSaid_172 (lv_topi (fun v_40 e_v_40 => ?_))
                  obtain ⟨t_v_40, r_v_40⟩ := tq_sub (lo := 7) (hi := 7) r_v_39 rl_1 (by decide +kernel) e_v_40
                  have t_v_40 : v_40.toInt = v_39.toInt - 1 := t_v_40
                  refine tg_put (ci := 10) (ts := ty_MODEL) (v := .int v_40) (ty := .int) (C := RX10) (T := TX10) (N := 49) hx hb hts inX10 tyX10 tyX10_ok nmX10 hown hK hw h_p0 rfl rfl 47 (by decide) (hts _ tw_1184) (fun _ h9 => h9) rfl (by decide +kernel) rfl rfl (ft := vI (-2147483648) 2147483647) rfl ⟨_, rfl, (r_v_40.to (by decide))⟩ (by decide) dX10_readSaid_173 (fun ws H locs hw n_k_41 hF9 => ?_)
                  have hn9 := FLD.over hF9 hn9 (by decide)
                  have n_k_15 := FLD.over hF9 n_k_15 (by decide)
                  have x_SNI_p0_gd_1_gh_1_gg := SNI.over hF9 x_SNI_p0_gd_1_gh_1_gg (by decide)
                  refine lv_iload_n hx hb dX10_readSaid_176 rfl (lv_at hl 0 rfl) ?_
                  subst hQ
                  exact W.zret (v := v_38) hx hb hr (tq_nz (r_v_38.to (by decide))) (fun t ht hW => ⟨⟨v_38, ws, rfl, ⟨⟨r_v_38.to (by decide), (fun h0 => ⟨⟨_, n_k_41, r_v_40⟩, trivial⟩), (fun h0 => absurd (Int32.toInt_inj.mp (by have h8 := r_v_38; unfold RI at h8; rw [Int32.toInt_zero]; omega)) h0)⟩, hw.1, hw.2.2.2.2.1⟩, by rw [ht]; exact hw.2.1, va_K.moved hW.alike hK, hw.2.2.1⟩, hw.2.2.2.1.F ht⟩) hw.2.2.2.1.2.2 dX10_readSaid_177
                · exact absurd (Int32.toInt_inj.mp (by rw [Int32.toInt_zero]; unfold RI at r_v_38; omega)) c9_v_38
            · exact absurd (r_x1.eq.trans rl_0.eq.symm) ((ti_ne c_97))
          · have r_z0_47 : RI z0_47 8 7 := rc_eq1 r_z0_47 rl_8 (ti_eq c_61) (by decide)
            exact (r_z0_47.no (by decide)).elim
      · have r_x2 : RI x2 28 28 := rc_lt2 rl_27 r_x2 (ti_nle c_37) (by decide)
        refine lv_aload_n hx hb dX10_readSaid_40 rfl (lv_at hl 0 rfl) ?_
        refine lv_iconst (v := 1) hx hb dX10_readSaid_41 (by decide) ?_
        refine tk_i (va_runV (As := [.int 1]) (rest := []) ⟨hx, hb, hml, hown, hts⟩ (c_X10_bad l D cy z H.size Ps ws hw.1 p0 1 h_p0 (rl_1.to (by decide))) (cwV 1 hts (gV tw_1336 tw_1338 ts_46 tw_15 tw_1339) rfl rfl rfl (by decide +kernel) ⟨Nat.le_of_ble_eq_true rfl, Nat.le_of_ble_eq_true rfl⟩) (tg_preV hw hK hSD hA (ci := 10) (q := (RX10, TX10, 49)) rfl h_p0 rfl) rfl rfl hl.1 rfl (lv_room (Nat.le_of_ble_eq_true rfl)) dX10_readSaid_42 ⟨Nat.le_of_ble_eq_true rfl, Nat.le_of_ble_eq_true rfl⟩) hw hA ⟨by decide, by decide⟩ (fun v_42 ws H locs hp_v_42 hw hF9 => ?_)
        have m_z0_47 := FLD.over hF9 m_z0_47 (by decide)
        have x_SN_p0_gd_gh_gg := SNp.over hF9 x_SN_p0_gd_gh_gg (by decide)
        have r_v_42 : RI v_42 0 0 := hp_v_42.1
        subst hQ
        exact W.zret (v := v_42) hx hb hr (tq_nz (r_v_42.to (by decide))) (fun t ht hW => ⟨⟨v_42, ws, rfl, ⟨⟨r_v_42.to (by decide), (fun h0 => ⟨⟨_, m_z0_47, r_z0_47⟩, trivial⟩), (fun h0 => absurd (Int32.toInt_inj.mp (by have h8 := r_v_42; unfold RI at h8; rw [Int32.toInt_zero]; omega)) h0)⟩, hw.1, hw.2.2.2.2.1⟩, by rw [ht]; exact hw.2.1, va_K.moved hW.alike hK, hw.2.2.1⟩, hw.2.2.2.1.F ht⟩) hw.2.2.2.1.2.2 dX10_readSaid_45
  have B10 : ∀ (nf : Nat) (x1 : Int32) (x2 : Int32) (z0_47 : Int32) (ws : va_W) (H : Heap) (locs : List Loc) (ls : Array Slot), 28 - x2.toInt < (nf : Int) → RI x1 0 1 → RI x2 18 28 → RI z0_47 7 7 → FLD ws p0 10 47 (.int z0_47) → SNp ws p0 (gd) (gh) (gg) → WD D cy GG A s wr_X10_readSaid__7 wa_X10_readSaid__7 Ps w0 Ps ws H locs → lv_has ls 4 [(0, .ref p0), (1, .int x1), (2, .int x2)] → W p l e (headSpec (Cond.code yX10_readSaid cX10_readSaid 4 (some .boolean) :: gT) ({ frames := 8, cells := 0, slots := 0, locals := 1600 } : Room)).room s m ([.ref p0] : List Value).toArray below meth c H locs 0 0 Q (F0 m 10 ls []) := by
    intro nf10
    induction nf10 with
    | zero =>
      intro x1 x2 z0_47 ws H locs ls hn10 r_x1 r_x2 r_z0_47 m_z0_47 x_SN_p0_gd_gh_gg hw hl
      exact absurd hn10 (by have q0 := r_x2.1; have u0 := r_x2.2; omega)
    | succ nf10 ih10 =>
      intro x1 x2 z0_47 ws H locs ls hn10 r_x1 r_x2 r_z0_47 m_z0_47 x_SN_p0_gd_gh_gg hw hl
      refine lv_iload_n hx hb dX10_readSaid_10 rfl (lv_at hl 2 rfl) ?_
      refine lv_bipush (v := 27) hx hb dX10_readSaid_11 (by decide) ?_
      refine lv_icmp_gt (tgt := 30) hx hb dX10_readSaid_13 (by decide) (fun c_13 => ?_) (fun c_13 => ?_)
      · have r_x2 : RI x2 28 28 := rc_lt2 rl_27 r_x2 (ti_lt c_13) (by decide)
        exact B30 x1 x2 z0_47 ws _ _ ls r_x1 (r_x2.to (by decide)) r_z0_47 m_z0_47 x_SN_p0_gd_gh_gg hw hl
      · have r_x2 : RI x2 18 27 := rc_le1 r_x2 rl_27 (ti_nlt c_13) (by decide)
        refine lv_aload_n hx hb dX10_readSaid_16 rfl (lv_at hl 0 rfl) ?_
        refine lv_iload_n hx hb dX10_readSaid_17 rfl (lv_at hl 2 rfl) ?_
        refine tk_ir (va_runV (As := [.int x2]) (rest := []) ⟨hx, hb, hml, hown, hts⟩ (c_X10_isWord l D cy z H.size Ps ws hw.1 p0 x2 h_p0 (r_x2.to (by decide))) (cwV 1 hts (gV tw_1318 tw_1320 ts_43 tw_15 tw_1321) rfl rfl rfl (by decide +kernel) ⟨Nat.le_of_ble_eq_true rfl, Nat.le_of_ble_eq_true rfl⟩) (tg_preV hw hK hSD hA (ci := 10) (q := (RX10, TX10, 49)) rfl h_p0 rfl) rfl rfl hl.1 rfl (lv_room (Nat.le_of_ble_eq_true rfl)) dX10_readSaid_18 ⟨Nat.le_of_ble_eq_true rfl, Nat.le_of_ble_eq_true rfl⟩) hw hA (fun v_43  H locs hp_v_43 hw => ?_)
        have r_v_43 : RI v_43 0 1 := hp_v_43.1
        refine lv_if_ne (tgt := 30) hx hb dX10_readSaid_21 (by decide) (fun c_21 => ?_) (fun c_21 => ?_)
        · have r_v_43 : RI v_43 1 1 := rc_neL r_v_43 rl_0 (ti_ne c_21) (by decide)
          exact B30 x1 x2 z0_47 ws _ _ ls r_x1 (r_x2.to (by decide)) r_z0_47 m_z0_47 x_SN_p0_gd_gh_gg hw hl
        · have r_v_43 : RI v_43 0 0 := rc_eq1 r_v_43 rl_0 (ti_eq c_21) (by decide)
          obtain ⟨v_44, e_v_44⟩ : ∃ q9 : Int32, q9 = x2 + Int32.ofInt 1 := ⟨_, rfl⟩
          obtain ⟨t_v_44, r_v_44⟩ := tq_add (lo := 19) (hi := 28) r_x2 (show RI (Int32.ofInt 1) 1 1 by unfold RI; decide +kernel) (by decide +kernel) e_v_44
          have t_v_44 : v_44.toInt = x2.toInt + 1 := t_v_44
          refine lv_iinc (v := v_44) (lv' := [(2, .int v_44), (0, .ref p0), (1, .int x1)]) hx hb dX10_readSaid_24 hl (k := 2) rfl e_v_44.symm (by decide) rfl (fun ls hl => ?_)
          refine lv_goto (tgt := 10) hx hb dX10_readSaid_27 (by decide) ?_
          exact ih10 x1 v_44 z0_47 ws _ _ ls (by have q0 := r_v_44.1; have u0 := r_v_44.2; have o0 := r_x2.1; have p0 := r_x2.2; omega) r_x1 (r_v_44.to (by decide)) r_z0_47 m_z0_47 x_SN_p0_gd_gh_gg hw (lv_sub hl [1, 2, 0] rfl)
  refine lv_aload_n hx hb dX10_readSaid_0 rfl (lv_at hl 0 rfl) ?_
  refine lv_bipush (v := 40) hx hb dX10_readSaid_1 (by decide) ?_
  refine tk_ir (va_runV (As := [.int 40]) (rest := []) ⟨hx, hb, hml, hown, hts⟩ (c_X10_isSign l D cy z s.heap.size Ps w0 hw.1 p0 40 h_p0 (rl_40.to (by decide))) (cwV 1 hts (gV tw_1413 tw_1415 ts_63 tw_15 tw_1416) rfl rfl rfl (by decide +kernel) ⟨Nat.le_of_ble_eq_true rfl, Nat.le_of_ble_eq_true rfl⟩) (tg_preV hw hK hSD hA (ci := 10) (q := (RX10, TX10, 49)) rfl h_p0 rfl) rfl rfl hl.1 rfl (lv_room (Nat.le_of_ble_eq_true rfl)) dX10_readSaid_3 ⟨Nat.le_of_ble_eq_true rfl, Nat.le_of_ble_eq_true rfl⟩) hw hA (fun v_45  H locs hp_v_45 hw => ?_)
  have r_v_45 : RI v_45 0 1 := hp_v_45.1
  by_cases c9_v_45 : v_45 = 0
  · have r_v_45 : RI v_45 0 0 := by rw [c9_v_45]; exact rl_0
    refine lv_istore_n (lv' := [(1, .int v_45), (0, .ref p0)]) hx hb dX10_readSaid_6 rfl hl (by decide) rfl (fun ls hl => ?_)
    refine lv_bipush (v := 18) hx hb dX10_readSaid_7 (by decide) ?_
    refine lv_istore_n (lv' := [(2, .int 18), (1, .int v_45), (0, .ref p0)]) hx hb dX10_readSaid_9 rfl hl (by decide) rfl (fun ls hl => ?_)
    exact B10 4294967298 v_45 18 f0_47 w0 _ _ ls (by have q0 := rl_18.1; have u0 := rl_18.2; omega) (r_v_45.to (by decide)) (rl_18.to (by decide)) r_f0_47 m_f0_47 x_SN_p0_gd_gh_gg hw (lv_sub hl [2, 1, 0] rfl)
  · have r_v_45 : RI v_45 1 1 := rc_neL r_v_45 rl_0 (ti_ne c9_v_45) (by decide)
    obtain ⟨v_46, m_v_46, r_v_46⟩ := ((hp_v_45.2.2 c9_v_45).1)
    refine lv_istore_n (lv' := [(1, .int v_45), (0, .ref p0)]) hx hb dX10_readSaid_6 rfl hl (by decide) rfl (fun ls hl => ?_)
    refine lv_bipush (v := 18) hx hb dX10_readSaid_7 (by decide) ?_
    refine lv_istore_n (lv' := [(2, .int 18), (1, .int v_45), (0, .ref p0)]) hx hb dX10_readSaid_9 rfl hl (by decide) rfl (fun ls hl => ?_)
    exact B10 4294967298 v_45 18 f0_47 w0 _ _ ls (by have q0 := rl_18.1; have u0 := rl_18.2; omega) (r_v_45.to (by decide)) (rl_18.to (by decide)) r_f0_47 m_f0_47 x_SN_p0_gd_gh_gg hw (lv_sub hl [2, 1, 0] rfl)
abbrev wr_X10_saysOne__1 : List (Nat × Nat) := [(10, 45)]
abbrev wa_X10_saysOne__1 : List Nat := [54]
set_option maxHeartbeats 4000000 in
set_option maxRecDepth 100000 in
theorem c_X10_saysOne__1 (l : Launch) (D : va_G) (cy : Nat → ClassId) (z : Nat → Nat) (sz : Nat) (Ps : PSI) (w0 : va_W) (hT : HT cy GG Ps w0) (p0 : Nat) (p1 : Int32) (p2 : Int32) (p3 : Int32) (p4 : Int32) (gd : Int) (gh : Int) (gg : Int) (h_p0 : (p0, 55) ∈ Ps) (r_p1 : RI p1 2 3) (r_p2 : RI p2 (-2147483648) 2147483647) (r_p3 : RI p3 (-2147483648) 2147483647) (r_p4 : RI p4 (-2147483648) 2147483647) (x_SNI_p0_gd_gh_gg : SNI w0 p0 (gd) (gh) (gg)) (x_LTN_p0_p2 : LTN w0 p0 (p2)) (x_LTN_p0_p3 : LTN w0 p0 (p3)) : Met l yX10_saysOne (Cond.code yX10_saysOne cX10_saysOne 6 (some .int) :: gT) ({ frames := 0, cells := 0, slots := 0, locals := 200 } : Room) (va_Pc [.ref p0, .int p1, .int p2, .int p3, .int p4] (PRE D cy z w0 sz)) (va_Qi (fun (r : Int32) (u : va_W) => (RI r 0 39 ∧ (r = 0 → True) ∧ (¬ r = 0 → True) ∧ (SNL u p0 (gd) (gh) (gg) (r) ∧ True) ∧ (r.toInt < 0 → True) ∧ (0 ≤ r.toInt → True)) ∧ HT cy GG Ps u ∧ FR wr_X10_saysOne__1 wa_X10_saysOne__1 Ps w0 u) (BB D cy (va_A w0 sz) (fun (u : va_W) => u)) (va_A w0 sz)) 0 0 (va_A w0 sz) := by
  refine Met.ofW (cc := cX10_saysOne) (maxL := 6) (ret := (some .int)) (by decide) rfl ?_
  intro p e s m args below meth c s₁ B hml hv
  obtain ⟨rfl, hsz, hP, hK, hD0, hSD⟩ := hv
  have hx := B.exec
  have hb := B.bytes
  have hr := B.returns
  have hlocks := B.notSynchronized
  have hts : ∀ w ∈ gT, w.before _ s = true := fun w h => atoms_spec (ws := Cond.code yX10_saysOne cX10_saysOne 6 (some .int) :: gT) B.pre w (List.mem_cons_of_mem _ h)
  have hown : s.vm.findClass RX10 = some m.cls := findClass_of_methodNamed B.named
  subst hsz
  have hD := hD0.self (sz := s.heap.size)
  generalize hAe : va_A w0 s.heap.size = A at hD hSD ⊢
  have hA : ∀ q : Nat, s.heap.size ≤ q → A q := fun q h => by rw [← hAe]; exact Or.inr h
  have hl := lv_entry ([.ref p0, .int p1, .int p2, .int p3, .int p4]) (n := 6) (Nat.le_of_ble_eq_true rfl)
  rw [lg_entry_eq]
  generalize (lg_sl ([.ref p0, .int p1, .int p2, .int p3, .int p4]) ++ List.replicate (6 - (lg_sl ([.ref p0, .int p1, .int p2, .int p3, .int p4])).length) Slot.unset).toArray = ls at hl ⊢
  have hl : lv_has ls 6 [(0, .ref p0), (1, .int p1), (2, .int p2), (3, .int p3), (4, .int p4)] := hl
  refine nameQ (fun Q hQ => ?_)
  have hw : WD D cy GG A s wr_X10_saysOne__1 wa_X10_saysOne__1 Ps w0 Ps w0 s.heap [] := ⟨hT, hP, hD, va_S.rf, FR.rf, hT.1, [], (List.append_nil _).symm⟩
  refine lv_iconst (v := 4) hx hb dX10_saysOne_0 (by decide) ?_
  refine lv_aload_n hx hb dX10_saysOne_1 rfl (lv_at hl 0 rfl) ?_
  refine tg_get (ci := 10) (ts := ty_MODEL) (C := RX10) (T := TX10) (N := 49) hx hb hts inX10 hown hK hw h_p0 rfl rfl 45 (by decide) (hts _ tw_1182) (fun _ h9 => h9) (ft := vI (-2147483648) 2147483647) rfl dX10_saysOne_2 (fun u_1 hv_u_1 m_u_1 => ?_)
  obtain ⟨vu_1, rfl, r_vu_1⟩ := hv_u_1
  obtain ⟨o9, ho9, ro9, b9⟩ := SNp.getN hw x_SNI_p0_gd_gh_gg.2 m_u_1
  have d9 := x_SNI_p0_gd_gh_gg.1
  have ro8 := ro9.2
  have r_vu_1 : RI vu_1 0 39 := ⟨by omega, by omega⟩
  refine lv_imul hx hb dX10_saysOne_5 (lv_topi (fun v_2 e_v_2 => ?_))
  obtain ⟨t_v_2, r_v_2⟩ := tq_mul (lo := 0) (hi := 156) rl_4 r_vu_1 (by decide +kernel) e_v_2
  have t_v_2 : v_2.toInt = 4 * vu_1.toInt := t_v_2
  refine lv_istore (lv' := [(5, .int v_2), (0, .ref p0), (1, .int p1), (2, .int p2), (3, .int p3), (4, .int p4)]) hx hb dX10_saysOne_6 hl (by decide) rfl (fun ls hl => ?_)
  have x_S0_p0_vu_1 : AX 44 54 (fun f => SYp vu_1 f) Ps w0 p0 := AX.imp (ax_of (k := 44) (t := 54) hw h_p0 rfl (fun _ => rfl)) (fun f9 h9 => fun q9 u9 _ => h9.1 q9 u9)
  obtain ⟨b_3, m_b_3, h_b_3⟩ := tg_fldR (k := 44) (ci := 10) (ts := ty_MODEL) (u := 54) hw h_p0 rfl rfl
  have hw := WD.weak b_3 hw
  refine lv_aload_n hx hb dX10_saysOne_8 rfl (lv_at hl 1 rfl) ?_
  refine tg_mem (ci := 10) (C := RX10) (T := TX10) (N := 49) hx hb hts inX10 hown hK hw 44 m_b_3 rfl (by decide) (hts _ tw_1181) (fun _ h9 => h9) dX10_saysOne_9 ?_
  refine lv_iload hx hb dX10_saysOne_12 (lv_at hl 0 rfl) ?_
  refine lv_iload_n hx hb dX10_saysOne_14 rfl (lv_at hl 2 rfl) ?_
  refine tg_iast hx hb hK hw h_b_3 rfl 0 156 r_v_2 (by decide) r_p1 (by exact fun _ _ _ => by decide) (fun _ _ _ _ _ => Or.inl rfl) (by decide) dX10_saysOne_15 (fun ws H locs hw hF9 hU9 => ?_)
  have x_S1_p0_vu_1_p1 : AX 44 54 (fun f => SYp vu_1 f ∧ f (4 * Int32.toNatClampNeg vu_1) = p1) Ps ws p0 := AX.ast hF9 hU9 x_S0_p0_vu_1 m_b_3 (fun f9 h9 => by have j9 : Int32.toNatClampNeg v_2 = 4 * Int32.toNatClampNeg vu_1 + 0 := (by have k1 := r_v_2.cl (by decide); have k2 := r_vu_1.cl (by decide); omega); exact ⟨SY_upd h9 (by omega), by rw [show 4 * Int32.toNatClampNeg vu_1 = Int32.toNatClampNeg v_2 by omega]; exact pk_us⟩)
  have x_SNI_p0_gd_gh_gg := SNI.over hF9 x_SNI_p0_gd_gh_gg (by decide)
  have x_LTN_p0_p2 := LTN.over hF9 x_LTN_p0_p2 (by decide)
  have x_LTN_p0_p3 := LTN.over hF9 x_LTN_p0_p3 (by decide)
  have m_u_1 := FLD.over hF9 m_u_1 (by decide)
  have ho9 := FLD.over hF9 ho9 (by decide)
  have m_b_3 := FLD.over hF9 m_b_3 (by decide)
  refine lv_aload_n hx hb dX10_saysOne_16 rfl (lv_at hl 1 rfl) ?_
  refine tg_mem (ci := 10) (C := RX10) (T := TX10) (N := 49) hx hb hts inX10 hown hK hw 44 m_b_3 rfl (by decide) (hts _ tw_1181) (fun _ h9 => h9) dX10_saysOne_17 ?_
  refine lv_iload hx hb dX10_saysOne_20 (lv_at hl 0 rfl) ?_
  refine lv_iconst (v := 1) hx hb dX10_saysOne_22 (by decide) ?_
  refine lv_iadd hx hb dX10_saysOne_23 (lv_topi (fun v_4 e_v_4 => ?_))
  obtain ⟨t_v_4, r_v_4⟩ := tq_add (lo := 1) (hi := 157) r_v_2 rl_1 (by decide +kernel) e_v_4
  have t_v_4 : v_4.toInt = v_2.toInt + 1 := t_v_4
  refine lv_iload_n hx hb dX10_saysOne_24 rfl (lv_at hl 3 rfl) ?_
  refine tg_iast hx hb hK hw h_b_3 rfl 1 157 r_v_4 (by decide) r_p2 (by exact fun _ _ _ => by decide) (fun _ _ _ _ _ => Or.inl rfl) (by decide) dX10_saysOne_25 (fun ws H locs hw hF9 hU9 => ?_)
  have x_S2_p0_vu_1_p1_p2 : AX 44 54 (fun f => SYp vu_1 f ∧ f (4 * Int32.toNatClampNeg vu_1) = p1 ∧ f (4 * Int32.toNatClampNeg vu_1 + 1) = p2) Ps ws p0 := AX.ast hF9 hU9 x_S1_p0_vu_1_p1 m_b_3 (fun f9 h9 => by have j9 : Int32.toNatClampNeg v_4 = 4 * Int32.toNatClampNeg vu_1 + 1 := (by have k1 := r_v_4.cl (by decide); have k2 := r_vu_1.cl (by decide); omega); exact ⟨SY_upd h9.1 (by omega), by rw [pk_un (by omega)]; exact h9.2, by rw [show 4 * Int32.toNatClampNeg vu_1 + 1 = Int32.toNatClampNeg v_4 by omega]; exact pk_us⟩)
  have x_SNI_p0_gd_gh_gg := SNI.over hF9 x_SNI_p0_gd_gh_gg (by decide)
  have x_LTN_p0_p2 := LTN.over hF9 x_LTN_p0_p2 (by decide)
  have x_LTN_p0_p3 := LTN.over hF9 x_LTN_p0_p3 (by decide)
  have m_u_1 := FLD.over hF9 m_u_1 (by decide)
  have ho9 := FLD.over hF9 ho9 (by decide)
  have m_b_3 := FLD.over hF9 m_b_3 (by decide)
  refine lv_aload_n hx hb dX10_saysOne_26 rfl (lv_at hl 1 rfl) ?_
  refine tg_mem (ci := 10) (C := RX10) (T := TX10) (N := 49) hx hb hts inX10 hown hK hw 44 m_b_3 rfl (by decide) (hts _ tw_1181) (fun _ h9 => h9) dX10_saysOne_27 ?_
  refine lv_iload hx hb dX10_saysOne_30 (lv_at hl 0 rfl) ?_
  refine lv_iconst (v := 2) hx hb dX10_saysOne_32 (by decide) ?_
  refine lv_iadd hx hb dX10_saysOne_33 (lv_topi (fun v_5 e_v_5 => ?_))
  obtain ⟨t_v_5, r_v_5⟩ := tq_add (lo := 2) (hi := 158) r_v_2 rl_2 (by decide +kernel) e_v_5
  have t_v_5 : v_5.toInt = v_2.toInt + 2 := t_v_5
  refine lv_iload_n hx hb dX10_saysOne_34 rfl (lv_at hl 4 rfl) ?_
  refine tg_iast hx hb hK hw h_b_3 rfl 2 158 r_v_5 (by decide) r_p3 (by exact fun _ _ _ => by decide) (fun _ _ _ _ _ => Or.inl rfl) (by decide) dX10_saysOne_35 (fun ws H locs hw hF9 hU9 => ?_)
  have x_S3_p0_vu_1_p1_p2_p3 : AX 44 54 (fun f => SYp vu_1 f ∧ f (4 * Int32.toNatClampNeg vu_1) = p1 ∧ f (4 * Int32.toNatClampNeg vu_1 + 1) = p2 ∧ f (4 * Int32.toNatClampNeg vu_1 + 2) = p3) Ps ws p0 := AX.ast hF9 hU9 x_S2_p0_vu_1_p1_p2 m_b_3 (fun f9 h9 => by have j9 : Int32.toNatClampNeg v_5 = 4 * Int32.toNatClampNeg vu_1 + 2 := (by have k1 := r_v_5.cl (by decide); have k2 := r_vu_1.cl (by decide); omega); exact ⟨SY_upd h9.1 (by omega), by rw [pk_un (by omega)]; exact h9.2.1, by rw [pk_un (by omega)]; exact h9.2.2, by rw [show 4 * Int32.toNatClampNeg vu_1 + 2 = Int32.toNatClampNeg v_5 by omega]; exact pk_us⟩)
  have x_SNI_p0_gd_gh_gg := SNI.over hF9 x_SNI_p0_gd_gh_gg (by decide)
  have x_LTN_p0_p2 := LTN.over hF9 x_LTN_p0_p2 (by decide)
  have x_LTN_p0_p3 := LTN.over hF9 x_LTN_p0_p3 (by decide)
  have m_u_1 := FLD.over hF9 m_u_1 (by decide)
  have ho9 := FLD.over hF9 ho9 (by decide)
  have m_b_3 := FLD.over hF9 m_b_3 (by decide)
  refine lv_aload_n hx hb dX10_saysOne_36 rfl (lv_at hl 1 rfl) ?_
  refine tg_mem (ci := 10) (C := RX10) (T := TX10) (N := 49) hx hb hts inX10 hown hK hw 44 m_b_3 rfl (by decide) (hts _ tw_1181) (fun _ h9 => h9) dX10_saysOne_37 ?_
  refine lv_iload hx hb dX10_saysOne_40 (lv_at hl 0 rfl) ?_
  refine lv_iconst (v := 3) hx hb dX10_saysOne_42 (by decide) ?_
  refine lv_iadd hx hb dX10_saysOne_43 (lv_topi (fun v_6 e_v_6 => ?_))
  obtain ⟨t_v_6, r_v_6⟩ := tq_add (lo := 3) (hi := 159) r_v_2 rl_3 (by decide +kernel) e_v_6
  have t_v_6 : v_6.toInt = v_2.toInt + 3 := t_v_6
  refine lv_iload hx hb dX10_saysOne_44 (lv_at hl 5 rfl) ?_
  refine tg_iast hx hb hK hw h_b_3 rfl 3 159 r_v_6 (by decide) r_p4 (by exact fun _ _ _ => by decide) (fun _ _ _ _ _ => Or.inl rfl) (by decide) dX10_saysOne_46 (fun ws H locs hw hF9 hU9 => ?_)
  have x_S3_p0_vu_1_p1_p2_p3 : AX 44 54 (fun f => SYp vu_1 f ∧ f (4 * Int32.toNatClampNeg vu_1) = p1 ∧ f (4 * Int32.toNatClampNeg vu_1 + 1) = p2 ∧ f (4 * Int32.toNatClampNeg vu_1 + 2) = p3) Ps ws p0 := AX.ast hF9 hU9 x_S3_p0_vu_1_p1_p2_p3 m_b_3 (fun f9 h9 => by have j9 : Int32.toNatClampNeg v_6 = 4 * Int32.toNatClampNeg vu_1 + 3 := (by have k1 := r_v_6.cl (by decide); have k2 := r_vu_1.cl (by decide); omega); exact ⟨SY_upd h9.1 (by omega), by rw [pk_un (by omega)]; exact h9.2.1, by rw [pk_un (by omega)]; exact h9.2.2.1, by rw [pk_un (by omega)]; exact h9.2.2.2⟩)
  have x_SNI_p0_gd_gh_gg := SNI.over hF9 x_SNI_p0_gd_gh_gg (by decide)
  have x_LTN_p0_p2 := LTN.over hF9 x_LTN_p0_p2 (by decide)
  have x_LTN_p0_p3 := LTN.over hF9 x_LTN_p0_p3 (by decide)
  have m_u_1 := FLD.over hF9 m_u_1 (by decide)
  have ho9 := FLD.over hF9 ho9 (by decide)
  have m_b_3 := FLD.over hF9 m_b_3 (by decide)
  have hw := WD.back hw h_b_3 rfl (fun f9 q9 => SY_end (AX.arr hw x_S3_p0_vu_1_p1_p2_p3 m_b_3 f9 q9) (by have q1 := LTN.get hw x_LTN_p0_p2 m_u_1; have q2 := LTN.get hw x_LTN_p0_p3 m_u_1; have k1 := r_p1.1; have k2 := r_p1.2; exact ⟨fun e9 => by omega, fun e9 => by omega⟩) r_vu_1.1)
  refine lv_aload_n hx hb dX10_saysOne_47 rfl (lv_at hl 1 rfl) ?_
  refine lv_dup hx hb dX10_saysOne_48 rfl ?_
  refine tg_mem (ci := 10) (C := RX10) (T := TX10) (N := 49) hx hb hts inX10 hown hK hw 45 m_u_1 rfl (by decide) (hts _ tw_1182) (fun _ h9 => h9) dX10_saysOne_49 ?_
  refine lv_iconst (v := 1) hx hb dX10_saysOne_52 (by decide) ?_
  refine lv_iadd hx hb dX10_saysOne_53 (lv_topi (fun v_7 e_v_7 => ?_))
  obtain ⟨t_v_7, r_v_7⟩ := tq_add (lo := 1) (hi := 40) r_vu_1 rl_1 (by decide +kernel) e_v_7
  have t_v_7 : v_7.toInt = vu_1.toInt + 1 := t_v_7
  refine tg_put (ci := 10) (ts := ty_MODEL) (v := .int v_7) (ty := .int) (C := RX10) (T := TX10) (N := 49) hx hb hts inX10 tyX10 tyX10_ok nmX10 hown hK hw h_p0 rfl rfl 45 (by decide) (hts _ tw_1182) (fun _ h9 => h9) rfl (by decide +kernel) rfl rfl (ft := vI (-2147483648) 2147483647) rfl ⟨_, rfl, (r_v_7.to (by decide))⟩ (by decide) dX10_saysOne_54 (fun ws H locs hw n_k_8 hF9 => ?_)
  have ho9 := FLD.over hF9 ho9 (by decide)
  have m_b_3 := FLD.over hF9 m_b_3 (by decide)
  have x_S3_p0_vu_1_p1_p2_p3 := AX.over hF9 x_S3_p0_vu_1_p1_p2_p3 (by decide)
  refine lv_aload_n hx hb dX10_saysOne_57 rfl (lv_at hl 1 rfl) ?_
  refine tg_mem (ci := 10) (C := RX10) (T := TX10) (N := 49) hx hb hts inX10 hown hK hw 45 n_k_8 rfl (by decide) (hts _ tw_1182) (fun _ h9 => h9) dX10_saysOne_58 ?_
  refine lv_iconst (v := 1) hx hb dX10_saysOne_61 (by decide) ?_
  refine lv_isub hx hb dX10_saysOne_62 (lv_topi (fun v_9 e_v_9 => ?_))
  obtain ⟨t_v_9, r_v_9⟩ := tq_sub (lo := 0) (hi := 39) r_v_7 rl_1 (by decide +kernel) e_v_9
  have t_v_9 : v_9.toInt = v_7.toInt - 1 := t_v_9
  have x_SNL_p0_gd_gh_gg_v_9 : SNL ws p0 (gd) (gh) (gg) (v_9) := ⟨_, _, n_k_8, ho9, by have k1 := r_v_7.1; omega, by have k1 := r_v_9.1; omega, by omega⟩
  subst hQ
  exact W.iret (v := v_9) hx hb hr (fun t ht hW => ⟨⟨v_9, ws, rfl, ⟨⟨r_v_9.to (by decide), (fun h0 => trivial), (fun h0 => trivial), ⟨x_SNL_p0_gd_gh_gg_v_9, trivial⟩, (fun _ => trivial), (fun _ => trivial)⟩, hw.1, hw.2.2.2.2.1⟩, by rw [ht]; exact hw.2.1, va_K.moved hW.alike hK, hw.2.2.1⟩, hw.2.2.2.1.F ht⟩) hw.2.2.2.1.2.2 dX10_saysOne_63
abbrev wr_X10_readAnd__7 : List (Nat × Nat) := [(10, 5), (10, 6), (10, 7), (10, 8), (10, 9), (10, 10), (10, 11), (10, 12), (10, 13), (10, 45), (10, 46), (10, 47), (10, 48)]
abbrev wa_X10_readAnd__7 : List Nat := [54]
set_option maxHeartbeats 4000000 in
set_option maxRecDepth 100000 in
theorem c_X10_readAnd__7 (l : Launch) (D : va_G) (cy : Nat → ClassId) (z : Nat → Nat) (sz : Nat) (Ps : PSI) (w0 : va_W) (hT : HT cy GG Ps w0) (p0 : Nat) (f0_47 : Int32) (gd : Int) (gh : Int) (gg : Int) (h_p0 : (p0, 55) ∈ Ps) (r_f0_47 : RI f0_47 7 7) (m_f0_47 : FLD w0 p0 10 47 (.int f0_47)) (x_SN_p0_gd_gh_gg : SNp w0 p0 (gd) (gh) (gg)) : Met l yX10_readAnd (Cond.code yX10_readAnd cX10_readAnd 2 (some .boolean) :: gT) ({ frames := 9, cells := 0, slots := 0, locals := 1800 } : Room) (va_Pc [.ref p0] (PRE D cy z w0 sz)) (va_Qi (fun (r : Int32) (u : va_W) => (RI r 0 1 ∧ (r = 0 → (∃ v9 : Int32, FLD u p0 10 47 (.int v9) ∧ RI v9 7 7) ∧ True) ∧ (¬ r = 0 → (∃ v9 : Int32, FLD u p0 10 46 (.int v9) ∧ RI v9 1 20) ∧ (∃ v9 : Int32, FLD u p0 10 47 (.int v9) ∧ RI v9 7 7) ∧ (∃ v9 : Int32, FLD u p0 10 48 (.int v9) ∧ RI v9 0 39) ∧ SNT u p0 (gd+1) (gh+1) (gg) ∧ True)) ∧ HT cy GG Ps u ∧ FR wr_X10_readAnd__7 wa_X10_readAnd__7 Ps w0 u) (BB D cy (va_A w0 sz) (fun (u : va_W) => u)) (va_A w0 sz)) 0 0 (va_A w0 sz) := by
  refine Met.ofW (cc := cX10_readAnd) (maxL := 2) (ret := (some .boolean)) (by decide) rfl ?_
  intro p e s m args below meth c s₁ B hml hv
  obtain ⟨rfl, hsz, hP, hK, hD0, hSD⟩ := hv
  have hx := B.exec
  have hb := B.bytes
  have hr := B.returns
  have hlocks := B.notSynchronized
  have hts : ∀ w ∈ gT, w.before _ s = true := fun w h => atoms_spec (ws := Cond.code yX10_readAnd cX10_readAnd 2 (some .boolean) :: gT) B.pre w (List.mem_cons_of_mem _ h)
  have hown : s.vm.findClass RX10 = some m.cls := findClass_of_methodNamed B.named
  subst hsz
  have hD := hD0.self (sz := s.heap.size)
  generalize hAe : va_A w0 s.heap.size = A at hD hSD ⊢
  have hA : ∀ q : Nat, s.heap.size ≤ q → A q := fun q h => by rw [← hAe]; exact Or.inr h
  have hl := lv_entry ([.ref p0]) (n := 2) (Nat.le_of_ble_eq_true rfl)
  rw [lg_entry_eq]
  generalize (lg_sl ([.ref p0]) ++ List.replicate (2 - (lg_sl ([.ref p0])).length) Slot.unset).toArray = ls at hl ⊢
  have hl : lv_has ls 2 [(0, .ref p0)] := hl
  refine nameQ (fun Q hQ => ?_)
  have hw : WD D cy GG A s wr_X10_readAnd__7 wa_X10_readAnd__7 Ps w0 Ps w0 s.heap [] := ⟨hT, hP, hD, va_S.rf, FR.rf, hT.1, [], (List.append_nil _).symm⟩
  have B14 : ∀ (nf : Nat) (x1 : Int32) (z0_46 : Int32) (z0_47 : Int32) (z0_48 : Int32) (gz : Int) (ws : va_W) (H : Heap) (locs : List Loc) (ls : Array Slot), 21 - gz < (nf : Int) → RI x1 0 39 → RI z0_46 1 20 → FLD ws p0 10 46 (.int z0_46) → RI z0_47 7 7 → FLD ws p0 10 47 (.int z0_47) → RI z0_48 0 39 → FLD ws p0 10 48 (.int z0_48) → (SNL ws p0 (gd+1) (gz) (gg) x1 ∧ gh + 1 ≤ gz) → WD D cy GG A s wr_X10_readAnd__7 wa_X10_readAnd__7 Ps w0 Ps ws H locs → lv_has ls 2 [(0, .ref p0), (1, .int x1)] → W p l e (headSpec (Cond.code yX10_readAnd cX10_readAnd 2 (some .boolean) :: gT) ({ frames := 9, cells := 0, slots := 0, locals := 1800 } : Room)).room s m ([.ref p0] : List Value).toArray below meth c H locs 0 0 Q (F0 m 14 ls []) := by
    intro nf14
    induction nf14 with
    | zero =>
      intro x1 z0_46 z0_47 z0_48 gz ws H locs ls hn14 r_x1 r_z0_46 m_z0_46 r_z0_47 m_z0_47 r_z0_48 m_z0_48 x_SNW_p0_gd_1_gz_gg__1 hw hl
      exact absurd hn14 (by have q9 := SNL.le x_SNW_p0_gd_1_gz_gg__1.1; omega)
    | succ nf14 ih14 =>
      intro x1 z0_46 z0_47 z0_48 gz ws H locs ls hn14 r_x1 r_z0_46 m_z0_46 r_z0_47 m_z0_47 r_z0_48 m_z0_48 x_SNW_p0_gd_1_gz_gg__1 hw hl
      refine lv_aload_n hx hb dX10_readAnd_14 rfl (lv_at hl 0 rfl) ?_
      refine lv_bipush (v := 17) hx hb dX10_readAnd_15 (by decide) ?_
      refine tk_ir (va_runV (As := [.int 17]) (rest := []) ⟨hx, hb, hml, hown, hts⟩ (c_X10_isWord l D cy z H.size Ps ws hw.1 p0 17 h_p0 (rl_17.to (by decide))) (cwV 1 hts (gV tw_1318 tw_1320 ts_43 tw_15 tw_1321) rfl rfl rfl (by decide +kernel) ⟨Nat.le_of_ble_eq_true rfl, Nat.le_of_ble_eq_true rfl⟩) (tg_preV hw hK hSD hA (ci := 10) (q := (RX10, TX10, 49)) rfl h_p0 rfl) rfl rfl hl.1 rfl (lv_room (Nat.le_of_ble_eq_true rfl)) dX10_readAnd_17 ⟨Nat.le_of_ble_eq_true rfl, Nat.le_of_ble_eq_true rfl⟩) hw hA (fun v_1  H locs hp_v_1 hw => ?_)
      have r_v_1 : RI v_1 0 1 := hp_v_1.1
      refine lv_if_eq (tgt := 51) hx hb dX10_readAnd_20 (by decide) (fun c_20 => ?_) (fun c_20 => ?_)
      · have r_v_1 : RI v_1 0 0 := rc_eq1 r_v_1 rl_0 (ti_eq c_20) (by decide)
        refine lv_aload_n hx hb dX10_readAnd_51 rfl (lv_at hl 0 rfl) ?_
        refine lv_iload_n hx hb dX10_readAnd_52 rfl (lv_at hl 1 rfl) ?_
        refine tg_put (ci := 10) (ts := ty_MODEL) (v := .int x1) (ty := .int) (C := RX10) (T := TX10) (N := 49) hx hb hts inX10 tyX10 tyX10_ok nmX10 hown hK hw h_p0 rfl rfl 48 (by decide) (hts _ tw_1185) (fun _ h9 => h9) rfl (by decide +kernel) rfl rfl (ft := vI (-2147483648) 2147483647) rfl ⟨_, rfl, (r_x1.to (by decide))⟩ (by decide) dX10_readAnd_53 (fun ws H locs hw n_k_2 hF9 => ?_)
        have m_z0_46 := FLD.over hF9 m_z0_46 (by decide)
        have m_z0_47 := FLD.over hF9 m_z0_47 (by decide)
        have x_SNW_p0_gd_1_gz_gg__1 := SNW.over hF9 x_SNW_p0_gd_1_gz_gg__1 (by decide)
        have f6 := SNL.le x_SNW_p0_gd_1_gz_gg__1.1
        have f7 := x_SNW_p0_gd_1_gz_gg__1.2
        have x_SNT_p0_gd_1_gh_1_gg : SNT ws p0 (gd+1) (gh+1) (gg) := (SNL.snt x_SNW_p0_gd_1_gz_gg__1.1 n_k_2).weak (by have d_8 := SNp.le x_SN_p0_gd_gh_gg; omega)
        refine lv_iconst (v := 1) hx hb dX10_readAnd_56 (by decide) ?_
        subst hQ
        exact W.zret (v := 1) hx hb hr (rfl) (fun t ht hW => ⟨⟨1, ws, rfl, ⟨⟨rl_1.to (by decide), (fun h0 => absurd h0 (by decide)), (fun h0 => ⟨⟨_, m_z0_46, r_z0_46⟩, ⟨_, m_z0_47, r_z0_47⟩, ⟨_, n_k_2, r_x1⟩, x_SNT_p0_gd_1_gh_1_gg, trivial⟩)⟩, hw.1, hw.2.2.2.2.1⟩, by rw [ht]; exact hw.2.1, va_K.moved hW.alike hK, hw.2.2.1⟩, hw.2.2.2.1.F ht⟩) hw.2.2.2.1.2.2 dX10_readAnd_57
      · have r_v_1 : RI v_1 1 1 := rc_neL r_v_1 rl_0 (ti_ne c_20) (by decide)
        refine lv_aload_n hx hb dX10_readAnd_23 rfl (lv_at hl 0 rfl) ?_
        refine tk_v (va_runV (As := []) (rest := []) ⟨hx, hb, hml, hown, hts⟩ (c_X10_go l D cy z H.size Ps ws hw.1 p0 h_p0) (cwV 0 hts (gV tw_1298 tw_1300 ts_40 tw_15 tw_1301) rfl rfl rfl (by decide +kernel) ⟨Nat.le_of_ble_eq_true rfl, Nat.le_of_ble_eq_true rfl⟩) (tg_preV hw hK hSD hA (ci := 10) (q := (RX10, TX10, 49)) rfl h_p0 rfl) rfl rfl hl.1 rfl (lv_room (Nat.le_of_ble_eq_true rfl)) dX10_readAnd_24 ⟨Nat.le_of_ble_eq_true rfl, Nat.le_of_ble_eq_true rfl⟩) hw hA ⟨by decide, by decide⟩ (fun ws H locs hp_v_3 hw hF9 => ?_)
        have m_z0_46 := FLD.over hF9 m_z0_46 (by decide)
        have m_z0_47 := FLD.over hF9 m_z0_47 (by decide)
        have m_z0_48 := FLD.over hF9 m_z0_48 (by decide)
        have x_SNW_p0_gd_1_gz_gg__1 := SNW.over hF9 x_SNW_p0_gd_1_gz_gg__1 (by decide)
        refine lv_aload_n hx hb dX10_readAnd_27 rfl (lv_at hl 0 rfl) ?_
        have f9 := SNL.sn x_SNW_p0_gd_1_gz_gg__1.1
        have f8 := f9.2
        have f7 := x_SNW_p0_gd_1_gz_gg__1.2
        have f6 := SNL.le x_SNW_p0_gd_1_gz_gg__1.1
        have x_SN_p0_gd_1_gz_max_gg__Int32_toInt_x1___1_ : SNp ws p0 (gd+1) (gz) (max gg (Int32.toInt x1 + 1)) := f9.1
        refine tk_i (va_runV (As := []) (rest := []) ⟨hx, hb, hml, hown, hts⟩ (c_X10_readSaid__7 l D cy z H.size Ps ws hw.1 p0 z0_47 (gd+1) (gz) (max gg (Int32.toInt x1 + 1)) h_p0 r_z0_47 m_z0_47 x_SN_p0_gd_1_gz_max_gg__Int32_toInt_x1___1_) (cwV 0 hts (gV tw_1759 tw_1761 ts_113 tw_15 tw_1762) rfl rfl rfl (by decide +kernel) ⟨Nat.le_of_ble_eq_true rfl, Nat.le_of_ble_eq_true rfl⟩) (tg_preV hw hK hSD hA (ci := 10) (q := (RX10, TX10, 49)) rfl h_p0 rfl) rfl rfl hl.1 rfl (lv_room (Nat.le_of_ble_eq_true rfl)) dX10_readAnd_28 ⟨Nat.le_of_ble_eq_true rfl, Nat.le_of_ble_eq_true rfl⟩) hw hA ⟨by decide, by decide⟩ (fun v_4 ws H locs hp_v_4 hw hF9 => ?_)
        have r_v_4 : RI v_4 0 1 := hp_v_4.1
        by_cases c9_v_4 : v_4 = 0
        · have r_v_4 : RI v_4 0 0 := by rw [c9_v_4]; exact rl_0
          obtain ⟨v_5, m_v_5, r_v_5⟩ := ((hp_v_4.2.1 c9_v_4).1)
          refine lv_if_ne (tgt := 36) hx hb dX10_readAnd_31 (by decide) (fun c_31 => ?_) (fun c_31 => ?_)
          · exact absurd (r_v_4.eq.trans rl_0.eq.symm) ((ti_ne c_31))
          · refine lv_iconst (v := 0) hx hb dX10_readAnd_34 (by decide) ?_
            subst hQ
            exact W.zret (v := 0) hx hb hr (rfl) (fun t ht hW => ⟨⟨0, ws, rfl, ⟨⟨rl_0.to (by decide), (fun h0 => ⟨⟨_, m_v_5, r_v_5⟩, trivial⟩), (fun h0 => absurd rfl h0)⟩, hw.1, hw.2.2.2.2.1⟩, by rw [ht]; exact hw.2.1, va_K.moved hW.alike hK, hw.2.2.1⟩, hw.2.2.2.1.F ht⟩) hw.2.2.2.1.2.2 dX10_readAnd_35
        · have r_v_4 : RI v_4 1 1 := rc_neL r_v_4 rl_0 (ti_ne c9_v_4) (by decide)
          obtain ⟨v_6, m_v_6, r_v_6⟩ := ((hp_v_4.2.2 c9_v_4).1)
          obtain ⟨v_7, m_v_7, r_v_7⟩ := ((hp_v_4.2.2 c9_v_4).2.1)
          obtain ⟨v_8, m_v_8, r_v_8⟩ := ((hp_v_4.2.2 c9_v_4).2.2.1)
          have x_SNT_p0_gd_2_gz_1_max_gg__Int32_toInt_x1___1_ := ((hp_v_4.2.2 c9_v_4).2.2.2.1)
          refine lv_if_ne (tgt := 36) hx hb dX10_readAnd_31 (by decide) (fun c_31 => ?_) (fun c_31 => ?_)
          · refine lv_aload_n hx hb dX10_readAnd_36 rfl (lv_at hl 0 rfl) ?_
            refine lv_iconst (v := 2) hx hb dX10_readAnd_37 (by decide) ?_
            refine lv_iload_n hx hb dX10_readAnd_38 rfl (lv_at hl 1 rfl) ?_
            refine lv_aload_n hx hb dX10_readAnd_39 rfl (lv_at hl 0 rfl) ?_
            refine tg_mem (ci := 10) (C := RX10) (T := TX10) (N := 49) hx hb hts inX10 hown hK hw 48 m_v_7 rfl (by decide) (hts _ tw_1185) (fun _ h9 => h9) dX10_readAnd_40 ?_
            refine lv_iconst (v := 0) hx hb dX10_readAnd_43 (by decide) ?_
            have l9 := SNT.top hw x_SNT_p0_gd_2_gz_1_max_gg__Int32_toInt_x1___1_ m_v_7
            have l8 := SNT.sn x_SNT_p0_gd_2_gz_1_max_gg__Int32_toInt_x1___1_
            have x_SNI_p0_gd_1_gz_1_gg : SNI ws p0 (gd+1) (gz+1) (gg) := SNp.sni l8 (by have d_8 := SNp.le x_SN_p0_gd_gh_gg; omega)
            have x_LTN_p0_x1 : LTN ws p0 (x1) := SNp.ltn l8 f8
            have x_LTN_p0_v_7 : LTN ws p0 (v_7) := l9.ltn
            refine tk_i (va_runV (As := [.int 2, .int x1, .int v_7, .int 0]) (rest := []) ⟨hx, hb, hml, hown, hts⟩ (c_X10_saysOne__1 l D cy z H.size Ps ws hw.1 p0 2 x1 v_7 0 (gd+1) (gz+1) (gg) h_p0 (rl_2.to (by decide)) (r_x1.to (by decide)) (r_v_7.to (by decide)) (rl_0.to (by decide)) x_SNI_p0_gd_1_gz_1_gg x_LTN_p0_x1 x_LTN_p0_v_7) (cwV 4 hts (gV tw_1771 tw_1773 ts_116 tw_15 tw_1774) rfl rfl rfl (by decide +kernel) ⟨Nat.le_of_ble_eq_true rfl, Nat.le_of_ble_eq_true rfl⟩) (tg_preV hw hK hSD hA (ci := 10) (q := (RX10, TX10, 49)) rfl h_p0 rfl) rfl rfl hl.1 rfl (lv_room (Nat.le_of_ble_eq_true rfl)) dX10_readAnd_44 ⟨Nat.le_of_ble_eq_true rfl, Nat.le_of_ble_eq_true rfl⟩) hw hA ⟨by decide, by decide⟩ (fun v_9 ws H locs hp_v_9 hw hF9 => ?_)
            have m_v_6 := FLD.over hF9 m_v_6 (by decide)
            have m_v_7 := FLD.over hF9 m_v_7 (by decide)
            have m_v_8 := FLD.over hF9 m_v_8 (by decide)
            have r_v_9 : RI v_9 0 39 := hp_v_9.1
            have x_SNL_p0_gd_1_gz_1_gg_v_9 := hp_v_9.2.2.2.1.1
            refine lv_istore_n (lv' := [(1, .int v_9), (0, .ref p0)]) hx hb dX10_readAnd_47 rfl hl (by decide) rfl (fun ls hl => ?_)
            refine lv_goto (tgt := 14) hx hb dX10_readAnd_48 (by decide) ?_
            have x_SNW_p0_gd_1_gz_1_gg_v_9 : (SNL ws p0 (gd+1) (gz+1) (gg) v_9 ∧ gh + 1 ≤ gz+1) := ⟨x_SNL_p0_gd_1_gz_1_gg_v_9, by omega⟩
            exact ih14 v_9 v_6 v_8 v_7 (gz+1) ws _ _ ls (by have d_8 := SNp.le x_SN_p0_gd_gh_gg; omega) r_v_9 r_v_6 m_v_6 r_v_8 m_v_8 r_v_7 m_v_7 x_SNW_p0_gd_1_gz_1_gg_v_9 hw (lv_sub hl [1, 0] rfl)
          · have r_v_4 : RI v_4 1 0 := rc_eq1 r_v_4 rl_0 (ti_eq c_31) (by decide)
            exact (r_v_4.no (by decide)).elim
  refine lv_aload_n hx hb dX10_readAnd_0 rfl (lv_at hl 0 rfl) ?_
  refine tk_i (va_runV (As := []) (rest := []) ⟨hx, hb, hml, hown, hts⟩ (c_X10_readSaid__7 l D cy z s.heap.size Ps w0 hw.1 p0 f0_47 (gd) (gh) (gg) h_p0 r_f0_47 m_f0_47 x_SN_p0_gd_gh_gg) (cwV 0 hts (gV tw_1759 tw_1761 ts_113 tw_15 tw_1762) rfl rfl rfl (by decide +kernel) ⟨Nat.le_of_ble_eq_true rfl, Nat.le_of_ble_eq_true rfl⟩) (tg_preV hw hK hSD hA (ci := 10) (q := (RX10, TX10, 49)) rfl h_p0 rfl) rfl rfl hl.1 rfl (lv_room (Nat.le_of_ble_eq_true rfl)) dX10_readAnd_1 ⟨Nat.le_of_ble_eq_true rfl, Nat.le_of_ble_eq_true rfl⟩) hw hA ⟨by decide, by decide⟩ (fun v_10 ws H locs hp_v_10 hw hF9 => ?_)
  have r_v_10 : RI v_10 0 1 := hp_v_10.1
  by_cases c9_v_10 : v_10 = 0
  · have r_v_10 : RI v_10 0 0 := by rw [c9_v_10]; exact rl_0
    obtain ⟨v_11, m_v_11, r_v_11⟩ := ((hp_v_10.2.1 c9_v_10).1)
    refine lv_if_ne (tgt := 9) hx hb dX10_readAnd_4 (by decide) (fun c_4 => ?_) (fun c_4 => ?_)
    · exact absurd (r_v_10.eq.trans rl_0.eq.symm) ((ti_ne c_4))
    · refine lv_iconst (v := 0) hx hb dX10_readAnd_7 (by decide) ?_
      subst hQ
      exact W.zret (v := 0) hx hb hr (rfl) (fun t ht hW => ⟨⟨0, ws, rfl, ⟨⟨rl_0.to (by decide), (fun h0 => ⟨⟨_, m_v_11, r_v_11⟩, trivial⟩), (fun h0 => absurd rfl h0)⟩, hw.1, hw.2.2.2.2.1⟩, by rw [ht]; exact hw.2.1, va_K.moved hW.alike hK, hw.2.2.1⟩, hw.2.2.2.1.F ht⟩) hw.2.2.2.1.2.2 dX10_readAnd_8
  · have r_v_10 : RI v_10 1 1 := rc_neL r_v_10 rl_0 (ti_ne c9_v_10) (by decide)
    obtain ⟨v_12, m_v_12, r_v_12⟩ := ((hp_v_10.2.2 c9_v_10).1)
    obtain ⟨v_13, m_v_13, r_v_13⟩ := ((hp_v_10.2.2 c9_v_10).2.1)
    obtain ⟨v_14, m_v_14, r_v_14⟩ := ((hp_v_10.2.2 c9_v_10).2.2.1)
    have x_SNT_p0_gd_1_gh_1_gg := ((hp_v_10.2.2 c9_v_10).2.2.2.1)
    refine lv_if_ne (tgt := 9) hx hb dX10_readAnd_4 (by decide) (fun c_4 => ?_) (fun c_4 => ?_)
    · refine lv_aload_n hx hb dX10_readAnd_9 rfl (lv_at hl 0 rfl) ?_
      refine tg_mem (ci := 10) (C := RX10) (T := TX10) (N := 49) hx hb hts inX10 hown hK hw 48 m_v_13 rfl (by decide) (hts _ tw_1185) (fun _ h9 => h9) dX10_readAnd_10 ?_
      refine lv_istore_n (lv' := [(1, .int v_13), (0, .ref p0)]) hx hb dX10_readAnd_13 rfl hl (by decide) rfl (fun ls hl => ?_)
      have x_SNW_p0_gd_1_gh_1_gg_v_13 : (SNL ws p0 (gd+1) (gh+1) (gg) v_13 ∧ gh + 1 ≤ gh+1) := ⟨SNT.top hw x_SNT_p0_gd_1_gh_1_gg m_v_13, by omega⟩
      exact B14 4294967298 v_13 v_12 v_14 v_13 (gh+1) ws _ _ ls (by have d_8 := SNp.le x_SN_p0_gd_gh_gg; omega) r_v_13 r_v_12 m_v_12 r_v_14 m_v_14 r_v_13 m_v_13 x_SNW_p0_gd_1_gh_1_gg_v_13 hw (lv_sub hl [1, 0] rfl)
    · have r_v_10 : RI v_10 1 0 := rc_eq1 r_v_10 rl_0 (ti_eq c_4) (by decide)
      exact (r_v_10.no (by decide)).elim
abbrev wr_X10_readOr__7 : List (Nat × Nat) := [(10, 5), (10, 6), (10, 7), (10, 8), (10, 9), (10, 10), (10, 11), (10, 12), (10, 13), (10, 45), (10, 46), (10, 47), (10, 48)]
abbrev wa_X10_readOr__7 : List Nat := [54]
set_option maxHeartbeats 4000000 in
set_option maxRecDepth 100000 in
theorem c_X10_readOr__7 (l : Launch) (D : va_G) (cy : Nat → ClassId) (z : Nat → Nat) (sz : Nat) (Ps : PSI) (w0 : va_W) (hT : HT cy GG Ps w0) (p0 : Nat) (f0_47 : Int32) (gd : Int) (gh : Int) (gg : Int) (h_p0 : (p0, 55) ∈ Ps) (r_f0_47 : RI f0_47 7 7) (m_f0_47 : FLD w0 p0 10 47 (.int f0_47)) (x_SN_p0_gd_gh_gg : SNp w0 p0 (gd) (gh) (gg)) : Met l yX10_readOr (Cond.code yX10_readOr cX10_readOr 2 (some .boolean) :: gT) ({ frames := 10, cells := 0, slots := 0, locals := 2000 } : Room) (va_Pc [.ref p0] (PRE D cy z w0 sz)) (va_Qi (fun (r : Int32) (u : va_W) => (RI r 0 1 ∧ (r = 0 → (∃ v9 : Int32, FLD u p0 10 47 (.int v9) ∧ RI v9 7 7) ∧ True) ∧ (¬ r = 0 → (∃ v9 : Int32, FLD u p0 10 46 (.int v9) ∧ RI v9 1 20) ∧ (∃ v9 : Int32, FLD u p0 10 47 (.int v9) ∧ RI v9 7 7) ∧ (∃ v9 : Int32, FLD u p0 10 48 (.int v9) ∧ RI v9 0 39) ∧ SNT u p0 (gd+1) (gh+1) (gg) ∧ True)) ∧ HT cy GG Ps u ∧ FR wr_X10_readOr__7 wa_X10_readOr__7 Ps w0 u) (BB D cy (va_A w0 sz) (fun (u : va_W) => u)) (va_A w0 sz)) 0 0 (va_A w0 sz) := by
  refine Met.ofW (cc := cX10_readOr) (maxL := 2) (ret := (some .boolean)) (by decide) rfl ?_
  intro p e s m args below meth c s₁ B hml hv
  obtain ⟨rfl, hsz, hP, hK, hD0, hSD⟩ := hv
  have hx := B.exec
  have hb := B.bytes
  have hr := B.returns
  have hlocks := B.notSynchronized
  have hts : ∀ w ∈ gT, w.before _ s = true := fun w h => atoms_spec (ws := Cond.code yX10_readOr cX10_readOr 2 (some .boolean) :: gT) B.pre w (List.mem_cons_of_mem _ h)
  have hown : s.vm.findClass RX10 = some m.cls := findClass_of_methodNamed B.named
  subst hsz
  have hD := hD0.self (sz := s.heap.size)
  generalize hAe : va_A w0 s.heap.size = A at hD hSD ⊢
  have hA : ∀ q : Nat, s.heap.size ≤ q → A q := fun q h => by rw [← hAe]; exact Or.inr h
  have hl := lv_entry ([.ref p0]) (n := 2) (Nat.le_of_ble_eq_true rfl)
  rw [lg_entry_eq]
  generalize (lg_sl ([.ref p0]) ++ List.replicate (2 - (lg_sl ([.ref p0])).length) Slot.unset).toArray = ls at hl ⊢
  have hl : lv_has ls 2 [(0, .ref p0)] := hl
  refine nameQ (fun Q hQ => ?_)
  have hw : WD D cy GG A s wr_X10_readOr__7 wa_X10_readOr__7 Ps w0 Ps w0 s.heap [] := ⟨hT, hP, hD, va_S.rf, FR.rf, hT.1, [], (List.append_nil _).symm⟩
  have B14 : ∀ (nf : Nat) (x1 : Int32) (z0_46 : Int32) (z0_47 : Int32) (z0_48 : Int32) (gz : Int) (ws : va_W) (H : Heap) (locs : List Loc) (ls : Array Slot), 21 - gz < (nf : Int) → RI x1 0 39 → RI z0_46 1 20 → FLD ws p0 10 46 (.int z0_46) → RI z0_47 7 7 → FLD ws p0 10 47 (.int z0_47) → RI z0_48 0 39 → FLD ws p0 10 48 (.int z0_48) → (SNL ws p0 (gd+1) (gz) (gg) x1 ∧ gh + 1 ≤ gz) → WD D cy GG A s wr_X10_readOr__7 wa_X10_readOr__7 Ps w0 Ps ws H locs → lv_has ls 2 [(0, .ref p0), (1, .int x1)] → W p l e (headSpec (Cond.code yX10_readOr cX10_readOr 2 (some .boolean) :: gT) ({ frames := 10, cells := 0, slots := 0, locals := 2000 } : Room)).room s m ([.ref p0] : List Value).toArray below meth c H locs 0 0 Q (F0 m 14 ls []) := by
    intro nf14
    induction nf14 with
    | zero =>
      intro x1 z0_46 z0_47 z0_48 gz ws H locs ls hn14 r_x1 r_z0_46 m_z0_46 r_z0_47 m_z0_47 r_z0_48 m_z0_48 x_SNW_p0_gd_1_gz_gg__1 hw hl
      exact absurd hn14 (by have q9 := SNL.le x_SNW_p0_gd_1_gz_gg__1.1; omega)
    | succ nf14 ih14 =>
      intro x1 z0_46 z0_47 z0_48 gz ws H locs ls hn14 r_x1 r_z0_46 m_z0_46 r_z0_47 m_z0_47 r_z0_48 m_z0_48 x_SNW_p0_gd_1_gz_gg__1 hw hl
      refine lv_aload_n hx hb dX10_readOr_14 rfl (lv_at hl 0 rfl) ?_
      refine lv_bipush (v := 16) hx hb dX10_readOr_15 (by decide) ?_
      refine tk_ir (va_runV (As := [.int 16]) (rest := []) ⟨hx, hb, hml, hown, hts⟩ (c_X10_isWord l D cy z H.size Ps ws hw.1 p0 16 h_p0 (rl_16.to (by decide))) (cwV 1 hts (gV tw_1318 tw_1320 ts_43 tw_15 tw_1321) rfl rfl rfl (by decide +kernel) ⟨Nat.le_of_ble_eq_true rfl, Nat.le_of_ble_eq_true rfl⟩) (tg_preV hw hK hSD hA (ci := 10) (q := (RX10, TX10, 49)) rfl h_p0 rfl) rfl rfl hl.1 rfl (lv_room (Nat.le_of_ble_eq_true rfl)) dX10_readOr_17 ⟨Nat.le_of_ble_eq_true rfl, Nat.le_of_ble_eq_true rfl⟩) hw hA (fun v_1  H locs hp_v_1 hw => ?_)
      have r_v_1 : RI v_1 0 1 := hp_v_1.1
      refine lv_if_eq (tgt := 51) hx hb dX10_readOr_20 (by decide) (fun c_20 => ?_) (fun c_20 => ?_)
      · have r_v_1 : RI v_1 0 0 := rc_eq1 r_v_1 rl_0 (ti_eq c_20) (by decide)
        refine lv_aload_n hx hb dX10_readOr_51 rfl (lv_at hl 0 rfl) ?_
        refine lv_iload_n hx hb dX10_readOr_52 rfl (lv_at hl 1 rfl) ?_
        refine tg_put (ci := 10) (ts := ty_MODEL) (v := .int x1) (ty := .int) (C := RX10) (T := TX10) (N := 49) hx hb hts inX10 tyX10 tyX10_ok nmX10 hown hK hw h_p0 rfl rfl 48 (by decide) (hts _ tw_1185) (fun _ h9 => h9) rfl (by decide +kernel) rfl rfl (ft := vI (-2147483648) 2147483647) rfl ⟨_, rfl, (r_x1.to (by decide))⟩ (by decide) dX10_readOr_53 (fun ws H locs hw n_k_2 hF9 => ?_)
        have m_z0_46 := FLD.over hF9 m_z0_46 (by decide)
        have m_z0_47 := FLD.over hF9 m_z0_47 (by decide)
        have x_SNW_p0_gd_1_gz_gg__1 := SNW.over hF9 x_SNW_p0_gd_1_gz_gg__1 (by decide)
        have f6 := SNL.le x_SNW_p0_gd_1_gz_gg__1.1
        have f7 := x_SNW_p0_gd_1_gz_gg__1.2
        have x_SNT_p0_gd_1_gh_1_gg : SNT ws p0 (gd+1) (gh+1) (gg) := (SNL.snt x_SNW_p0_gd_1_gz_gg__1.1 n_k_2).weak (by have d_8 := SNp.le x_SN_p0_gd_gh_gg; omega)
        refine lv_iconst (v := 1) hx hb dX10_readOr_56 (by decide) ?_
        subst hQ
        exact W.zret (v := 1) hx hb hr (rfl) (fun t ht hW => ⟨⟨1, ws, rfl, ⟨⟨rl_1.to (by decide), (fun h0 => absurd h0 (by decide)), (fun h0 => ⟨⟨_, m_z0_46, r_z0_46⟩, ⟨_, m_z0_47, r_z0_47⟩, ⟨_, n_k_2, r_x1⟩, x_SNT_p0_gd_1_gh_1_gg, trivial⟩)⟩, hw.1, hw.2.2.2.2.1⟩, by rw [ht]; exact hw.2.1, va_K.moved hW.alike hK, hw.2.2.1⟩, hw.2.2.2.1.F ht⟩) hw.2.2.2.1.2.2 dX10_readOr_57
      · have r_v_1 : RI v_1 1 1 := rc_neL r_v_1 rl_0 (ti_ne c_20) (by decide)
        refine lv_aload_n hx hb dX10_readOr_23 rfl (lv_at hl 0 rfl) ?_
        refine tk_v (va_runV (As := []) (rest := []) ⟨hx, hb, hml, hown, hts⟩ (c_X10_go l D cy z H.size Ps ws hw.1 p0 h_p0) (cwV 0 hts (gV tw_1298 tw_1300 ts_40 tw_15 tw_1301) rfl rfl rfl (by decide +kernel) ⟨Nat.le_of_ble_eq_true rfl, Nat.le_of_ble_eq_true rfl⟩) (tg_preV hw hK hSD hA (ci := 10) (q := (RX10, TX10, 49)) rfl h_p0 rfl) rfl rfl hl.1 rfl (lv_room (Nat.le_of_ble_eq_true rfl)) dX10_readOr_24 ⟨Nat.le_of_ble_eq_true rfl, Nat.le_of_ble_eq_true rfl⟩) hw hA ⟨by decide, by decide⟩ (fun ws H locs hp_v_3 hw hF9 => ?_)
        have m_z0_46 := FLD.over hF9 m_z0_46 (by decide)
        have m_z0_47 := FLD.over hF9 m_z0_47 (by decide)
        have m_z0_48 := FLD.over hF9 m_z0_48 (by decide)
        have x_SNW_p0_gd_1_gz_gg__1 := SNW.over hF9 x_SNW_p0_gd_1_gz_gg__1 (by decide)
        refine lv_aload_n hx hb dX10_readOr_27 rfl (lv_at hl 0 rfl) ?_
        have f9 := SNL.sn x_SNW_p0_gd_1_gz_gg__1.1
        have f8 := f9.2
        have f7 := x_SNW_p0_gd_1_gz_gg__1.2
        have f6 := SNL.le x_SNW_p0_gd_1_gz_gg__1.1
        have x_SN_p0_gd_1_gz_max_gg__Int32_toInt_x1___1_ : SNp ws p0 (gd+1) (gz) (max gg (Int32.toInt x1 + 1)) := f9.1
        refine tk_i (va_runV (As := []) (rest := []) ⟨hx, hb, hml, hown, hts⟩ (c_X10_readAnd__7 l D cy z H.size Ps ws hw.1 p0 z0_47 (gd+1) (gz) (max gg (Int32.toInt x1 + 1)) h_p0 r_z0_47 m_z0_47 x_SN_p0_gd_1_gz_max_gg__Int32_toInt_x1___1_) (cwV 0 hts (gV tw_1755 tw_1757 ts_112 tw_15 tw_1758) rfl rfl rfl (by decide +kernel) ⟨Nat.le_of_ble_eq_true rfl, Nat.le_of_ble_eq_true rfl⟩) (tg_preV hw hK hSD hA (ci := 10) (q := (RX10, TX10, 49)) rfl h_p0 rfl) rfl rfl hl.1 rfl (lv_room (Nat.le_of_ble_eq_true rfl)) dX10_readOr_28 ⟨Nat.le_of_ble_eq_true rfl, Nat.le_of_ble_eq_true rfl⟩) hw hA ⟨by decide, by decide⟩ (fun v_4 ws H locs hp_v_4 hw hF9 => ?_)
        have r_v_4 : RI v_4 0 1 := hp_v_4.1
        by_cases c9_v_4 : v_4 = 0
        · have r_v_4 : RI v_4 0 0 := by rw [c9_v_4]; exact rl_0
          obtain ⟨v_5, m_v_5, r_v_5⟩ := ((hp_v_4.2.1 c9_v_4).1)
          refine lv_if_ne (tgt := 36) hx hb dX10_readOr_31 (by decide) (fun c_31 => ?_) (fun c_31 => ?_)
          · exact absurd (r_v_4.eq.trans rl_0.eq.symm) ((ti_ne c_31))
          · refine lv_iconst (v := 0) hx hb dX10_readOr_34 (by decide) ?_
            subst hQ
            exact W.zret (v := 0) hx hb hr (rfl) (fun t ht hW => ⟨⟨0, ws, rfl, ⟨⟨rl_0.to (by decide), (fun h0 => ⟨⟨_, m_v_5, r_v_5⟩, trivial⟩), (fun h0 => absurd rfl h0)⟩, hw.1, hw.2.2.2.2.1⟩, by rw [ht]; exact hw.2.1, va_K.moved hW.alike hK, hw.2.2.1⟩, hw.2.2.2.1.F ht⟩) hw.2.2.2.1.2.2 dX10_readOr_35
        · have r_v_4 : RI v_4 1 1 := rc_neL r_v_4 rl_0 (ti_ne c9_v_4) (by decide)
          obtain ⟨v_6, m_v_6, r_v_6⟩ := ((hp_v_4.2.2 c9_v_4).1)
          obtain ⟨v_7, m_v_7, r_v_7⟩ := ((hp_v_4.2.2 c9_v_4).2.1)
          obtain ⟨v_8, m_v_8, r_v_8⟩ := ((hp_v_4.2.2 c9_v_4).2.2.1)
          have x_SNT_p0_gd_2_gz_1_max_gg__Int32_toInt_x1___1_ := ((hp_v_4.2.2 c9_v_4).2.2.2.1)
          refine lv_if_ne (tgt := 36) hx hb dX10_readOr_31 (by decide) (fun c_31 => ?_) (fun c_31 => ?_)
          · refine lv_aload_n hx hb dX10_readOr_36 rfl (lv_at hl 0 rfl) ?_
            refine lv_iconst (v := 3) hx hb dX10_readOr_37 (by decide) ?_
            refine lv_iload_n hx hb dX10_readOr_38 rfl (lv_at hl 1 rfl) ?_
            refine lv_aload_n hx hb dX10_readOr_39 rfl (lv_at hl 0 rfl) ?_
            refine tg_mem (ci := 10) (C := RX10) (T := TX10) (N := 49) hx hb hts inX10 hown hK hw 48 m_v_8 rfl (by decide) (hts _ tw_1185) (fun _ h9 => h9) dX10_readOr_40 ?_
            refine lv_iconst (v := 0) hx hb dX10_readOr_43 (by decide) ?_
            have l9 := SNT.top hw x_SNT_p0_gd_2_gz_1_max_gg__Int32_toInt_x1___1_ m_v_8
            have l8 := SNT.sn x_SNT_p0_gd_2_gz_1_max_gg__Int32_toInt_x1___1_
            have x_SNI_p0_gd_1_gz_1_gg : SNI ws p0 (gd+1) (gz+1) (gg) := SNp.sni l8 (by have d_8 := SNp.le x_SN_p0_gd_gh_gg; omega)
            have x_LTN_p0_x1 : LTN ws p0 (x1) := SNp.ltn l8 f8
            have x_LTN_p0_v_8 : LTN ws p0 (v_8) := l9.ltn
            refine tk_i (va_runV (As := [.int 3, .int x1, .int v_8, .int 0]) (rest := []) ⟨hx, hb, hml, hown, hts⟩ (c_X10_saysOne__1 l D cy z H.size Ps ws hw.1 p0 3 x1 v_8 0 (gd+1) (gz+1) (gg) h_p0 (rl_3.to (by decide)) (r_x1.to (by decide)) (r_v_8.to (by decide)) (rl_0.to (by decide)) x_SNI_p0_gd_1_gz_1_gg x_LTN_p0_x1 x_LTN_p0_v_8) (cwV 4 hts (gV tw_1771 tw_1773 ts_116 tw_15 tw_1774) rfl rfl rfl (by decide +kernel) ⟨Nat.le_of_ble_eq_true rfl, Nat.le_of_ble_eq_true rfl⟩) (tg_preV hw hK hSD hA (ci := 10) (q := (RX10, TX10, 49)) rfl h_p0 rfl) rfl rfl hl.1 rfl (lv_room (Nat.le_of_ble_eq_true rfl)) dX10_readOr_44 ⟨Nat.le_of_ble_eq_true rfl, Nat.le_of_ble_eq_true rfl⟩) hw hA ⟨by decide, by decide⟩ (fun v_9 ws H locs hp_v_9 hw hF9 => ?_)
            have m_v_6 := FLD.over hF9 m_v_6 (by decide)
            have m_v_7 := FLD.over hF9 m_v_7 (by decide)
            have m_v_8 := FLD.over hF9 m_v_8 (by decide)
            have r_v_9 : RI v_9 0 39 := hp_v_9.1
            have x_SNL_p0_gd_1_gz_1_gg_v_9 := hp_v_9.2.2.2.1.1
            refine lv_istore_n (lv' := [(1, .int v_9), (0, .ref p0)]) hx hb dX10_readOr_47 rfl hl (by decide) rfl (fun ls hl => ?_)
            refine lv_goto (tgt := 14) hx hb dX10_readOr_48 (by decide) ?_
            have x_SNW_p0_gd_1_gz_1_gg_v_9 : (SNL ws p0 (gd+1) (gz+1) (gg) v_9 ∧ gh + 1 ≤ gz+1) := ⟨x_SNL_p0_gd_1_gz_1_gg_v_9, by omega⟩
            exact ih14 v_9 v_6 v_7 v_8 (gz+1) ws _ _ ls (by have d_8 := SNp.le x_SN_p0_gd_gh_gg; omega) r_v_9 r_v_6 m_v_6 r_v_7 m_v_7 r_v_8 m_v_8 x_SNW_p0_gd_1_gz_1_gg_v_9 hw (lv_sub hl [1, 0] rfl)
          · have r_v_4 : RI v_4 1 0 := rc_eq1 r_v_4 rl_0 (ti_eq c_31) (by decide)
            exact (r_v_4.no (by decide)).elim
  refine lv_aload_n hx hb dX10_readOr_0 rfl (lv_at hl 0 rfl) ?_
  refine tk_i (va_runV (As := []) (rest := []) ⟨hx, hb, hml, hown, hts⟩ (c_X10_readAnd__7 l D cy z s.heap.size Ps w0 hw.1 p0 f0_47 (gd) (gh) (gg) h_p0 r_f0_47 m_f0_47 x_SN_p0_gd_gh_gg) (cwV 0 hts (gV tw_1755 tw_1757 ts_112 tw_15 tw_1758) rfl rfl rfl (by decide +kernel) ⟨Nat.le_of_ble_eq_true rfl, Nat.le_of_ble_eq_true rfl⟩) (tg_preV hw hK hSD hA (ci := 10) (q := (RX10, TX10, 49)) rfl h_p0 rfl) rfl rfl hl.1 rfl (lv_room (Nat.le_of_ble_eq_true rfl)) dX10_readOr_1 ⟨Nat.le_of_ble_eq_true rfl, Nat.le_of_ble_eq_true rfl⟩) hw hA ⟨by decide, by decide⟩ (fun v_10 ws H locs hp_v_10 hw hF9 => ?_)
  have r_v_10 : RI v_10 0 1 := hp_v_10.1
  by_cases c9_v_10 : v_10 = 0
  · have r_v_10 : RI v_10 0 0 := by rw [c9_v_10]; exact rl_0
    obtain ⟨v_11, m_v_11, r_v_11⟩ := ((hp_v_10.2.1 c9_v_10).1)
    refine lv_if_ne (tgt := 9) hx hb dX10_readOr_4 (by decide) (fun c_4 => ?_) (fun c_4 => ?_)
    · exact absurd (r_v_10.eq.trans rl_0.eq.symm) ((ti_ne c_4))
    · refine lv_iconst (v := 0) hx hb dX10_readOr_7 (by decide) ?_
      subst hQ
      exact W.zret (v := 0) hx hb hr (rfl) (fun t ht hW => ⟨⟨0, ws, rfl, ⟨⟨rl_0.to (by decide), (fun h0 => ⟨⟨_, m_v_11, r_v_11⟩, trivial⟩), (fun h0 => absurd rfl h0)⟩, hw.1, hw.2.2.2.2.1⟩, by rw [ht]; exact hw.2.1, va_K.moved hW.alike hK, hw.2.2.1⟩, hw.2.2.2.1.F ht⟩) hw.2.2.2.1.2.2 dX10_readOr_8
  · have r_v_10 : RI v_10 1 1 := rc_neL r_v_10 rl_0 (ti_ne c9_v_10) (by decide)
    obtain ⟨v_12, m_v_12, r_v_12⟩ := ((hp_v_10.2.2 c9_v_10).1)
    obtain ⟨v_13, m_v_13, r_v_13⟩ := ((hp_v_10.2.2 c9_v_10).2.1)
    obtain ⟨v_14, m_v_14, r_v_14⟩ := ((hp_v_10.2.2 c9_v_10).2.2.1)
    have x_SNT_p0_gd_1_gh_1_gg := ((hp_v_10.2.2 c9_v_10).2.2.2.1)
    refine lv_if_ne (tgt := 9) hx hb dX10_readOr_4 (by decide) (fun c_4 => ?_) (fun c_4 => ?_)
    · refine lv_aload_n hx hb dX10_readOr_9 rfl (lv_at hl 0 rfl) ?_
      refine tg_mem (ci := 10) (C := RX10) (T := TX10) (N := 49) hx hb hts inX10 hown hK hw 48 m_v_14 rfl (by decide) (hts _ tw_1185) (fun _ h9 => h9) dX10_readOr_10 ?_
      refine lv_istore_n (lv' := [(1, .int v_14), (0, .ref p0)]) hx hb dX10_readOr_13 rfl hl (by decide) rfl (fun ls hl => ?_)
      have x_SNW_p0_gd_1_gh_1_gg_v_14 : (SNL ws p0 (gd+1) (gh+1) (gg) v_14 ∧ gh + 1 ≤ gh+1) := ⟨SNT.top hw x_SNT_p0_gd_1_gh_1_gg m_v_14, by omega⟩
      exact B14 4294967298 v_14 v_12 v_13 v_14 (gh+1) ws _ _ ls (by have d_8 := SNp.le x_SN_p0_gd_gh_gg; omega) r_v_14 r_v_12 m_v_12 r_v_13 m_v_13 r_v_14 m_v_14 x_SNW_p0_gd_1_gh_1_gg_v_14 hw (lv_sub hl [1, 0] rfl)
    · have r_v_10 : RI v_10 1 0 := rc_eq1 r_v_10 rl_0 (ti_eq c_4) (by decide)
      exact (r_v_10.no (by decide)).elim
abbrev wr_X10_readBracket__6 : List (Nat × Nat) := [(10, 5), (10, 6), (10, 7), (10, 8), (10, 9), (10, 10), (10, 11), (10, 12), (10, 13), (10, 45), (10, 46), (10, 47), (10, 48)]
abbrev wa_X10_readBracket__6 : List Nat := [54]
set_option maxHeartbeats 4000000 in
set_option maxRecDepth 100000 in
theorem c_X10_readBracket__6 (l : Launch) (D : va_G) (cy : Nat → ClassId) (z : Nat → Nat) (sz : Nat) (Ps : PSI) (w0 : va_W) (hT : HT cy GG Ps w0) (p0 : Nat) (f0_47 : Int32) (gd : Int) (gh : Int) (gg : Int) (h_p0 : (p0, 55) ∈ Ps) (r_f0_47 : RI f0_47 7 7) (m_f0_47 : FLD w0 p0 10 47 (.int f0_47)) (x_SNI_p0_gd_gh_gg : SNI w0 p0 (gd) (gh) (gg)) : Met l yX10_readBracket (Cond.code yX10_readBracket cX10_readBracket 1 (some .boolean) :: gT) ({ frames := 11, cells := 0, slots := 0, locals := 2200 } : Room) (va_Pc [.ref p0] (PRE D cy z w0 sz)) (va_Qi (fun (r : Int32) (u : va_W) => (RI r 0 1 ∧ (r = 0 → (∃ v9 : Int32, FLD u p0 10 47 (.int v9) ∧ RI v9 7 7) ∧ True) ∧ (¬ r = 0 → (∃ v9 : Int32, FLD u p0 10 46 (.int v9) ∧ RI v9 1 20) ∧ (∃ v9 : Int32, FLD u p0 10 47 (.int v9) ∧ RI v9 7 7) ∧ (∃ v9 : Int32, FLD u p0 10 48 (.int v9) ∧ RI v9 0 39) ∧ SNT u p0 (gd) (gh) (gg) ∧ True)) ∧ HT cy GG Ps u ∧ FR wr_X10_readBracket__6 wa_X10_readBracket__6 Ps w0 u) (BB D cy (va_A w0 sz) (fun (u : va_W) => u)) (va_A w0 sz)) 0 0 (va_A w0 sz) := by
  refine Met.ofW (cc := cX10_readBracket) (maxL := 1) (ret := (some .boolean)) (by decide) rfl ?_
  intro p e s m args below meth c s₁ B hml hv
  obtain ⟨rfl, hsz, hP, hK, hD0, hSD⟩ := hv
  have hx := B.exec
  have hb := B.bytes
  have hr := B.returns
  have hlocks := B.notSynchronized
  have hts : ∀ w ∈ gT, w.before _ s = true := fun w h => atoms_spec (ws := Cond.code yX10_readBracket cX10_readBracket 1 (some .boolean) :: gT) B.pre w (List.mem_cons_of_mem _ h)
  have hown : s.vm.findClass RX10 = some m.cls := findClass_of_methodNamed B.named
  subst hsz
  have hD := hD0.self (sz := s.heap.size)
  generalize hAe : va_A w0 s.heap.size = A at hD hSD ⊢
  have hA : ∀ q : Nat, s.heap.size ≤ q → A q := fun q h => by rw [← hAe]; exact Or.inr h
  have hl := lv_entry ([.ref p0]) (n := 1) (Nat.le_of_ble_eq_true rfl)
  rw [lg_entry_eq]
  generalize (lg_sl ([.ref p0]) ++ List.replicate (1 - (lg_sl ([.ref p0])).length) Slot.unset).toArray = ls at hl ⊢
  have hl : lv_has ls 1 [(0, .ref p0)] := hl
  refine nameQ (fun Q hQ => ?_)
  have hw : WD D cy GG A s wr_X10_readBracket__6 wa_X10_readBracket__6 Ps w0 Ps w0 s.heap [] := ⟨hT, hP, hD, va_S.rf, FR.rf, hT.1, [], (List.append_nil _).symm⟩
  refine lv_aload_n hx hb dX10_readBracket_0 rfl (lv_at hl 0 rfl) ?_
  have d_8 := x_SNI_p0_gd_gh_gg.1
  have x_SN_p0_gd_1_gh_gg : SNp w0 p0 (gd+1) (gh) (gg) := x_SNI_p0_gd_gh_gg.2
  refine tk_i (va_runV (As := []) (rest := []) ⟨hx, hb, hml, hown, hts⟩ (c_X10_readOr__7 l D cy z s.heap.size Ps w0 hw.1 p0 f0_47 (gd+1) (gh) (gg) h_p0 r_f0_47 m_f0_47 x_SN_p0_gd_1_gh_gg) (cwV 0 hts (gV tw_1751 tw_1753 ts_111 tw_15 tw_1754) rfl rfl rfl (by decide +kernel) ⟨Nat.le_of_ble_eq_true rfl, Nat.le_of_ble_eq_true rfl⟩) (tg_preV hw hK hSD hA (ci := 10) (q := (RX10, TX10, 49)) rfl h_p0 rfl) rfl rfl hl.1 rfl (lv_room (Nat.le_of_ble_eq_true rfl)) dX10_readBracket_1 ⟨Nat.le_of_ble_eq_true rfl, Nat.le_of_ble_eq_true rfl⟩) hw hA ⟨by decide, by decide⟩ (fun v_1 ws H locs hp_v_1 hw hF9 => ?_)
  have r_v_1 : RI v_1 0 1 := hp_v_1.1
  by_cases c9_v_1 : v_1 = 0
  · have r_v_1 : RI v_1 0 0 := by rw [c9_v_1]; exact rl_0
    obtain ⟨v_2, m_v_2, r_v_2⟩ := ((hp_v_1.2.1 c9_v_1).1)
    refine lv_if_ne (tgt := 9) hx hb dX10_readBracket_4 (by decide) (fun c_4 => ?_) (fun c_4 => ?_)
    · exact absurd (r_v_1.eq.trans rl_0.eq.symm) ((ti_ne c_4))
    · refine lv_iconst (v := 0) hx hb dX10_readBracket_7 (by decide) ?_
      subst hQ
      exact W.zret (v := 0) hx hb hr (rfl) (fun t ht hW => ⟨⟨0, ws, rfl, ⟨⟨rl_0.to (by decide), (fun h0 => ⟨⟨_, m_v_2, r_v_2⟩, trivial⟩), (fun h0 => absurd rfl h0)⟩, hw.1, hw.2.2.2.2.1⟩, by rw [ht]; exact hw.2.1, va_K.moved hW.alike hK, hw.2.2.1⟩, hw.2.2.2.1.F ht⟩) hw.2.2.2.1.2.2 dX10_readBracket_8
  · have r_v_1 : RI v_1 1 1 := rc_neL r_v_1 rl_0 (ti_ne c9_v_1) (by decide)
    obtain ⟨v_3, m_v_3, r_v_3⟩ := ((hp_v_1.2.2 c9_v_1).1)
    obtain ⟨v_4, m_v_4, r_v_4⟩ := ((hp_v_1.2.2 c9_v_1).2.1)
    obtain ⟨v_5, m_v_5, r_v_5⟩ := ((hp_v_1.2.2 c9_v_1).2.2.1)
    have x_SNT_p0_gd_2_gh_1_gg := ((hp_v_1.2.2 c9_v_1).2.2.2.1)
    refine lv_if_ne (tgt := 9) hx hb dX10_readBracket_4 (by decide) (fun c_4 => ?_) (fun c_4 => ?_)
    · refine lv_aload_n hx hb dX10_readBracket_9 rfl (lv_at hl 0 rfl) ?_
      refine lv_bipush (v := 41) hx hb dX10_readBracket_10 (by decide) ?_
      refine tk_ir (va_runV (As := [.int 41]) (rest := []) ⟨hx, hb, hml, hown, hts⟩ (c_X10_isSign l D cy z H.size Ps ws hw.1 p0 41 h_p0 (rl_41.to (by decide))) (cwV 1 hts (gV tw_1413 tw_1415 ts_63 tw_15 tw_1416) rfl rfl rfl (by decide +kernel) ⟨Nat.le_of_ble_eq_true rfl, Nat.le_of_ble_eq_true rfl⟩) (tg_preV hw hK hSD hA (ci := 10) (q := (RX10, TX10, 49)) rfl h_p0 rfl) rfl rfl hl.1 rfl (lv_room (Nat.le_of_ble_eq_true rfl)) dX10_readBracket_12 ⟨Nat.le_of_ble_eq_true rfl, Nat.le_of_ble_eq_true rfl⟩) hw hA (fun v_6  H locs hp_v_6 hw => ?_)
      have r_v_6 : RI v_6 0 1 := hp_v_6.1
      by_cases c9_v_6 : v_6 = 0
      · have r_v_6 : RI v_6 0 0 := by rw [c9_v_6]; exact rl_0
        refine lv_if_ne (tgt := 24) hx hb dX10_readBracket_15 (by decide) (fun c_15 => ?_) (fun c_15 => ?_)
        · exact absurd (r_v_6.eq.trans rl_0.eq.symm) ((ti_ne c_15))
        · refine lv_aload_n hx hb dX10_readBracket_18 rfl (lv_at hl 0 rfl) ?_
          refine lv_iconst (v := 1) hx hb dX10_readBracket_19 (by decide) ?_
          refine tk_i (va_runV (As := [.int 1]) (rest := []) ⟨hx, hb, hml, hown, hts⟩ (c_X10_bad l D cy z H.size Ps ws hw.1 p0 1 h_p0 (rl_1.to (by decide))) (cwV 1 hts (gV tw_1336 tw_1338 ts_46 tw_15 tw_1339) rfl rfl rfl (by decide +kernel) ⟨Nat.le_of_ble_eq_true rfl, Nat.le_of_ble_eq_true rfl⟩) (tg_preV hw hK hSD hA (ci := 10) (q := (RX10, TX10, 49)) rfl h_p0 rfl) rfl rfl hl.1 rfl (lv_room (Nat.le_of_ble_eq_true rfl)) dX10_readBracket_20 ⟨Nat.le_of_ble_eq_true rfl, Nat.le_of_ble_eq_true rfl⟩) hw hA ⟨by decide, by decide⟩ (fun v_7 ws H locs hp_v_7 hw hF9 => ?_)
          have m_v_3 := FLD.over hF9 m_v_3 (by decide)
          have m_v_4 := FLD.over hF9 m_v_4 (by decide)
          have m_v_5 := FLD.over hF9 m_v_5 (by decide)
          have x_SNT_p0_gd_2_gh_1_gg := SNT.over hF9 x_SNT_p0_gd_2_gh_1_gg (by decide)
          have r_v_7 : RI v_7 0 0 := hp_v_7.1
          subst hQ
          exact W.zret (v := v_7) hx hb hr (tq_nz (r_v_7.to (by decide))) (fun t ht hW => ⟨⟨v_7, ws, rfl, ⟨⟨r_v_7.to (by decide), (fun h0 => ⟨⟨_, m_v_4, r_v_4⟩, trivial⟩), (fun h0 => absurd (Int32.toInt_inj.mp (by have h8 := r_v_7; unfold RI at h8; rw [Int32.toInt_zero]; omega)) h0)⟩, hw.1, hw.2.2.2.2.1⟩, by rw [ht]; exact hw.2.1, va_K.moved hW.alike hK, hw.2.2.1⟩, hw.2.2.2.1.F ht⟩) hw.2.2.2.1.2.2 dX10_readBracket_23
      · have r_v_6 : RI v_6 1 1 := rc_neL r_v_6 rl_0 (ti_ne c9_v_6) (by decide)
        obtain ⟨v_8, m_v_8, r_v_8⟩ := ((hp_v_6.2.2 c9_v_6).1)
        refine lv_if_ne (tgt := 24) hx hb dX10_readBracket_15 (by decide) (fun c_15 => ?_) (fun c_15 => ?_)
        · refine lv_aload_n hx hb dX10_readBracket_24 rfl (lv_at hl 0 rfl) ?_
          refine tk_v (va_runV (As := []) (rest := []) ⟨hx, hb, hml, hown, hts⟩ (c_X10_go l D cy z H.size Ps ws hw.1 p0 h_p0) (cwV 0 hts (gV tw_1298 tw_1300 ts_40 tw_15 tw_1301) rfl rfl rfl (by decide +kernel) ⟨Nat.le_of_ble_eq_true rfl, Nat.le_of_ble_eq_true rfl⟩) (tg_preV hw hK hSD hA (ci := 10) (q := (RX10, TX10, 49)) rfl h_p0 rfl) rfl rfl hl.1 rfl (lv_room (Nat.le_of_ble_eq_true rfl)) dX10_readBracket_25 ⟨Nat.le_of_ble_eq_true rfl, Nat.le_of_ble_eq_true rfl⟩) hw hA ⟨by decide, by decide⟩ (fun ws H locs hp_v_9 hw hF9 => ?_)
          have m_v_3 := FLD.over hF9 m_v_3 (by decide)
          have m_v_4 := FLD.over hF9 m_v_4 (by decide)
          have m_v_5 := FLD.over hF9 m_v_5 (by decide)
          have x_SNT_p0_gd_2_gh_1_gg := SNT.over hF9 x_SNT_p0_gd_2_gh_1_gg (by decide)
          have x_SNT_p0_gd_gh_gg : SNT ws p0 (gd) (gh) (gg) := x_SNT_p0_gd_2_gh_1_gg.weak (by have d_8 := SNp.le x_SNI_p0_gd_gh_gg.2; have d_7 := x_SNI_p0_gd_gh_gg.1; omega)
          refine lv_iconst (v := 1) hx hb dX10_readBracket_28 (by decide) ?_
          subst hQ
          exact W.zret (v := 1) hx hb hr (rfl) (fun t ht hW => ⟨⟨1, ws, rfl, ⟨⟨rl_1.to (by decide), (fun h0 => absurd h0 (by decide)), (fun h0 => ⟨⟨_, m_v_3, r_v_3⟩, ⟨_, m_v_4, r_v_4⟩, ⟨_, m_v_5, r_v_5⟩, x_SNT_p0_gd_gh_gg, trivial⟩)⟩, hw.1, hw.2.2.2.2.1⟩, by rw [ht]; exact hw.2.1, va_K.moved hW.alike hK, hw.2.2.1⟩, hw.2.2.2.1.F ht⟩) hw.2.2.2.1.2.2 dX10_readBracket_29
        · have r_v_6 : RI v_6 1 0 := rc_eq1 r_v_6 rl_0 (ti_eq c_15) (by decide)
          exact (r_v_6.no (by decide)).elim
    · have r_v_1 : RI v_1 1 0 := rc_eq1 r_v_1 rl_0 (ti_eq c_4) (by decide)
      exact (r_v_1.no (by decide)).elim
abbrev wr_X10_saysOne__2 : List (Nat × Nat) := [(10, 45)]
abbrev wa_X10_saysOne__2 : List Nat := [54]
set_option maxHeartbeats 4000000 in
set_option maxRecDepth 100000 in
theorem c_X10_saysOne__2 (l : Launch) (D : va_G) (cy : Nat → ClassId) (z : Nat → Nat) (sz : Nat) (Ps : PSI) (w0 : va_W) (hT : HT cy GG Ps w0) (p0 : Nat) (p1 : Int32) (p2 : Int32) (p3 : Int32) (p4 : Int32) (gd : Int) (gh : Int) (gg : Int) (h_p0 : (p0, 55) ∈ Ps) (r_p1 : RI p1 1 1) (r_p2 : RI p2 (-2147483648) 2147483647) (r_p3 : RI p3 (-2147483648) 2147483647) (r_p4 : RI p4 (-2147483648) 2147483647) (x_SNI_p0_gd_gh_gg : SNI w0 p0 (gd) (gh) (gg)) (x_LTN_p0_p2 : LTN w0 p0 (p2)) : Met l yX10_saysOne (Cond.code yX10_saysOne cX10_saysOne 6 (some .int) :: gT) ({ frames := 0, cells := 0, slots := 0, locals := 200 } : Room) (va_Pc [.ref p0, .int p1, .int p2, .int p3, .int p4] (PRE D cy z w0 sz)) (va_Qi (fun (r : Int32) (u : va_W) => (RI r 0 39 ∧ (r = 0 → True) ∧ (¬ r = 0 → True) ∧ (SNL u p0 (gd) (gh) (gg) (r) ∧ True) ∧ (r.toInt < 0 → True) ∧ (0 ≤ r.toInt → True)) ∧ HT cy GG Ps u ∧ FR wr_X10_saysOne__2 wa_X10_saysOne__2 Ps w0 u) (BB D cy (va_A w0 sz) (fun (u : va_W) => u)) (va_A w0 sz)) 0 0 (va_A w0 sz) := by
  refine Met.ofW (cc := cX10_saysOne) (maxL := 6) (ret := (some .int)) (by decide) rfl ?_
  intro p e s m args below meth c s₁ B hml hv
  obtain ⟨rfl, hsz, hP, hK, hD0, hSD⟩ := hv
  have hx := B.exec
  have hb := B.bytes
  have hr := B.returns
  have hlocks := B.notSynchronized
  have hts : ∀ w ∈ gT, w.before _ s = true := fun w h => atoms_spec (ws := Cond.code yX10_saysOne cX10_saysOne 6 (some .int) :: gT) B.pre w (List.mem_cons_of_mem _ h)
  have hown : s.vm.findClass RX10 = some m.cls := findClass_of_methodNamed B.named
  subst hsz
  have hD := hD0.self (sz := s.heap.size)
  generalize hAe : va_A w0 s.heap.size = A at hD hSD ⊢
  have hA : ∀ q : Nat, s.heap.size ≤ q → A q := fun q h => by rw [← hAe]; exact Or.inr h
  have hl := lv_entry ([.ref p0, .int p1, .int p2, .int p3, .int p4]) (n := 6) (Nat.le_of_ble_eq_true rfl)
  rw [lg_entry_eq]
  generalize (lg_sl ([.ref p0, .int p1, .int p2, .int p3, .int p4]) ++ List.replicate (6 - (lg_sl ([.ref p0, .int p1, .int p2, .int p3, .int p4])).length) Slot.unset).toArray = ls at hl ⊢
  have hl : lv_has ls 6 [(0, .ref p0), (1, .int p1), (2, .int p2), (3, .int p3), (4, .int p4)] := hl
  refine nameQ (fun Q hQ => ?_)
  have hw : WD D cy GG A s wr_X10_saysOne__2 wa_X10_saysOne__2 Ps w0 Ps w0 s.heap [] := ⟨hT, hP, hD, va_S.rf, FR.rf, hT.1, [], (List.append_nil _).symm⟩
  refine lv_iconst (v := 4) hx hb dX10_saysOne_0 (by decide) ?_
  refine lv_aload_n hx hb dX10_saysOne_1 rfl (lv_at hl 0 rfl) ?_
  refine tg_get (ci := 10) (ts := ty_MODEL) (C := RX10) (T := TX10) (N := 49) hx hb hts inX10 hown hK hw h_p0 rfl rfl 45 (by decide) (hts _ tw_1182) (fun _ h9 => h9) (ft := vI (-2147483648) 2147483647) rfl dX10_saysOne_2 (fun u_1 hv_u_1 m_u_1 => ?_)
  obtain ⟨vu_1, rfl, r_vu_1⟩ := hv_u_1
  obtain ⟨o9, ho9, ro9, b9⟩ := SNp.getN hw x_SNI_p0_gd_gh_gg.2 m_u_1
  have d9 := x_SNI_p0_gd_gh_gg.1
  have ro8 := ro9.2
  have r_vu_1 : RI vu_1 0 39 := ⟨by omega, by omega⟩
  refine lv_imul hx hb dX10_saysOne_5 (lv_topi (fun v_2 e_v_2 => ?_))
  obtain ⟨t_v_2, r_v_2⟩ := tq_mul (lo := 0) (hi := 156) rl_4 r_vu_1 (by decide +kernel) e_v_2
  have t_v_2 : v_2.toInt = 4 * vu_1.toInt := t_v_2
  refine lv_istore (lv' := [(5, .int v_2), (0, .ref p0), (1, .int p1), (2, .int p2), (3, .int p3), (4, .int p4)]) hx hb dX10_saysOne_6 hl (by decide) rfl (fun ls hl => ?_)
  have x_S0_p0_vu_1 : AX 44 54 (fun f => SYp vu_1 f) Ps w0 p0 := AX.imp (ax_of (k := 44) (t := 54) hw h_p0 rfl (fun _ => rfl)) (fun f9 h9 => fun q9 u9 _ => h9.1 q9 u9)
  obtain ⟨b_3, m_b_3, h_b_3⟩ := tg_fldR (k := 44) (ci := 10) (ts := ty_MODEL) (u := 54) hw h_p0 rfl rfl
  have hw := WD.weak b_3 hw
  refine lv_aload_n hx hb dX10_saysOne_8 rfl (lv_at hl 1 rfl) ?_
  refine tg_mem (ci := 10) (C := RX10) (T := TX10) (N := 49) hx hb hts inX10 hown hK hw 44 m_b_3 rfl (by decide) (hts _ tw_1181) (fun _ h9 => h9) dX10_saysOne_9 ?_
  refine lv_iload hx hb dX10_saysOne_12 (lv_at hl 0 rfl) ?_
  refine lv_iload_n hx hb dX10_saysOne_14 rfl (lv_at hl 2 rfl) ?_
  refine tg_iast hx hb hK hw h_b_3 rfl 0 156 r_v_2 (by decide) r_p1 (by exact fun _ _ _ => by decide) (fun _ _ _ _ _ => Or.inl rfl) (by decide) dX10_saysOne_15 (fun ws H locs hw hF9 hU9 => ?_)
  have x_S1_p0_vu_1_p1 : AX 44 54 (fun f => SYp vu_1 f ∧ f (4 * Int32.toNatClampNeg vu_1) = p1) Ps ws p0 := AX.ast hF9 hU9 x_S0_p0_vu_1 m_b_3 (fun f9 h9 => by have j9 : Int32.toNatClampNeg v_2 = 4 * Int32.toNatClampNeg vu_1 + 0 := (by have k1 := r_v_2.cl (by decide); have k2 := r_vu_1.cl (by decide); omega); exact ⟨SY_upd h9 (by omega), by rw [show 4 * Int32.toNatClampNeg vu_1 = Int32.toNatClampNeg v_2 by omega]; exact pk_us⟩)
  have x_SNI_p0_gd_gh_gg := SNI.over hF9 x_SNI_p0_gd_gh_gg (by decide)
  have x_LTN_p0_p2 := LTN.over hF9 x_LTN_p0_p2 (by decide)
  have m_u_1 := FLD.over hF9 m_u_1 (by decide)
  have ho9 := FLD.over hF9 ho9 (by decide)
  have m_b_3 := FLD.over hF9 m_b_3 (by decide)
  refine lv_aload_n hx hb dX10_saysOne_16 rfl (lv_at hl 1 rfl) ?_
  refine tg_mem (ci := 10) (C := RX10) (T := TX10) (N := 49) hx hb hts inX10 hown hK hw 44 m_b_3 rfl (by decide) (hts _ tw_1181) (fun _ h9 => h9) dX10_saysOne_17 ?_
  refine lv_iload hx hb dX10_saysOne_20 (lv_at hl 0 rfl) ?_
  refine lv_iconst (v := 1) hx hb dX10_saysOne_22 (by decide) ?_
  refine lv_iadd hx hb dX10_saysOne_23 (lv_topi (fun v_4 e_v_4 => ?_))
  obtain ⟨t_v_4, r_v_4⟩ := tq_add (lo := 1) (hi := 157) r_v_2 rl_1 (by decide +kernel) e_v_4
  have t_v_4 : v_4.toInt = v_2.toInt + 1 := t_v_4
  refine lv_iload_n hx hb dX10_saysOne_24 rfl (lv_at hl 3 rfl) ?_
  refine tg_iast hx hb hK hw h_b_3 rfl 1 157 r_v_4 (by decide) r_p2 (by exact fun _ _ _ => by decide) (fun _ _ _ _ _ => Or.inl rfl) (by decide) dX10_saysOne_25 (fun ws H locs hw hF9 hU9 => ?_)
  have x_S2_p0_vu_1_p1_p2 : AX 44 54 (fun f => SYp vu_1 f ∧ f (4 * Int32.toNatClampNeg vu_1) = p1 ∧ f (4 * Int32.toNatClampNeg vu_1 + 1) = p2) Ps ws p0 := AX.ast hF9 hU9 x_S1_p0_vu_1_p1 m_b_3 (fun f9 h9 => by have j9 : Int32.toNatClampNeg v_4 = 4 * Int32.toNatClampNeg vu_1 + 1 := (by have k1 := r_v_4.cl (by decide); have k2 := r_vu_1.cl (by decide); omega); exact ⟨SY_upd h9.1 (by omega), by rw [pk_un (by omega)]; exact h9.2, by rw [show 4 * Int32.toNatClampNeg vu_1 + 1 = Int32.toNatClampNeg v_4 by omega]; exact pk_us⟩)
  have x_SNI_p0_gd_gh_gg := SNI.over hF9 x_SNI_p0_gd_gh_gg (by decide)
  have x_LTN_p0_p2 := LTN.over hF9 x_LTN_p0_p2 (by decide)
  have m_u_1 := FLD.over hF9 m_u_1 (by decide)
  have ho9 := FLD.over hF9 ho9 (by decide)
  have m_b_3 := FLD.over hF9 m_b_3 (by decide)
  refine lv_aload_n hx hb dX10_saysOne_26 rfl (lv_at hl 1 rfl) ?_
  refine tg_mem (ci := 10) (C := RX10) (T := TX10) (N := 49) hx hb hts inX10 hown hK hw 44 m_b_3 rfl (by decide) (hts _ tw_1181) (fun _ h9 => h9) dX10_saysOne_27 ?_
  refine lv_iload hx hb dX10_saysOne_30 (lv_at hl 0 rfl) ?_
  refine lv_iconst (v := 2) hx hb dX10_saysOne_32 (by decide) ?_
  refine lv_iadd hx hb dX10_saysOne_33 (lv_topi (fun v_5 e_v_5 => ?_))
  obtain ⟨t_v_5, r_v_5⟩ := tq_add (lo := 2) (hi := 158) r_v_2 rl_2 (by decide +kernel) e_v_5
  have t_v_5 : v_5.toInt = v_2.toInt + 2 := t_v_5
  refine lv_iload_n hx hb dX10_saysOne_34 rfl (lv_at hl 4 rfl) ?_
  refine tg_iast hx hb hK hw h_b_3 rfl 2 158 r_v_5 (by decide) r_p3 (by exact fun _ _ _ => by decide) (fun _ _ _ _ _ => Or.inl rfl) (by decide) dX10_saysOne_35 (fun ws H locs hw hF9 hU9 => ?_)
  have x_S3_p0_vu_1_p1_p2_p3 : AX 44 54 (fun f => SYp vu_1 f ∧ f (4 * Int32.toNatClampNeg vu_1) = p1 ∧ f (4 * Int32.toNatClampNeg vu_1 + 1) = p2 ∧ f (4 * Int32.toNatClampNeg vu_1 + 2) = p3) Ps ws p0 := AX.ast hF9 hU9 x_S2_p0_vu_1_p1_p2 m_b_3 (fun f9 h9 => by have j9 : Int32.toNatClampNeg v_5 = 4 * Int32.toNatClampNeg vu_1 + 2 := (by have k1 := r_v_5.cl (by decide); have k2 := r_vu_1.cl (by decide); omega); exact ⟨SY_upd h9.1 (by omega), by rw [pk_un (by omega)]; exact h9.2.1, by rw [pk_un (by omega)]; exact h9.2.2, by rw [show 4 * Int32.toNatClampNeg vu_1 + 2 = Int32.toNatClampNeg v_5 by omega]; exact pk_us⟩)
  have x_SNI_p0_gd_gh_gg := SNI.over hF9 x_SNI_p0_gd_gh_gg (by decide)
  have x_LTN_p0_p2 := LTN.over hF9 x_LTN_p0_p2 (by decide)
  have m_u_1 := FLD.over hF9 m_u_1 (by decide)
  have ho9 := FLD.over hF9 ho9 (by decide)
  have m_b_3 := FLD.over hF9 m_b_3 (by decide)
  refine lv_aload_n hx hb dX10_saysOne_36 rfl (lv_at hl 1 rfl) ?_
  refine tg_mem (ci := 10) (C := RX10) (T := TX10) (N := 49) hx hb hts inX10 hown hK hw 44 m_b_3 rfl (by decide) (hts _ tw_1181) (fun _ h9 => h9) dX10_saysOne_37 ?_
  refine lv_iload hx hb dX10_saysOne_40 (lv_at hl 0 rfl) ?_
  refine lv_iconst (v := 3) hx hb dX10_saysOne_42 (by decide) ?_
  refine lv_iadd hx hb dX10_saysOne_43 (lv_topi (fun v_6 e_v_6 => ?_))
  obtain ⟨t_v_6, r_v_6⟩ := tq_add (lo := 3) (hi := 159) r_v_2 rl_3 (by decide +kernel) e_v_6
  have t_v_6 : v_6.toInt = v_2.toInt + 3 := t_v_6
  refine lv_iload hx hb dX10_saysOne_44 (lv_at hl 5 rfl) ?_
  refine tg_iast hx hb hK hw h_b_3 rfl 3 159 r_v_6 (by decide) r_p4 (by exact fun _ _ _ => by decide) (fun _ _ _ _ _ => Or.inl rfl) (by decide) dX10_saysOne_46 (fun ws H locs hw hF9 hU9 => ?_)
  have x_S3_p0_vu_1_p1_p2_p3 : AX 44 54 (fun f => SYp vu_1 f ∧ f (4 * Int32.toNatClampNeg vu_1) = p1 ∧ f (4 * Int32.toNatClampNeg vu_1 + 1) = p2 ∧ f (4 * Int32.toNatClampNeg vu_1 + 2) = p3) Ps ws p0 := AX.ast hF9 hU9 x_S3_p0_vu_1_p1_p2_p3 m_b_3 (fun f9 h9 => by have j9 : Int32.toNatClampNeg v_6 = 4 * Int32.toNatClampNeg vu_1 + 3 := (by have k1 := r_v_6.cl (by decide); have k2 := r_vu_1.cl (by decide); omega); exact ⟨SY_upd h9.1 (by omega), by rw [pk_un (by omega)]; exact h9.2.1, by rw [pk_un (by omega)]; exact h9.2.2.1, by rw [pk_un (by omega)]; exact h9.2.2.2⟩)
  have x_SNI_p0_gd_gh_gg := SNI.over hF9 x_SNI_p0_gd_gh_gg (by decide)
  have x_LTN_p0_p2 := LTN.over hF9 x_LTN_p0_p2 (by decide)
  have m_u_1 := FLD.over hF9 m_u_1 (by decide)
  have ho9 := FLD.over hF9 ho9 (by decide)
  have m_b_3 := FLD.over hF9 m_b_3 (by decide)
  have hw := WD.back hw h_b_3 rfl (fun f9 q9 => SY_end (AX.arr hw x_S3_p0_vu_1_p1_p2_p3 m_b_3 f9 q9) (by have q1 := LTN.get hw x_LTN_p0_p2 m_u_1; have k1 := r_p1.1; have k2 := r_p1.2; exact ⟨fun e9 => by omega, fun e9 => by omega⟩) r_vu_1.1)
  refine lv_aload_n hx hb dX10_saysOne_47 rfl (lv_at hl 1 rfl) ?_
  refine lv_dup hx hb dX10_saysOne_48 rfl ?_
  refine tg_mem (ci := 10) (C := RX10) (T := TX10) (N := 49) hx hb hts inX10 hown hK hw 45 m_u_1 rfl (by decide) (hts _ tw_1182) (fun _ h9 => h9) dX10_saysOne_49 ?_
  refine lv_iconst (v := 1) hx hb dX10_saysOne_52 (by decide) ?_
  refine lv_iadd hx hb dX10_saysOne_53 (lv_topi (fun v_7 e_v_7 => ?_))
  obtain ⟨t_v_7, r_v_7⟩ := tq_add (lo := 1) (hi := 40) r_vu_1 rl_1 (by decide +kernel) e_v_7
  have t_v_7 : v_7.toInt = vu_1.toInt + 1 := t_v_7
  refine tg_put (ci := 10) (ts := ty_MODEL) (v := .int v_7) (ty := .int) (C := RX10) (T := TX10) (N := 49) hx hb hts inX10 tyX10 tyX10_ok nmX10 hown hK hw h_p0 rfl rfl 45 (by decide) (hts _ tw_1182) (fun _ h9 => h9) rfl (by decide +kernel) rfl rfl (ft := vI (-2147483648) 2147483647) rfl ⟨_, rfl, (r_v_7.to (by decide))⟩ (by decide) dX10_saysOne_54 (fun ws H locs hw n_k_8 hF9 => ?_)
  have ho9 := FLD.over hF9 ho9 (by decide)
  have m_b_3 := FLD.over hF9 m_b_3 (by decide)
  have x_S3_p0_vu_1_p1_p2_p3 := AX.over hF9 x_S3_p0_vu_1_p1_p2_p3 (by decide)
  refine lv_aload_n hx hb dX10_saysOne_57 rfl (lv_at hl 1 rfl) ?_
  refine tg_mem (ci := 10) (C := RX10) (T := TX10) (N := 49) hx hb hts inX10 hown hK hw 45 n_k_8 rfl (by decide) (hts _ tw_1182) (fun _ h9 => h9) dX10_saysOne_58 ?_
  refine lv_iconst (v := 1) hx hb dX10_saysOne_61 (by decide) ?_
  refine lv_isub hx hb dX10_saysOne_62 (lv_topi (fun v_9 e_v_9 => ?_))
  obtain ⟨t_v_9, r_v_9⟩ := tq_sub (lo := 0) (hi := 39) r_v_7 rl_1 (by decide +kernel) e_v_9
  have t_v_9 : v_9.toInt = v_7.toInt - 1 := t_v_9
  have x_SNL_p0_gd_gh_gg_v_9 : SNL ws p0 (gd) (gh) (gg) (v_9) := ⟨_, _, n_k_8, ho9, by have k1 := r_v_7.1; omega, by have k1 := r_v_9.1; omega, by omega⟩
  subst hQ
  exact W.iret (v := v_9) hx hb hr (fun t ht hW => ⟨⟨v_9, ws, rfl, ⟨⟨r_v_9.to (by decide), (fun h0 => trivial), (fun h0 => trivial), ⟨x_SNL_p0_gd_gh_gg_v_9, trivial⟩, (fun _ => trivial), (fun _ => trivial)⟩, hw.1, hw.2.2.2.2.1⟩, by rw [ht]; exact hw.2.1, va_K.moved hW.alike hK, hw.2.2.1⟩, hw.2.2.2.1.F ht⟩) hw.2.2.2.1.2.2 dX10_saysOne_63
abbrev wr_X10_readNot__1 : List (Nat × Nat) := [(10, 5), (10, 6), (10, 7), (10, 8), (10, 9), (10, 10), (10, 11), (10, 12), (10, 13), (10, 45), (10, 46), (10, 47), (10, 48)]
abbrev wa_X10_readNot__1 : List Nat := [54]
set_option maxHeartbeats 4000000 in
set_option maxRecDepth 100000 in
theorem c_X10_readNot__1 (l : Launch) (D : va_G) (cy : Nat → ClassId) (z : Nat → Nat) (sz : Nat) (Ps : PSI) (w0 : va_W) (hT : HT cy GG Ps w0) (p0 : Nat) (f0_47 : Int32) (gd : Int) (gh : Int) (gg : Int) (h_p0 : (p0, 55) ∈ Ps) (r_f0_47 : RI f0_47 7 7) (m_f0_47 : FLD w0 p0 10 47 (.int f0_47)) (x_SNI_p0_gd_gh_gg : SNI w0 p0 (gd) (gh) (gg)) : Met l yX10_readNot (Cond.code yX10_readNot cX10_readNot 1 (some .boolean) :: gT) ({ frames := 9, cells := 0, slots := 0, locals := 1800 } : Room) (va_Pc [.ref p0] (PRE D cy z w0 sz)) (va_Qi (fun (r : Int32) (u : va_W) => (RI r 0 1 ∧ (r = 0 → (∃ v9 : Int32, FLD u p0 10 47 (.int v9) ∧ RI v9 7 7) ∧ True) ∧ (¬ r = 0 → (∃ v9 : Int32, FLD u p0 10 46 (.int v9) ∧ RI v9 1 20) ∧ (∃ v9 : Int32, FLD u p0 10 47 (.int v9) ∧ RI v9 7 7) ∧ (∃ v9 : Int32, FLD u p0 10 48 (.int v9) ∧ RI v9 0 39) ∧ SNT u p0 (gd) (gh) (gg) ∧ True)) ∧ HT cy GG Ps u ∧ FR wr_X10_readNot__1 wa_X10_readNot__1 Ps w0 u) (BB D cy (va_A w0 sz) (fun (u : va_W) => u)) (va_A w0 sz)) 0 0 (va_A w0 sz) := by
  refine Met.ofW (cc := cX10_readNot) (maxL := 1) (ret := (some .boolean)) (by decide) rfl ?_
  intro p e s m args below meth c s₁ B hml hv
  obtain ⟨rfl, hsz, hP, hK, hD0, hSD⟩ := hv
  have hx := B.exec
  have hb := B.bytes
  have hr := B.returns
  have hlocks := B.notSynchronized
  have hts : ∀ w ∈ gT, w.before _ s = true := fun w h => atoms_spec (ws := Cond.code yX10_readNot cX10_readNot 1 (some .boolean) :: gT) B.pre w (List.mem_cons_of_mem _ h)
  have hown : s.vm.findClass RX10 = some m.cls := findClass_of_methodNamed B.named
  subst hsz
  have hD := hD0.self (sz := s.heap.size)
  generalize hAe : va_A w0 s.heap.size = A at hD hSD ⊢
  have hA : ∀ q : Nat, s.heap.size ≤ q → A q := fun q h => by rw [← hAe]; exact Or.inr h
  have hl := lv_entry ([.ref p0]) (n := 1) (Nat.le_of_ble_eq_true rfl)
  rw [lg_entry_eq]
  generalize (lg_sl ([.ref p0]) ++ List.replicate (1 - (lg_sl ([.ref p0])).length) Slot.unset).toArray = ls at hl ⊢
  have hl : lv_has ls 1 [(0, .ref p0)] := hl
  refine nameQ (fun Q hQ => ?_)
  have hw : WD D cy GG A s wr_X10_readNot__1 wa_X10_readNot__1 Ps w0 Ps w0 s.heap [] := ⟨hT, hP, hD, va_S.rf, FR.rf, hT.1, [], (List.append_nil _).symm⟩
  refine lv_aload_n hx hb dX10_readNot_0 rfl (lv_at hl 0 rfl) ?_
  have x_SN_p0_gd_1_gh_gg : SNp w0 p0 (gd+1) (gh) (gg) := x_SNI_p0_gd_gh_gg.2
  refine tk_i (va_runV (As := []) (rest := []) ⟨hx, hb, hml, hown, hts⟩ (c_X10_readSaid__7 l D cy z s.heap.size Ps w0 hw.1 p0 f0_47 (gd+1) (gh) (gg) h_p0 r_f0_47 m_f0_47 x_SN_p0_gd_1_gh_gg) (cwV 0 hts (gV tw_1759 tw_1761 ts_113 tw_15 tw_1762) rfl rfl rfl (by decide +kernel) ⟨Nat.le_of_ble_eq_true rfl, Nat.le_of_ble_eq_true rfl⟩) (tg_preV hw hK hSD hA (ci := 10) (q := (RX10, TX10, 49)) rfl h_p0 rfl) rfl rfl hl.1 rfl (lv_room (Nat.le_of_ble_eq_true rfl)) dX10_readNot_1 ⟨Nat.le_of_ble_eq_true rfl, Nat.le_of_ble_eq_true rfl⟩) hw hA ⟨by decide, by decide⟩ (fun v_1 ws H locs hp_v_1 hw hF9 => ?_)
  have r_v_1 : RI v_1 0 1 := hp_v_1.1
  by_cases c9_v_1 : v_1 = 0
  · have r_v_1 : RI v_1 0 0 := by rw [c9_v_1]; exact rl_0
    obtain ⟨v_2, m_v_2, r_v_2⟩ := ((hp_v_1.2.1 c9_v_1).1)
    refine lv_if_ne (tgt := 9) hx hb dX10_readNot_4 (by decide) (fun c_4 => ?_) (fun c_4 => ?_)
    · exact absurd (r_v_1.eq.trans rl_0.eq.symm) ((ti_ne c_4))
    · refine lv_iconst (v := 0) hx hb dX10_readNot_7 (by decide) ?_
      subst hQ
      exact W.zret (v := 0) hx hb hr (rfl) (fun t ht hW => ⟨⟨0, ws, rfl, ⟨⟨rl_0.to (by decide), (fun h0 => ⟨⟨_, m_v_2, r_v_2⟩, trivial⟩), (fun h0 => absurd rfl h0)⟩, hw.1, hw.2.2.2.2.1⟩, by rw [ht]; exact hw.2.1, va_K.moved hW.alike hK, hw.2.2.1⟩, hw.2.2.2.1.F ht⟩) hw.2.2.2.1.2.2 dX10_readNot_8
  · have r_v_1 : RI v_1 1 1 := rc_neL r_v_1 rl_0 (ti_ne c9_v_1) (by decide)
    obtain ⟨v_3, m_v_3, r_v_3⟩ := ((hp_v_1.2.2 c9_v_1).1)
    obtain ⟨v_4, m_v_4, r_v_4⟩ := ((hp_v_1.2.2 c9_v_1).2.1)
    obtain ⟨v_5, m_v_5, r_v_5⟩ := ((hp_v_1.2.2 c9_v_1).2.2.1)
    have x_SNT_p0_gd_2_gh_1_gg := ((hp_v_1.2.2 c9_v_1).2.2.2.1)
    refine lv_if_ne (tgt := 9) hx hb dX10_readNot_4 (by decide) (fun c_4 => ?_) (fun c_4 => ?_)
    · refine lv_aload_n hx hb dX10_readNot_9 rfl (lv_at hl 0 rfl) ?_
      refine lv_aload_n hx hb dX10_readNot_10 rfl (lv_at hl 0 rfl) ?_
      refine lv_iconst (v := 1) hx hb dX10_readNot_11 (by decide) ?_
      refine lv_aload_n hx hb dX10_readNot_12 rfl (lv_at hl 0 rfl) ?_
      refine tg_mem (ci := 10) (C := RX10) (T := TX10) (N := 49) hx hb hts inX10 hown hK hw 48 m_v_4 rfl (by decide) (hts _ tw_1185) (fun _ h9 => h9) dX10_readNot_13 ?_
      refine lv_iconst (v := 0) hx hb dX10_readNot_16 (by decide) ?_
      refine lv_iconst (v := 0) hx hb dX10_readNot_17 (by decide) ?_
      have l9 := SNT.top hw x_SNT_p0_gd_2_gh_1_gg m_v_4
      have l8 := l9.le
      have x_SNI_p0_gd_1_gh_1_gg : SNI ws p0 (gd+1) (gh+1) (gg) := SNp.sni (SNT.sn x_SNT_p0_gd_2_gh_1_gg) (by have d_8 := SNp.le x_SNI_p0_gd_gh_gg.2; have d_7 := x_SNI_p0_gd_gh_gg.1; omega)
      have x_LTN_p0_v_4 : LTN ws p0 (v_4) := l9.ltn
      refine tk_i (va_runV (As := [.int 1, .int v_4, .int 0, .int 0]) (rest := [.ref p0]) ⟨hx, hb, hml, hown, hts⟩ (c_X10_saysOne__2 l D cy z H.size Ps ws hw.1 p0 1 v_4 0 0 (gd+1) (gh+1) (gg) h_p0 rl_1 (r_v_4.to (by decide)) (rl_0.to (by decide)) (rl_0.to (by decide)) x_SNI_p0_gd_1_gh_1_gg x_LTN_p0_v_4) (cwV 4 hts (gV tw_1771 tw_1773 ts_116 tw_15 tw_1774) rfl rfl rfl (by decide +kernel) ⟨Nat.le_of_ble_eq_true rfl, Nat.le_of_ble_eq_true rfl⟩) (tg_preV hw hK hSD hA (ci := 10) (q := (RX10, TX10, 49)) rfl h_p0 rfl) rfl rfl hl.1 rfl (lv_room (Nat.le_of_ble_eq_true rfl)) dX10_readNot_18 ⟨Nat.le_of_ble_eq_true rfl, Nat.le_of_ble_eq_true rfl⟩) hw hA ⟨by decide, by decide⟩ (fun v_6 ws H locs hp_v_6 hw hF9 => ?_)
      have m_v_3 := FLD.over hF9 m_v_3 (by decide)
      have m_v_4 := FLD.over hF9 m_v_4 (by decide)
      have m_v_5 := FLD.over hF9 m_v_5 (by decide)
      have r_v_6 : RI v_6 0 39 := hp_v_6.1
      have x_SNL_p0_gd_1_gh_1_gg_v_6 := hp_v_6.2.2.2.1.1
      refine tg_put (ci := 10) (ts := ty_MODEL) (v := .int v_6) (ty := .int) (C := RX10) (T := TX10) (N := 49) hx hb hts inX10 tyX10 tyX10_ok nmX10 hown hK hw h_p0 rfl rfl 48 (by decide) (hts _ tw_1185) (fun _ h9 => h9) rfl (by decide +kernel) rfl rfl (ft := vI (-2147483648) 2147483647) rfl ⟨_, rfl, (r_v_6.to (by decide))⟩ (by decide) dX10_readNot_21 (fun ws H locs hw n_k_7 hF9 => ?_)
      have m_v_3 := FLD.over hF9 m_v_3 (by decide)
      have m_v_5 := FLD.over hF9 m_v_5 (by decide)
      have x_SNL_p0_gd_1_gh_1_gg_v_6 := SNL.over hF9 x_SNL_p0_gd_1_gh_1_gg_v_6 (by decide)
      have x_SNT_p0_gd_gh_gg : SNT ws p0 (gd) (gh) (gg) := (x_SNL_p0_gd_1_gh_1_gg_v_6.weak (d' := gd) (h' := gh) (g' := gg) (by have k1 := x_SNL_p0_gd_1_gh_1_gg_v_6.le; have d_8 := SNp.le x_SNI_p0_gd_gh_gg.2; have d_7 := x_SNI_p0_gd_gh_gg.1; omega)).snt n_k_7
      refine lv_iconst (v := 1) hx hb dX10_readNot_24 (by decide) ?_
      subst hQ
      exact W.zret (v := 1) hx hb hr (rfl) (fun t ht hW => ⟨⟨1, ws, rfl, ⟨⟨rl_1.to (by decide), (fun h0 => absurd h0 (by decide)), (fun h0 => ⟨⟨_, m_v_3, r_v_3⟩, ⟨_, m_v_5, r_v_5⟩, ⟨_, n_k_7, r_v_6⟩, x_SNT_p0_gd_gh_gg, trivial⟩)⟩, hw.1, hw.2.2.2.2.1⟩, by rw [ht]; exact hw.2.1, va_K.moved hW.alike hK, hw.2.2.1⟩, hw.2.2.2.1.F ht⟩) hw.2.2.2.1.2.2 dX10_readNot_25
    · have r_v_1 : RI v_1 1 0 := rc_eq1 r_v_1 rl_0 (ti_eq c_4) (by decide)
      exact (r_v_1.no (by decide)).elim
abbrev wr_X10_readSaid__6 : List (Nat × Nat) := [(10, 5), (10, 6), (10, 7), (10, 8), (10, 9), (10, 10), (10, 11), (10, 12), (10, 13), (10, 45), (10, 46), (10, 47), (10, 48)]
abbrev wa_X10_readSaid__6 : List Nat := [54]
set_option maxHeartbeats 4000000 in
set_option maxRecDepth 100000 in
theorem c_X10_readSaid__6 (l : Launch) (D : va_G) (cy : Nat → ClassId) (z : Nat → Nat) (sz : Nat) (Ps : PSI) (w0 : va_W) (hT : HT cy GG Ps w0) (p0 : Nat) (f0_47 : Int32) (gd : Int) (gh : Int) (gg : Int) (h_p0 : (p0, 55) ∈ Ps) (r_f0_47 : RI f0_47 6 6) (m_f0_47 : FLD w0 p0 10 47 (.int f0_47)) (x_SN_p0_gd_gh_gg : SNp w0 p0 (gd) (gh) (gg)) : Met l yX10_readSaid (Cond.code yX10_readSaid cX10_readSaid 4 (some .boolean) :: gT) ({ frames := 12, cells := 0, slots := 0, locals := 2400 } : Room) (va_Pc [.ref p0] (PRE D cy z w0 sz)) (va_Qi (fun (r : Int32) (u : va_W) => (RI r 0 1 ∧ (r = 0 → (∃ v9 : Int32, FLD u p0 10 47 (.int v9) ∧ RI v9 6 6) ∧ True) ∧ (¬ r = 0 → (∃ v9 : Int32, FLD u p0 10 46 (.int v9) ∧ RI v9 1 20) ∧ (∃ v9 : Int32, FLD u p0 10 48 (.int v9) ∧ RI v9 0 39) ∧ (∃ v9 : Int32, FLD u p0 10 47 (.int v9) ∧ RI v9 6 6) ∧ SNT u p0 (gd+1) (gh+1) (gg) ∧ True)) ∧ HT cy GG Ps u ∧ FR wr_X10_readSaid__6 wa_X10_readSaid__6 Ps w0 u) (BB D cy (va_A w0 sz) (fun (u : va_W) => u)) (va_A w0 sz)) 0 0 (va_A w0 sz) := by
  refine Met.ofW (cc := cX10_readSaid) (maxL := 4) (ret := (some .boolean)) (by decide) rfl ?_
  intro p e s m args below meth c s₁ B hml hv
  obtain ⟨rfl, hsz, hP, hK, hD0, hSD⟩ := hv
  have hx := B.exec
  have hb := B.bytes
  have hr := B.returns
  have hlocks := B.notSynchronized
  have hts : ∀ w ∈ gT, w.before _ s = true := fun w h => atoms_spec (ws := Cond.code yX10_readSaid cX10_readSaid 4 (some .boolean) :: gT) B.pre w (List.mem_cons_of_mem _ h)
  have hown : s.vm.findClass RX10 = some m.cls := findClass_of_methodNamed B.named
  subst hsz
  have hD := hD0.self (sz := s.heap.size)
  generalize hAe : va_A w0 s.heap.size = A at hD hSD ⊢
  have hA : ∀ q : Nat, s.heap.size ≤ q → A q := fun q h => by rw [← hAe]; exact Or.inr h
  have hl := lv_entry ([.ref p0]) (n := 4) (Nat.le_of_ble_eq_true rfl)
  rw [lg_entry_eq]
  generalize (lg_sl ([.ref p0]) ++ List.replicate (4 - (lg_sl ([.ref p0])).length) Slot.unset).toArray = ls at hl ⊢
  have hl : lv_has ls 4 [(0, .ref p0)] := hl
  refine nameQ (fun Q hQ => ?_)
  have hw : WD D cy GG A s wr_X10_readSaid__6 wa_X10_readSaid__6 Ps w0 Ps w0 s.heap [] := ⟨hT, hP, hD, va_S.rf, FR.rf, hT.1, [], (List.append_nil _).symm⟩
  have B30 : ∀ (x1 : Int32) (x2 : Int32) (z0_47 : Int32) (ws : va_W) (H : Heap) (locs : List Loc) (ls : Array Slot), RI x1 0 1 → RI x2 18 28 → RI z0_47 6 6 → FLD ws p0 10 47 (.int z0_47) → SNp ws p0 (gd) (gh) (gg) → WD D cy GG A s wr_X10_readSaid__6 wa_X10_readSaid__6 Ps w0 Ps ws H locs → lv_has ls 4 [(0, .ref p0), (1, .int x1), (2, .int x2)] → W p l e (headSpec (Cond.code yX10_readSaid cX10_readSaid 4 (some .boolean) :: gT) ({ frames := 12, cells := 0, slots := 0, locals := 2400 } : Room)).room s m ([.ref p0] : List Value).toArray below meth c H locs 0 0 Q (F0 m 30 ls []) := by
    intro x1 x2 z0_47 ws H locs ls r_x1 r_x2 r_z0_47 m_z0_47 x_SN_p0_gd_gh_gg hw hl
    refine lv_iload_n hx hb dX10_readSaid_30 rfl (lv_at hl 1 rfl) ?_
    refine lv_if_ne (tgt := 46) hx hb dX10_readSaid_31 (by decide) (fun c_31 => ?_) (fun c_31 => ?_)
    · have r_x1 : RI x1 1 1 := rc_neL r_x1 rl_0 (ti_ne c_31) (by decide)
      refine lv_aload_n hx hb dX10_readSaid_46 rfl (lv_at hl 0 rfl) ?_
      refine tg_get (ci := 10) (ts := ty_MODEL) (C := RX10) (T := TX10) (N := 49) hx hb hts inX10 hown hK hw h_p0 rfl rfl 46 (by decide) (hts _ tw_1183) (fun _ h9 => h9) (ft := vI (-2147483648) 2147483647) rfl dX10_readSaid_47 (fun u_1 hv_u_1 m_u_1 => ?_)
      obtain ⟨vu_1, rfl, r_vu_1⟩ := hv_u_1
      obtain ⟨n9, hn9, rn9, r_vu_1, b9⟩ := SNp.getO hw x_SN_p0_gd_gh_gg m_u_1
      refine lv_bipush (v := 20) hx hb dX10_readSaid_50 (by decide) ?_
      refine lv_icmp_eq (tgt := 64) hx hb dX10_readSaid_52 (by decide) (fun c_52 => ?_) (fun c_52 => ?_)
      · have r_vu_1 : RI vu_1 20 20 := rc_eq1 r_vu_1 rl_20 (ti_eq c_52) (by decide)
        refine lv_aload_n hx hb dX10_readSaid_64 rfl (lv_at hl 0 rfl) ?_
        refine lv_iconst (v := 4) hx hb dX10_readSaid_65 (by decide) ?_
        refine tk_i (va_runV (As := [.int 4]) (rest := []) ⟨hx, hb, hml, hown, hts⟩ (c_X10_bad l D cy z H.size Ps ws hw.1 p0 4 h_p0 (rl_4.to (by decide))) (cwV 1 hts (gV tw_1336 tw_1338 ts_46 tw_15 tw_1339) rfl rfl rfl (by decide +kernel) ⟨Nat.le_of_ble_eq_true rfl, Nat.le_of_ble_eq_true rfl⟩) (tg_preV hw hK hSD hA (ci := 10) (q := (RX10, TX10, 49)) rfl h_p0 rfl) rfl rfl hl.1 rfl (lv_room (Nat.le_of_ble_eq_true rfl)) dX10_readSaid_66 ⟨Nat.le_of_ble_eq_true rfl, Nat.le_of_ble_eq_true rfl⟩) hw hA ⟨by decide, by decide⟩ (fun v_2 ws H locs hp_v_2 hw hF9 => ?_)
        have m_z0_47 := FLD.over hF9 m_z0_47 (by decide)
        have m_u_1 := FLD.over hF9 m_u_1 (by decide)
        have hn9 := FLD.over hF9 hn9 (by decide)
        have x_SN_p0_gd_gh_gg := SNp.over hF9 x_SN_p0_gd_gh_gg (by decide)
        have r_v_2 : RI v_2 0 0 := hp_v_2.1
        subst hQ
        exact W.zret (v := v_2) hx hb hr (tq_nz (r_v_2.to (by decide))) (fun t ht hW => ⟨⟨v_2, ws, rfl, ⟨⟨r_v_2.to (by decide), (fun h0 => ⟨⟨_, m_z0_47, r_z0_47⟩, trivial⟩), (fun h0 => absurd (Int32.toInt_inj.mp (by have h8 := r_v_2; unfold RI at h8; rw [Int32.toInt_zero]; omega)) h0)⟩, hw.1, hw.2.2.2.2.1⟩, by rw [ht]; exact hw.2.1, va_K.moved hW.alike hK, hw.2.2.1⟩, hw.2.2.2.1.F ht⟩) hw.2.2.2.1.2.2 dX10_readSaid_69
      · have r_vu_1 : RI vu_1 0 19 := rc_neU r_vu_1 rl_20 (ti_ne c_52) (by decide)
        refine lv_aload_n hx hb dX10_readSaid_55 rfl (lv_at hl 0 rfl) ?_
        refine tg_mem (ci := 10) (C := RX10) (T := TX10) (N := 49) hx hb hts inX10 hown hK hw 47 m_z0_47 rfl (by decide) (hts _ tw_1184) (fun _ h9 => h9) dX10_readSaid_56 ?_
        refine lv_bipush (v := 8) hx hb dX10_readSaid_59 (by decide) ?_
        refine lv_icmp_ne (tgt := 70) hx hb dX10_readSaid_61 (by decide) (fun c_61 => ?_) (fun c_61 => ?_)
        · refine lv_aload_n hx hb dX10_readSaid_70 rfl (lv_at hl 0 rfl) ?_
          refine lv_dup hx hb dX10_readSaid_71 rfl ?_
          refine tg_mem (ci := 10) (C := RX10) (T := TX10) (N := 49) hx hb hts inX10 hown hK hw 46 m_u_1 rfl (by decide) (hts _ tw_1183) (fun _ h9 => h9) dX10_readSaid_72 ?_
          refine lv_iconst (v := 1) hx hb dX10_readSaid_75 (by decide) ?_
          refine lv_iadd hx hb dX10_readSaid_76 (lv_topi (fun v_3 e_v_3 => ?_))
          obtain ⟨t_v_3, r_v_3⟩ := tq_add (lo := 1) (hi := 20) r_vu_1 rl_1 (by decide +kernel) e_v_3
          have t_v_3 : v_3.toInt = vu_1.toInt + 1 := t_v_3
          refine tg_put (ci := 10) (ts := ty_MODEL) (v := .int v_3) (ty := .int) (C := RX10) (T := TX10) (N := 49) hx hb hts inX10 tyX10 tyX10_ok nmX10 hown hK hw h_p0 rfl rfl 46 (by decide) (hts _ tw_1183) (fun _ h9 => h9) rfl (by decide +kernel) rfl rfl (ft := vI (-2147483648) 2147483647) rfl ⟨_, rfl, (r_v_3.to (by decide))⟩ (by decide) dX10_readSaid_77 (fun ws H locs hw n_k_4 hF9 => ?_)
          have m_z0_47 := FLD.over hF9 m_z0_47 (by decide)
          have hn9 := FLD.over hF9 hn9 (by decide)
          have x_SNI_p0_gd_1_gh_1_gg : SNI ws p0 (gd+1) (gh+1) (gg) := ⟨by omega, _, _, hn9, n_k_4, by have k1 := rn9.1; have k2 := r_v_3.2; omega⟩
          refine lv_aload_n hx hb dX10_readSaid_80 rfl (lv_at hl 0 rfl) ?_
          refine lv_dup hx hb dX10_readSaid_81 rfl ?_
          refine tg_mem (ci := 10) (C := RX10) (T := TX10) (N := 49) hx hb hts inX10 hown hK hw 47 m_z0_47 rfl (by decide) (hts _ tw_1184) (fun _ h9 => h9) dX10_readSaid_82 ?_
          refine lv_iconst (v := 1) hx hb dX10_readSaid_85 (by decide) ?_
          refine lv_iadd hx hb dX10_readSaid_86 (lv_topi (fun v_5 e_v_5 => ?_))
          obtain ⟨t_v_5, r_v_5⟩ := tq_add (lo := 7) (hi := 7) r_z0_47 rl_1 (by decide +kernel) e_v_5
          have t_v_5 : v_5.toInt = z0_47.toInt + 1 := t_v_5
          refine tg_put (ci := 10) (ts := ty_MODEL) (v := .int v_5) (ty := .int) (C := RX10) (T := TX10) (N := 49) hx hb hts inX10 tyX10 tyX10_ok nmX10 hown hK hw h_p0 rfl rfl 47 (by decide) (hts _ tw_1184) (fun _ h9 => h9) rfl (by decide +kernel) rfl rfl (ft := vI (-2147483648) 2147483647) rfl ⟨_, rfl, (r_v_5.to (by decide))⟩ (by decide) dX10_readSaid_87 (fun ws H locs hw n_k_6 hF9 => ?_)
          have hn9 := FLD.over hF9 hn9 (by decide)
          have n_k_4 := FLD.over hF9 n_k_4 (by decide)
          have x_SNI_p0_gd_1_gh_1_gg := SNI.over hF9 x_SNI_p0_gd_1_gh_1_gg (by decide)
          refine lv_aload_n hx hb dX10_readSaid_90 rfl (lv_at hl 0 rfl) ?_
          refine tk_v (va_runV (As := []) (rest := []) ⟨hx, hb, hml, hown, hts⟩ (c_X10_go l D cy z H.size Ps ws hw.1 p0 h_p0) (cwV 0 hts (gV tw_1298 tw_1300 ts_40 tw_15 tw_1301) rfl rfl rfl (by decide +kernel) ⟨Nat.le_of_ble_eq_true rfl, Nat.le_of_ble_eq_true rfl⟩) (tg_preV hw hK hSD hA (ci := 10) (q := (RX10, TX10, 49)) rfl h_p0 rfl) rfl rfl hl.1 rfl (lv_room (Nat.le_of_ble_eq_true rfl)) dX10_readSaid_91 ⟨Nat.le_of_ble_eq_true rfl, Nat.le_of_ble_eq_true rfl⟩) hw hA ⟨by decide, by decide⟩ (fun ws H locs hp_v_7 hw hF9 => ?_)
          have hn9 := FLD.over hF9 hn9 (by decide)
          have n_k_4 := FLD.over hF9 n_k_4 (by decide)
          have n_k_6 := FLD.over hF9 n_k_6 (by decide)
          have x_SNI_p0_gd_1_gh_1_gg := SNI.over hF9 x_SNI_p0_gd_1_gh_1_gg (by decide)
          refine lv_iconst (v := 1) hx hb dX10_readSaid_94 (by decide) ?_
          refine lv_istore_n (lv' := [(3, .int 1), (0, .ref p0), (1, .int x1), (2, .int x2)]) hx hb dX10_readSaid_95 rfl hl (by decide) rfl (fun ls hl => ?_)
          refine lv_iload_n hx hb dX10_readSaid_96 rfl (lv_at hl 2 rfl) ?_
          refine lv_if_eq (tgt := 108) hx hb dX10_readSaid_97 (by decide) (fun c_97 => ?_) (fun c_97 => ?_)
          · have r_x1 : RI x1 1 0 := rc_eq1 r_x1 rl_0 (ti_eq c_97) (by decide)
            exact (r_x1.no (by decide)).elim
          · refine lv_aload_n hx hb dX10_readSaid_100 rfl (lv_at hl 1 rfl) ?_
            refine tk_i (va_runV (As := []) (rest := []) ⟨hx, hb, hml, hown, hts⟩ (c_X10_readBracket__6 l D cy z H.size Ps ws hw.1 p0 v_5 (gd+1) (gh+1) (gg) h_p0 r_v_5 n_k_6 x_SNI_p0_gd_1_gh_1_gg) (cwV 0 hts (gV tw_1763 tw_1765 ts_114 tw_15 tw_1766) rfl rfl rfl (by decide +kernel) ⟨Nat.le_of_ble_eq_true rfl, Nat.le_of_ble_eq_true rfl⟩) (tg_preV hw hK hSD hA (ci := 10) (q := (RX10, TX10, 49)) rfl h_p0 rfl) rfl rfl hl.1 rfl (lv_room (Nat.le_of_ble_eq_true rfl)) dX10_readSaid_101 ⟨Nat.le_of_ble_eq_true rfl, Nat.le_of_ble_eq_true rfl⟩) hw hA ⟨by decide, by decide⟩ (fun v_8 ws H locs hp_v_8 hw hF9 => ?_)
            have r_v_8 : RI v_8 0 1 := hp_v_8.1
            by_cases c9_v_8 : v_8 = 0
            · have r_v_8 : RI v_8 0 0 := by rw [c9_v_8]; exact rl_0
              obtain ⟨v_9, m_v_9, r_v_9⟩ := ((hp_v_8.2.1 c9_v_8).1)
              refine lv_istore_n (lv' := [(3, .int v_8), (0, .ref p0), (1, .int x1), (2, .int x2)]) hx hb dX10_readSaid_104 rfl hl (by decide) rfl (fun ls hl => ?_)
              refine lv_goto (tgt := 166) hx hb dX10_readSaid_105 (by decide) ?_
              refine lv_aload_n hx hb dX10_readSaid_166 rfl (lv_at hl 1 rfl) ?_
              refine lv_dup hx hb dX10_readSaid_167 rfl ?_
              refine tg_mem (ci := 10) (C := RX10) (T := TX10) (N := 49) hx hb hts inX10 hown hK hw 47 m_v_9 rfl (by decide) (hts _ tw_1184) (fun _ h9 => h9) dX10_readSaid_168 ?_
              refine lv_iconst (v := 1) hx hb dX10_readSaid_171 (by decide) ?_
              refine lv_isub hx hb dX10_readSaid_172 (lv_topi (fun v_10 e_v_10 => ?_))
              obtain ⟨t_v_10, r_v_10⟩ := tq_sub (lo := 6) (hi := 6) r_v_9 rl_1 (by decide +kernel) e_v_10
              have t_v_10 : v_10.toInt = v_9.toInt - 1 := t_v_10
              refine tg_put (ci := 10) (ts := ty_MODEL) (v := .int v_10) (ty := .int) (C := RX10) (T := TX10) (N := 49) hx hb hts inX10 tyX10 tyX10_ok nmX10 hown hK hw h_p0 rfl rfl 47 (by decide) (hts _ tw_1184) (fun _ h9 => h9) rfl (by decide +kernel) rfl rfl (ft := vI (-2147483648) 2147483647) rfl ⟨_, rfl, (r_v_10.to (by decide))⟩ (by decide) dX10_readSaid_173 (fun ws H locs hw n_k_11 hF9 => ?_)
              refine lv_iload_n hx hb dX10_readSaid_176 rfl (lv_at hl 0 rfl) ?_
              subst hQ
              exact W.zret (v := v_8) hx hb hr (tq_nz (r_v_8.to (by decide))) (fun t ht hW => ⟨⟨v_8, ws, rfl, ⟨⟨r_v_8.to (by decide), (fun h0 => ⟨⟨_, n_k_11, r_v_10⟩, trivial⟩), (fun h0 => absurd (Int32.toInt_inj.mp (by have h8 := r_v_8; unfold RI at h8; rw [Int32.toInt_zero]; omega)) h0)⟩, hw.1, hw.2.2.2.2.1⟩, by rw [ht]; exact hw.2.1, va_K.moved hW.alike hK, hw.2.2.1⟩, hw.2.2.2.1.F ht⟩) hw.2.2.2.1.2.2 dX10_readSaid_177
            · have r_v_8 : RI v_8 1 1 := rc_neL r_v_8 rl_0 (ti_ne c9_v_8) (by decide)
              obtain ⟨v_12, m_v_12, r_v_12⟩ := ((hp_v_8.2.2 c9_v_8).1)
              obtain ⟨v_13, m_v_13, r_v_13⟩ := ((hp_v_8.2.2 c9_v_8).2.1)
              obtain ⟨v_14, m_v_14, r_v_14⟩ := ((hp_v_8.2.2 c9_v_8).2.2.1)
              have x_SNT_p0_gd_1_gh_1_gg := ((hp_v_8.2.2 c9_v_8).2.2.2.1)
              refine lv_istore_n (lv' := [(3, .int v_8), (0, .ref p0), (1, .int x1), (2, .int x2)]) hx hb dX10_readSaid_104 rfl hl (by decide) rfl (fun ls hl => ?_)
              refine lv_goto (tgt := 166) hx hb dX10_readSaid_105 (by decide) ?_
              refine lv_aload_n hx hb dX10_readSaid_166 rfl (lv_at hl 1 rfl) ?_
              refine lv_dup hx hb dX10_readSaid_167 rfl ?_
              refine tg_mem (ci := 10) (C := RX10) (T := TX10) (N := 49) hx hb hts inX10 hown hK hw 47 m_v_13 rfl (by decide) (hts _ tw_1184) (fun _ h9 => h9) dX10_readSaid_168 ?_
              refine lv_iconst (v := 1) hx hb dX10_readSaid_171 (by decide) ?_
              refine lv_isub hx hb dX10_readSaid_172 (lv_topi (fun v_15 e_v_15 => ?_))
              obtain ⟨t_v_15, r_v_15⟩ := tq_sub (lo := 6) (hi := 6) r_v_13 rl_1 (by decide +kernel) e_v_15
              have t_v_15 : v_15.toInt = v_13.toInt - 1 := t_v_15
              refine tg_put (ci := 10) (ts := ty_MODEL) (v := .int v_15) (ty := .int) (C := RX10) (T := TX10) (N := 49) hx hb hts inX10 tyX10 tyX10_ok nmX10 hown hK hw h_p0 rfl rfl 47 (by decide) (hts _ tw_1184) (fun _ h9 => h9) rfl (by decide +kernel) rfl rfl (ft := vI (-2147483648) 2147483647) rfl ⟨_, rfl, (r_v_15.to (by decide))⟩ (by decide) dX10_readSaid_173 (fun ws H locs hw n_k_16 hF9 => ?_)
              have m_v_12 := FLD.over hF9 m_v_12 (by decide)
              have m_v_14 := FLD.over hF9 m_v_14 (by decide)
              have x_SNT_p0_gd_1_gh_1_gg := SNT.over hF9 x_SNT_p0_gd_1_gh_1_gg (by decide)
              refine lv_iload_n hx hb dX10_readSaid_176 rfl (lv_at hl 0 rfl) ?_
              subst hQ
              exact W.zret (v := v_8) hx hb hr (tq_nz (r_v_8.to (by decide))) (fun t ht hW => ⟨⟨v_8, ws, rfl, ⟨⟨r_v_8.to (by decide), (fun h0 => absurd (ti_eq h0) (by have h8 := r_v_8; unfold RI at h8; rw [Int32.toInt_zero]; omega)), (fun h0 => ⟨⟨_, m_v_12, r_v_12⟩, ⟨_, m_v_14, r_v_14⟩, ⟨_, n_k_16, r_v_15⟩, x_SNT_p0_gd_1_gh_1_gg, trivial⟩)⟩, hw.1, hw.2.2.2.2.1⟩, by rw [ht]; exact hw.2.1, va_K.moved hW.alike hK, hw.2.2.1⟩, hw.2.2.2.1.F ht⟩) hw.2.2.2.1.2.2 dX10_readSaid_177
        · have r_z0_47 : RI z0_47 8 6 := rc_eq1 r_z0_47 rl_8 (ti_eq c_61) (by decide)
          exact (r_z0_47.no (by decide)).elim
    · have r_x1 : RI x1 0 0 := rc_eq1 r_x1 rl_0 (ti_eq c_31) (by decide)
      refine lv_iload_n hx hb dX10_readSaid_34 rfl (lv_at hl 2 rfl) ?_
      refine lv_bipush (v := 27) hx hb dX10_readSaid_35 (by decide) ?_
      refine lv_icmp_le (tgt := 46) hx hb dX10_readSaid_37 (by decide) (fun c_37 => ?_) (fun c_37 => ?_)
      · have r_x2 : RI x2 18 27 := rc_le1 r_x2 rl_27 (ti_le c_37) (by decide)
        refine lv_aload_n hx hb dX10_readSaid_46 rfl (lv_at hl 0 rfl) ?_
        refine tg_get (ci := 10) (ts := ty_MODEL) (C := RX10) (T := TX10) (N := 49) hx hb hts inX10 hown hK hw h_p0 rfl rfl 46 (by decide) (hts _ tw_1183) (fun _ h9 => h9) (ft := vI (-2147483648) 2147483647) rfl dX10_readSaid_47 (fun u_17 hv_u_17 m_u_17 => ?_)
        obtain ⟨vu_17, rfl, r_vu_17⟩ := hv_u_17
        obtain ⟨n9, hn9, rn9, r_vu_17, b9⟩ := SNp.getO hw x_SN_p0_gd_gh_gg m_u_17
        refine lv_bipush (v := 20) hx hb dX10_readSaid_50 (by decide) ?_
        refine lv_icmp_eq (tgt := 64) hx hb dX10_readSaid_52 (by decide) (fun c_52 => ?_) (fun c_52 => ?_)
        · have r_vu_17 : RI vu_17 20 20 := rc_eq1 r_vu_17 rl_20 (ti_eq c_52) (by decide)
          refine lv_aload_n hx hb dX10_readSaid_64 rfl (lv_at hl 0 rfl) ?_
          refine lv_iconst (v := 4) hx hb dX10_readSaid_65 (by decide) ?_
          refine tk_i (va_runV (As := [.int 4]) (rest := []) ⟨hx, hb, hml, hown, hts⟩ (c_X10_bad l D cy z H.size Ps ws hw.1 p0 4 h_p0 (rl_4.to (by decide))) (cwV 1 hts (gV tw_1336 tw_1338 ts_46 tw_15 tw_1339) rfl rfl rfl (by decide +kernel) ⟨Nat.le_of_ble_eq_true rfl, Nat.le_of_ble_eq_true rfl⟩) (tg_preV hw hK hSD hA (ci := 10) (q := (RX10, TX10, 49)) rfl h_p0 rfl) rfl rfl hl.1 rfl (lv_room (Nat.le_of_ble_eq_true rfl)) dX10_readSaid_66 ⟨Nat.le_of_ble_eq_true rfl, Nat.le_of_ble_eq_true rfl⟩) hw hA ⟨by decide, by decide⟩ (fun v_18 ws H locs hp_v_18 hw hF9 => ?_)
          have m_z0_47 := FLD.over hF9 m_z0_47 (by decide)
          have m_u_17 := FLD.over hF9 m_u_17 (by decide)
          have hn9 := FLD.over hF9 hn9 (by decide)
          have x_SN_p0_gd_gh_gg := SNp.over hF9 x_SN_p0_gd_gh_gg (by decide)
          have r_v_18 : RI v_18 0 0 := hp_v_18.1
          subst hQ
          exact W.zret (v := v_18) hx hb hr (tq_nz (r_v_18.to (by decide))) (fun t ht hW => ⟨⟨v_18, ws, rfl, ⟨⟨r_v_18.to (by decide), (fun h0 => ⟨⟨_, m_z0_47, r_z0_47⟩, trivial⟩), (fun h0 => absurd (Int32.toInt_inj.mp (by have h8 := r_v_18; unfold RI at h8; rw [Int32.toInt_zero]; omega)) h0)⟩, hw.1, hw.2.2.2.2.1⟩, by rw [ht]; exact hw.2.1, va_K.moved hW.alike hK, hw.2.2.1⟩, hw.2.2.2.1.F ht⟩) hw.2.2.2.1.2.2 dX10_readSaid_69
        · have r_vu_17 : RI vu_17 0 19 := rc_neU r_vu_17 rl_20 (ti_ne c_52) (by decide)
          refine lv_aload_n hx hb dX10_readSaid_55 rfl (lv_at hl 0 rfl) ?_
          refine tg_mem (ci := 10) (C := RX10) (T := TX10) (N := 49) hx hb hts inX10 hown hK hw 47 m_z0_47 rfl (by decide) (hts _ tw_1184) (fun _ h9 => h9) dX10_readSaid_56 ?_
          refine lv_bipush (v := 8) hx hb dX10_readSaid_59 (by decide) ?_
          refine lv_icmp_ne (tgt := 70) hx hb dX10_readSaid_61 (by decide) (fun c_61 => ?_) (fun c_61 => ?_)
          · refine lv_aload_n hx hb dX10_readSaid_70 rfl (lv_at hl 0 rfl) ?_
            refine lv_dup hx hb dX10_readSaid_71 rfl ?_
            refine tg_mem (ci := 10) (C := RX10) (T := TX10) (N := 49) hx hb hts inX10 hown hK hw 46 m_u_17 rfl (by decide) (hts _ tw_1183) (fun _ h9 => h9) dX10_readSaid_72 ?_
            refine lv_iconst (v := 1) hx hb dX10_readSaid_75 (by decide) ?_
            refine lv_iadd hx hb dX10_readSaid_76 (lv_topi (fun v_19 e_v_19 => ?_))
            obtain ⟨t_v_19, r_v_19⟩ := tq_add (lo := 1) (hi := 20) r_vu_17 rl_1 (by decide +kernel) e_v_19
            have t_v_19 : v_19.toInt = vu_17.toInt + 1 := t_v_19
            refine tg_put (ci := 10) (ts := ty_MODEL) (v := .int v_19) (ty := .int) (C := RX10) (T := TX10) (N := 49) hx hb hts inX10 tyX10 tyX10_ok nmX10 hown hK hw h_p0 rfl rfl 46 (by decide) (hts _ tw_1183) (fun _ h9 => h9) rfl (by decide +kernel) rfl rfl (ft := vI (-2147483648) 2147483647) rfl ⟨_, rfl, (r_v_19.to (by decide))⟩ (by decide) dX10_readSaid_77 (fun ws H locs hw n_k_20 hF9 => ?_)
            have m_z0_47 := FLD.over hF9 m_z0_47 (by decide)
            have hn9 := FLD.over hF9 hn9 (by decide)
            have x_SNI_p0_gd_1_gh_1_gg : SNI ws p0 (gd+1) (gh+1) (gg) := ⟨by omega, _, _, hn9, n_k_20, by have k1 := rn9.1; have k2 := r_v_19.2; omega⟩
            refine lv_aload_n hx hb dX10_readSaid_80 rfl (lv_at hl 0 rfl) ?_
            refine lv_dup hx hb dX10_readSaid_81 rfl ?_
            refine tg_mem (ci := 10) (C := RX10) (T := TX10) (N := 49) hx hb hts inX10 hown hK hw 47 m_z0_47 rfl (by decide) (hts _ tw_1184) (fun _ h9 => h9) dX10_readSaid_82 ?_
            refine lv_iconst (v := 1) hx hb dX10_readSaid_85 (by decide) ?_
            refine lv_iadd hx hb dX10_readSaid_86 (lv_topi (fun v_21 e_v_21 => ?_))
            obtain ⟨t_v_21, r_v_21⟩ := tq_add (lo := 7) (hi := 7) r_z0_47 rl_1 (by decide +kernel) e_v_21
            have t_v_21 : v_21.toInt = z0_47.toInt + 1 := t_v_21
            refine tg_put (ci := 10) (ts := ty_MODEL) (v := .int v_21) (ty := .int) (C := RX10) (T := TX10) (N := 49) hx hb hts inX10 tyX10 tyX10_ok nmX10 hown hK hw h_p0 rfl rfl 47 (by decide) (hts _ tw_1184) (fun _ h9 => h9) rfl (by decide +kernel) rfl rfl (ft := vI (-2147483648) 2147483647) rfl ⟨_, rfl, (r_v_21.to (by decide))⟩ (by decide) dX10_readSaid_87 (fun ws H locs hw n_k_22 hF9 => ?_)
            have hn9 := FLD.over hF9 hn9 (by decide)
            have n_k_20 := FLD.over hF9 n_k_20 (by decide)
            have x_SNI_p0_gd_1_gh_1_gg := SNI.over hF9 x_SNI_p0_gd_1_gh_1_gg (by decide)
            refine lv_aload_n hx hb dX10_readSaid_90 rfl (lv_at hl 0 rfl) ?_
            refine tk_v (va_runV (As := []) (rest := []) ⟨hx, hb, hml, hown, hts⟩ (c_X10_go l D cy z H.size Ps ws hw.1 p0 h_p0) (cwV 0 hts (gV tw_1298 tw_1300 ts_40 tw_15 tw_1301) rfl rfl rfl (by decide +kernel) ⟨Nat.le_of_ble_eq_true rfl, Nat.le_of_ble_eq_true rfl⟩) (tg_preV hw hK hSD hA (ci := 10) (q := (RX10, TX10, 49)) rfl h_p0 rfl) rfl rfl hl.1 rfl (lv_room (Nat.le_of_ble_eq_true rfl)) dX10_readSaid_91 ⟨Nat.le_of_ble_eq_true rfl, Nat.le_of_ble_eq_true rfl⟩) hw hA ⟨by decide, by decide⟩ (fun ws H locs hp_v_23 hw hF9 => ?_)
            have hn9 := FLD.over hF9 hn9 (by decide)
            have n_k_20 := FLD.over hF9 n_k_20 (by decide)
            have n_k_22 := FLD.over hF9 n_k_22 (by decide)
            have x_SNI_p0_gd_1_gh_1_gg := SNI.over hF9 x_SNI_p0_gd_1_gh_1_gg (by decide)
            refine lv_iconst (v := 1) hx hb dX10_readSaid_94 (by decide) ?_
            refine lv_istore_n (lv' := [(3, .int 1), (0, .ref p0), (1, .int x1), (2, .int x2)]) hx hb dX10_readSaid_95 rfl hl (by decide) rfl (fun ls hl => ?_)
            refine lv_iload_n hx hb dX10_readSaid_96 rfl (lv_at hl 2 rfl) ?_
            refine lv_if_eq (tgt := 108) hx hb dX10_readSaid_97 (by decide) (fun c_97 => ?_) (fun c_97 => ?_)
            · refine lv_iload_n hx hb dX10_readSaid_108 rfl (lv_at hl 3 rfl) ?_
              refine lv_bipush (v := 18) hx hb dX10_readSaid_109 (by decide) ?_
              refine lv_icmp_ne (tgt := 122) hx hb dX10_readSaid_111 (by decide) (fun c_111 => ?_) (fun c_111 => ?_)
              · have r_x2 : RI x2 19 27 := rc_neL r_x2 rl_18 (ti_ne c_111) (by decide)
                refine lv_iload_n hx hb dX10_readSaid_122 rfl (lv_at hl 3 rfl) ?_
                refine lv_bipush (v := 22) hx hb dX10_readSaid_123 (by decide) ?_
                refine lv_icmp_ge (tgt := 146) hx hb dX10_readSaid_125 (by decide) (fun c_125 => ?_) (fun c_125 => ?_)
                · have r_x2 : RI x2 22 27 := rc_le2 rl_22 r_x2 (ti_le c_125) (by decide)
                  refine lv_iload_n hx hb dX10_readSaid_146 rfl (lv_at hl 3 rfl) ?_
                  refine lv_bipush (v := 24) hx hb dX10_readSaid_147 (by decide) ?_
                  refine lv_icmp_ge (tgt := 160) hx hb dX10_readSaid_149 (by decide) (fun c_149 => ?_) (fun c_149 => ?_)
                  · have r_x2 : RI x2 24 27 := rc_le2 rl_24 r_x2 (ti_le c_149) (by decide)
                    refine lv_aload_n hx hb dX10_readSaid_160 rfl (lv_at hl 1 rfl) ?_
                    refine lv_iload_n hx hb dX10_readSaid_161 rfl (lv_at hl 3 rfl) ?_
                    refine tk_i (va_runV (As := [.int x2]) (rest := []) ⟨hx, hb, hml, hown, hts⟩ (c_X10_readCompare l D cy z H.size Ps ws hw.1 p0 x2 (gd+1) (gh+1) (gg) h_p0 r_x2 x_SNI_p0_gd_1_gh_1_gg) (cwV 1 hts (gV tw_1779 tw_1781 ts_118 tw_15 tw_1782) rfl rfl rfl (by decide +kernel) ⟨Nat.le_of_ble_eq_true rfl, Nat.le_of_ble_eq_true rfl⟩) (tg_preV hw hK hSD hA (ci := 10) (q := (RX10, TX10, 49)) rfl h_p0 rfl) rfl rfl hl.1 rfl (lv_room (Nat.le_of_ble_eq_true rfl)) dX10_readSaid_162 ⟨Nat.le_of_ble_eq_true rfl, Nat.le_of_ble_eq_true rfl⟩) hw hA ⟨by decide, by decide⟩ (fun v_24 ws H locs hp_v_24 hw hF9 => ?_)
                    have n_k_20 := FLD.over hF9 n_k_20 (by decide)
                    have n_k_22 := FLD.over hF9 n_k_22 (by decide)
                    have r_v_24 : RI v_24 0 1 := hp_v_24.1
                    by_cases c9_v_24 : v_24 = 0
                    · have r_v_24 : RI v_24 0 0 := by rw [c9_v_24]; exact rl_0
                      refine lv_istore_n (lv' := [(3, .int v_24), (0, .ref p0), (1, .int x1), (2, .int x2)]) hx hb dX10_readSaid_165 rfl hl (by decide) rfl (fun ls hl => ?_)
                      refine lv_aload_n hx hb dX10_readSaid_166 rfl (lv_at hl 1 rfl) ?_
                      refine lv_dup hx hb dX10_readSaid_167 rfl ?_
                      refine tg_mem (ci := 10) (C := RX10) (T := TX10) (N := 49) hx hb hts inX10 hown hK hw 47 n_k_22 rfl (by decide) (hts _ tw_1184) (fun _ h9 => h9) dX10_readSaid_168 ?_
                      refine lv_iconst (v := 1) hx hb dX10_readSaid_171 (by decide) ?_
                      refine lv_isub hx hb dX10_readSaid_172 (lv_topi (fun v_25 e_v_25 => ?_))
                      obtain ⟨t_v_25, r_v_25⟩ := tq_sub (lo := 6) (hi := 6) r_v_21 rl_1 (by decide +kernel) e_v_25
                      have t_v_25 : v_25.toInt = v_21.toInt - 1 := t_v_25
                      refine tg_put (ci := 10) (ts := ty_MODEL) (v := .int v_25) (ty := .int) (C := RX10) (T := TX10) (N := 49) hx hb hts inX10 tyX10 tyX10_ok nmX10 hown hK hw h_p0 rfl rfl 47 (by decide) (hts _ tw_1184) (fun _ h9 => h9) rfl (by decide +kernel) rfl rfl (ft := vI (-2147483648) 2147483647) rfl ⟨_, rfl, (r_v_25.to (by decide))⟩ (by decide) dX10_readSaid_173 (fun ws H locs hw n_k_26 hF9 => ?_)
                      have n_k_20 := FLD.over hF9 n_k_20 (by decide)
                      refine lv_iload_n hx hb dX10_readSaid_176 rfl (lv_at hl 0 rfl) ?_
                      subst hQ
                      exact W.zret (v := v_24) hx hb hr (tq_nz (r_v_24.to (by decide))) (fun t ht hW => ⟨⟨v_24, ws, rfl, ⟨⟨r_v_24.to (by decide), (fun h0 => ⟨⟨_, n_k_26, r_v_25⟩, trivial⟩), (fun h0 => absurd (Int32.toInt_inj.mp (by have h8 := r_v_24; unfold RI at h8; rw [Int32.toInt_zero]; omega)) h0)⟩, hw.1, hw.2.2.2.2.1⟩, by rw [ht]; exact hw.2.1, va_K.moved hW.alike hK, hw.2.2.1⟩, hw.2.2.2.1.F ht⟩) hw.2.2.2.1.2.2 dX10_readSaid_177
                    · have r_v_24 : RI v_24 1 1 := rc_neL r_v_24 rl_0 (ti_ne c9_v_24) (by decide)
                      obtain ⟨v_27, m_v_27, r_v_27⟩ := ((hp_v_24.2.2 c9_v_24).1)
                      obtain ⟨v_28, m_v_28, r_v_28⟩ := ((hp_v_24.2.2 c9_v_24).2.1)
                      have x_SNT_p0_gd_1_gh_1_gg := ((hp_v_24.2.2 c9_v_24).2.2.1)
                      refine lv_istore_n (lv' := [(3, .int v_24), (0, .ref p0), (1, .int x1), (2, .int x2)]) hx hb dX10_readSaid_165 rfl hl (by decide) rfl (fun ls hl => ?_)
                      refine lv_aload_n hx hb dX10_readSaid_166 rfl (lv_at hl 1 rfl) ?_
                      refine lv_dup hx hb dX10_readSaid_167 rfl ?_
                      refine tg_mem (ci := 10) (C := RX10) (T := TX10) (N := 49) hx hb hts inX10 hown hK hw 47 n_k_22 rfl (by decide) (hts _ tw_1184) (fun _ h9 => h9) dX10_readSaid_168 ?_
                      refine lv_iconst (v := 1) hx hb dX10_readSaid_171 (by decide) ?_
                      refine lv_isub hx hb dX10_readSaid_172 (lv_topi (fun v_29 e_v_29 => ?_))
                      obtain ⟨t_v_29, r_v_29⟩ := tq_sub (lo := 6) (hi := 6) r_v_21 rl_1 (by decide +kernel) e_v_29
                      have t_v_29 : v_29.toInt = v_21.toInt - 1 := t_v_29
                      refine tg_put (ci := 10) (ts := ty_MODEL) (v := .int v_29) (ty := .int) (C := RX10) (T := TX10) (N := 49) hx hb hts inX10 tyX10 tyX10_ok nmX10 hown hK hw h_p0 rfl rfl 47 (by decide) (hts _ tw_1184) (fun _ h9 => h9) rfl (by decide +kernel) rfl rfl (ft := vI (-2147483648) 2147483647) rfl ⟨_, rfl, (r_v_29.to (by decide))⟩ (by decide) dX10_readSaid_173 (fun ws H locs hw n_k_30 hF9 => ?_)
                      have n_k_20 := FLD.over hF9 n_k_20 (by decide)
                      have m_v_27 := FLD.over hF9 m_v_27 (by decide)
                      have m_v_28 := FLD.over hF9 m_v_28 (by decide)
                      have x_SNT_p0_gd_1_gh_1_gg := SNT.over hF9 x_SNT_p0_gd_1_gh_1_gg (by decide)
                      refine lv_iload_n hx hb dX10_readSaid_176 rfl (lv_at hl 0 rfl) ?_
                      subst hQ
                      exact W.zret (v := v_24) hx hb hr (tq_nz (r_v_24.to (by decide))) (fun t ht hW => ⟨⟨v_24, ws, rfl, ⟨⟨r_v_24.to (by decide), (fun h0 => absurd (ti_eq h0) (by have h8 := r_v_24; unfold RI at h8; rw [Int32.toInt_zero]; omega)), (fun h0 => ⟨⟨_, n_k_20, r_v_19⟩, ⟨_, m_v_28, r_v_28⟩, ⟨_, n_k_30, r_v_29⟩, x_SNT_p0_gd_1_gh_1_gg, trivial⟩)⟩, hw.1, hw.2.2.2.2.1⟩, by rw [ht]; exact hw.2.1, va_K.moved hW.alike hK, hw.2.2.1⟩, hw.2.2.2.1.F ht⟩) hw.2.2.2.1.2.2 dX10_readSaid_177
                  · have r_x2 : RI x2 22 23 := rc_lt1 r_x2 rl_24 (ti_nle c_149) (by decide)
                    refine lv_aload_n hx hb dX10_readSaid_152 rfl (lv_at hl 1 rfl) ?_
                    refine lv_iload_n hx hb dX10_readSaid_153 rfl (lv_at hl 3 rfl) ?_
                    refine tk_i (va_runV (As := [.int x2]) (rest := []) ⟨hx, hb, hml, hown, hts⟩ (c_X10_readOf l D cy z H.size Ps ws hw.1 p0 x2 (gd+1) (gh+1) (gg) h_p0 r_x2 x_SNI_p0_gd_1_gh_1_gg) (cwV 1 hts (gV tw_1775 tw_1777 ts_117 tw_15 tw_1778) rfl rfl rfl (by decide +kernel) ⟨Nat.le_of_ble_eq_true rfl, Nat.le_of_ble_eq_true rfl⟩) (tg_preV hw hK hSD hA (ci := 10) (q := (RX10, TX10, 49)) rfl h_p0 rfl) rfl rfl hl.1 rfl (lv_room (Nat.le_of_ble_eq_true rfl)) dX10_readSaid_154 ⟨Nat.le_of_ble_eq_true rfl, Nat.le_of_ble_eq_true rfl⟩) hw hA ⟨by decide, by decide⟩ (fun v_31 ws H locs hp_v_31 hw hF9 => ?_)
                    have n_k_20 := FLD.over hF9 n_k_20 (by decide)
                    have n_k_22 := FLD.over hF9 n_k_22 (by decide)
                    have r_v_31 : RI v_31 0 1 := hp_v_31.1
                    by_cases c9_v_31 : v_31 = 0
                    · have r_v_31 : RI v_31 0 0 := by rw [c9_v_31]; exact rl_0
                      refine lv_goto (tgt := 165) hx hb dX10_readSaid_157 (by decide) ?_
                      refine lv_istore_n (lv' := [(3, .int v_31), (0, .ref p0), (1, .int x1), (2, .int x2)]) hx hb dX10_readSaid_165 rfl hl (by decide) rfl (fun ls hl => ?_)
                      refine lv_aload_n hx hb dX10_readSaid_166 rfl (lv_at hl 1 rfl) ?_
                      refine lv_dup hx hb dX10_readSaid_167 rfl ?_
                      refine tg_mem (ci := 10) (C := RX10) (T := TX10) (N := 49) hx hb hts inX10 hown hK hw 47 n_k_22 rfl (by decide) (hts _ tw_1184) (fun _ h9 => h9) dX10_readSaid_168 ?_
                      refine lv_iconst (v := 1) hx hb dX10_readSaid_171 (by decide) ?_
                      refine lv_isub hx hb dX10_readSaid_172 (lv_topi (fun v_32 e_v_32 => ?_))
                      obtain ⟨t_v_32, r_v_32⟩ := tq_sub (lo := 6) (hi := 6) r_v_21 rl_1 (by decide +kernel) e_v_32
                      have t_v_32 : v_32.toInt = v_21.toInt - 1 := t_v_32
                      refine tg_put (ci := 10) (ts := ty_MODEL) (v := .int v_32) (ty := .int) (C := RX10) (T := TX10) (N := 49) hx hb hts inX10 tyX10 tyX10_ok nmX10 hown hK hw h_p0 rfl rfl 47 (by decide) (hts _ tw_1184) (fun _ h9 => h9) rfl (by decide +kernel) rfl rfl (ft := vI (-2147483648) 2147483647) rfl ⟨_, rfl, (r_v_32.to (by decide))⟩ (by decide) dX10_readSaid_173 (fun ws H locs hw n_k_33 hF9 => ?_)
                      have n_k_20 := FLD.over hF9 n_k_20 (by decide)
                      refine lv_iload_n hx hb dX10_readSaid_176 rfl (lv_at hl 0 rfl) ?_
                      subst hQ
                      exact W.zret (v := v_31) hx hb hr (tq_nz (r_v_31.to (by decide))) (fun t ht hW => ⟨⟨v_31, ws, rfl, ⟨⟨r_v_31.to (by decide), (fun h0 => ⟨⟨_, n_k_33, r_v_32⟩, trivial⟩), (fun h0 => absurd (Int32.toInt_inj.mp (by have h8 := r_v_31; unfold RI at h8; rw [Int32.toInt_zero]; omega)) h0)⟩, hw.1, hw.2.2.2.2.1⟩, by rw [ht]; exact hw.2.1, va_K.moved hW.alike hK, hw.2.2.1⟩, hw.2.2.2.1.F ht⟩) hw.2.2.2.1.2.2 dX10_readSaid_177
                    · have r_v_31 : RI v_31 1 1 := rc_neL r_v_31 rl_0 (ti_ne c9_v_31) (by decide)
                      obtain ⟨v_34, m_v_34, r_v_34⟩ := ((hp_v_31.2.2 c9_v_31).1)
                      obtain ⟨v_35, m_v_35, r_v_35⟩ := ((hp_v_31.2.2 c9_v_31).2.1)
                      have x_SNT_p0_gd_1_gh_1_gg := ((hp_v_31.2.2 c9_v_31).2.2.1)
                      refine lv_goto (tgt := 165) hx hb dX10_readSaid_157 (by decide) ?_
                      refine lv_istore_n (lv' := [(3, .int v_31), (0, .ref p0), (1, .int x1), (2, .int x2)]) hx hb dX10_readSaid_165 rfl hl (by decide) rfl (fun ls hl => ?_)
                      refine lv_aload_n hx hb dX10_readSaid_166 rfl (lv_at hl 1 rfl) ?_
                      refine lv_dup hx hb dX10_readSaid_167 rfl ?_
                      refine tg_mem (ci := 10) (C := RX10) (T := TX10) (N := 49) hx hb hts inX10 hown hK hw 47 n_k_22 rfl (by decide) (hts _ tw_1184) (fun _ h9 => h9) dX10_readSaid_168 ?_
                      refine lv_iconst (v := 1) hx hb dX10_readSaid_171 (by decide) ?_
                      refine lv_isub hx hb dX10_readSaid_172 (lv_topi (fun v_36 e_v_36 => ?_))
                      obtain ⟨t_v_36, r_v_36⟩ := tq_sub (lo := 6) (hi := 6) r_v_21 rl_1 (by decide +kernel) e_v_36
                      have t_v_36 : v_36.toInt = v_21.toInt - 1 := t_v_36
                      refine tg_put (ci := 10) (ts := ty_MODEL) (v := .int v_36) (ty := .int) (C := RX10) (T := TX10) (N := 49) hx hb hts inX10 tyX10 tyX10_ok nmX10 hown hK hw h_p0 rfl rfl 47 (by decide) (hts _ tw_1184) (fun _ h9 => h9) rfl (by decide +kernel) rfl rfl (ft := vI (-2147483648) 2147483647) rfl ⟨_, rfl, (r_v_36.to (by decide))⟩ (by decide) dX10_readSaid_173 (fun ws H locs hw n_k_37 hF9 => ?_)
                      have n_k_20 := FLD.over hF9 n_k_20 (by decide)
                      have m_v_34 := FLD.over hF9 m_v_34 (by decide)
                      have m_v_35 := FLD.over hF9 m_v_35 (by decide)
                      have x_SNT_p0_gd_1_gh_1_gg := SNT.over hF9 x_SNT_p0_gd_1_gh_1_gg (by decide)
                      refine lv_iload_n hx hb dX10_readSaid_176 rfl (lv_at hl 0 rfl) ?_
                      subst hQ
                      exact W.zret (v := v_31) hx hb hr (tq_nz (r_v_31.to (by decide))) (fun t ht hW => ⟨⟨v_31, ws, rfl, ⟨⟨r_v_31.to (by decide), (fun h0 => absurd (ti_eq h0) (by have h8 := r_v_31; unfold RI at h8; rw [Int32.toInt_zero]; omega)), (fun h0 => ⟨⟨_, n_k_20, r_v_19⟩, ⟨_, m_v_35, r_v_35⟩, ⟨_, n_k_37, r_v_36⟩, x_SNT_p0_gd_1_gh_1_gg, trivial⟩)⟩, hw.1, hw.2.2.2.2.1⟩, by rw [ht]; exact hw.2.1, va_K.moved hW.alike hK, hw.2.2.1⟩, hw.2.2.2.1.F ht⟩) hw.2.2.2.1.2.2 dX10_readSaid_177
                · have r_x2 : RI x2 19 21 := rc_lt1 r_x2 rl_22 (ti_nle c_125) (by decide)
                  refine lv_aload_n hx hb dX10_readSaid_128 rfl (lv_at hl 1 rfl) ?_
                  refine lv_aload_n hx hb dX10_readSaid_129 rfl (lv_at hl 1 rfl) ?_
                  refine lv_bipush (v := 50) hx hb dX10_readSaid_130 (by decide) ?_
                  refine lv_iload_n hx hb dX10_readSaid_132 rfl (lv_at hl 3 rfl) ?_
                  refine lv_iadd hx hb dX10_readSaid_133 (lv_topi (fun v_38 e_v_38 => ?_))
                  obtain ⟨t_v_38, r_v_38⟩ := tq_add (lo := 69) (hi := 71) rl_50 r_x2 (by decide +kernel) e_v_38
                  have t_v_38 : v_38.toInt = 50 + x2.toInt := t_v_38
                  refine lv_iconst (v := 0) hx hb dX10_readSaid_134 (by decide) ?_
                  refine lv_iconst (v := 0) hx hb dX10_readSaid_135 (by decide) ?_
                  refine lv_iconst (v := 0) hx hb dX10_readSaid_136 (by decide) ?_
                  refine tk_i (va_runV (As := [.int v_38, .int 0, .int 0, .int 0]) (rest := [.ref p0]) ⟨hx, hb, hml, hown, hts⟩ (c_X10_saysOne l D cy z H.size Ps ws hw.1 p0 v_38 0 0 0 (gd+1) (gh+1) (gg) h_p0 (r_v_38.to (by decide)) (rl_0.to (by decide)) (rl_0.to (by decide)) (rl_0.to (by decide)) x_SNI_p0_gd_1_gh_1_gg) (cwV 4 hts (gV tw_1771 tw_1773 ts_116 tw_15 tw_1774) rfl rfl rfl (by decide +kernel) ⟨Nat.le_of_ble_eq_true rfl, Nat.le_of_ble_eq_true rfl⟩) (tg_preV hw hK hSD hA (ci := 10) (q := (RX10, TX10, 49)) rfl h_p0 rfl) rfl rfl hl.1 rfl (lv_room (Nat.le_of_ble_eq_true rfl)) dX10_readSaid_137 ⟨Nat.le_of_ble_eq_true rfl, Nat.le_of_ble_eq_true rfl⟩) hw hA ⟨by decide, by decide⟩ (fun v_39 ws H locs hp_v_39 hw hF9 => ?_)
                  have n_k_20 := FLD.over hF9 n_k_20 (by decide)
                  have n_k_22 := FLD.over hF9 n_k_22 (by decide)
                  have r_v_39 : RI v_39 0 39 := hp_v_39.1
                  have x_SNL_p0_gd_1_gh_1_gg_v_39 := hp_v_39.2.2.2.1.1
                  refine tg_put (ci := 10) (ts := ty_MODEL) (v := .int v_39) (ty := .int) (C := RX10) (T := TX10) (N := 49) hx hb hts inX10 tyX10 tyX10_ok nmX10 hown hK hw h_p0 rfl rfl 48 (by decide) (hts _ tw_1185) (fun _ h9 => h9) rfl (by decide +kernel) rfl rfl (ft := vI (-2147483648) 2147483647) rfl ⟨_, rfl, (r_v_39.to (by decide))⟩ (by decide) dX10_readSaid_140 (fun ws H locs hw n_k_40 hF9 => ?_)
                  have n_k_20 := FLD.over hF9 n_k_20 (by decide)
                  have n_k_22 := FLD.over hF9 n_k_22 (by decide)
                  have x_SNL_p0_gd_1_gh_1_gg_v_39 := SNL.over hF9 x_SNL_p0_gd_1_gh_1_gg_v_39 (by decide)
                  have x_SNT_p0_gd_1_gh_1_gg : SNT ws p0 (gd+1) (gh+1) (gg) := (x_SNL_p0_gd_1_gh_1_gg_v_39.weak (d' := gd+1) (h' := gh+1) (g' := gg) (by have k1 := x_SNL_p0_gd_1_gh_1_gg_v_39.le; have d_8 := SNp.le x_SN_p0_gd_gh_gg; omega)).snt n_k_40
                  refine lv_goto (tgt := 166) hx hb dX10_readSaid_143 (by decide) ?_
                  refine lv_aload_n hx hb dX10_readSaid_166 rfl (lv_at hl 1 rfl) ?_
                  refine lv_dup hx hb dX10_readSaid_167 rfl ?_
                  refine tg_mem (ci := 10) (C := RX10) (T := TX10) (N := 49) hx hb hts inX10 hown hK hw 47 n_k_22 rfl (by decide) (hts _ tw_1184) (fun _ h9 => h9) dX10_readSaid_168 ?_
                  refine lv_iconst (v := 1) hx hb dX10_readSaid_171 (by decide) ?_
                  refine lv_isub hx hb dX10_readSaid_172 (lv_topi (fun v_41 e_v_41 => ?_))
                  obtain ⟨t_v_41, r_v_41⟩ := tq_sub (lo := 6) (hi := 6) r_v_21 rl_1 (by decide +kernel) e_v_41
                  have t_v_41 : v_41.toInt = v_21.toInt - 1 := t_v_41
                  refine tg_put (ci := 10) (ts := ty_MODEL) (v := .int v_41) (ty := .int) (C := RX10) (T := TX10) (N := 49) hx hb hts inX10 tyX10 tyX10_ok nmX10 hown hK hw h_p0 rfl rfl 47 (by decide) (hts _ tw_1184) (fun _ h9 => h9) rfl (by decide +kernel) rfl rfl (ft := vI (-2147483648) 2147483647) rfl ⟨_, rfl, (r_v_41.to (by decide))⟩ (by decide) dX10_readSaid_173 (fun ws H locs hw n_k_42 hF9 => ?_)
                  have n_k_20 := FLD.over hF9 n_k_20 (by decide)
                  have n_k_40 := FLD.over hF9 n_k_40 (by decide)
                  have x_SNL_p0_gd_1_gh_1_gg_v_39 := SNL.over hF9 x_SNL_p0_gd_1_gh_1_gg_v_39 (by decide)
                  have x_SNT_p0_gd_1_gh_1_gg := SNT.over hF9 x_SNT_p0_gd_1_gh_1_gg (by decide)
                  refine lv_iload_n hx hb dX10_readSaid_176 rfl (lv_at hl 0 rfl) ?_
                  subst hQ
                  exact W.zret (v := 1) hx hb hr (rfl) (fun t ht hW => ⟨⟨1, ws, rfl, ⟨⟨rl_1.to (by decide), (fun h0 => absurd h0 (by decide)), (fun h0 => ⟨⟨_, n_k_20, r_v_19⟩, ⟨_, n_k_40, r_v_39⟩, ⟨_, n_k_42, r_v_41⟩, x_SNT_p0_gd_1_gh_1_gg, trivial⟩)⟩, hw.1, hw.2.2.2.2.1⟩, by rw [ht]; exact hw.2.1, va_K.moved hW.alike hK, hw.2.2.1⟩, hw.2.2.2.1.F ht⟩) hw.2.2.2.1.2.2 dX10_readSaid_177
              · have r_x2 : RI x2 18 18 := rc_eq1 r_x2 rl_18 (ti_eq c_111) (by decide)
                refine lv_aload_n hx hb dX10_readSaid_114 rfl (lv_at hl 1 rfl) ?_
                refine tk_i (va_runV (As := []) (rest := []) ⟨hx, hb, hml, hown, hts⟩ (c_X10_readNot__1 l D cy z H.size Ps ws hw.1 p0 v_21 (gd+1) (gh+1) (gg) h_p0 r_v_21 n_k_22 x_SNI_p0_gd_1_gh_1_gg) (cwV 0 hts (gV tw_1767 tw_1769 ts_115 tw_15 tw_1770) rfl rfl rfl (by decide +kernel) ⟨Nat.le_of_ble_eq_true rfl, Nat.le_of_ble_eq_true rfl⟩) (tg_preV hw hK hSD hA (ci := 10) (q := (RX10, TX10, 49)) rfl h_p0 rfl) rfl rfl hl.1 rfl (lv_room (Nat.le_of_ble_eq_true rfl)) dX10_readSaid_115 ⟨Nat.le_of_ble_eq_true rfl, Nat.le_of_ble_eq_true rfl⟩) hw hA ⟨by decide, by decide⟩ (fun v_43 ws H locs hp_v_43 hw hF9 => ?_)
                have r_v_43 : RI v_43 0 1 := hp_v_43.1
                by_cases c9_v_43 : v_43 = 0
                · have r_v_43 : RI v_43 0 0 := by rw [c9_v_43]; exact rl_0
                  obtain ⟨v_44, m_v_44, r_v_44⟩ := ((hp_v_43.2.1 c9_v_43).1)
                  refine lv_istore_n (lv' := [(3, .int v_43), (0, .ref p0), (1, .int x1), (2, .int x2)]) hx hb dX10_readSaid_118 rfl hl (by decide) rfl (fun ls hl => ?_)
                  refine lv_goto (tgt := 166) hx hb dX10_readSaid_119 (by decide) ?_
                  refine lv_aload_n hx hb dX10_readSaid_166 rfl (lv_at hl 1 rfl) ?_
                  refine lv_dup hx hb dX10_readSaid_167 rfl ?_
                  refine tg_mem (ci := 10) (C := RX10) (T := TX10) (N := 49) hx hb hts inX10 hown hK hw 47 m_v_44 rfl (by decide) (hts _ tw_1184) (fun _ h9 => h9) dX10_readSaid_168 ?_
                  refine lv_iconst (v := 1) hx hb dX10_readSaid_171 (by decide) ?_
                  refine lv_isub hx hb dX10_readSaid_172 (lv_topi (fun v_45 e_v_45 => ?_))
                  obtain ⟨t_v_45, r_v_45⟩ := tq_sub (lo := 6) (hi := 6) r_v_44 rl_1 (by decide +kernel) e_v_45
                  have t_v_45 : v_45.toInt = v_44.toInt - 1 := t_v_45
                  refine tg_put (ci := 10) (ts := ty_MODEL) (v := .int v_45) (ty := .int) (C := RX10) (T := TX10) (N := 49) hx hb hts inX10 tyX10 tyX10_ok nmX10 hown hK hw h_p0 rfl rfl 47 (by decide) (hts _ tw_1184) (fun _ h9 => h9) rfl (by decide +kernel) rfl rfl (ft := vI (-2147483648) 2147483647) rfl ⟨_, rfl, (r_v_45.to (by decide))⟩ (by decide) dX10_readSaid_173 (fun ws H locs hw n_k_46 hF9 => ?_)
                  refine lv_iload_n hx hb dX10_readSaid_176 rfl (lv_at hl 0 rfl) ?_
                  subst hQ
                  exact W.zret (v := v_43) hx hb hr (tq_nz (r_v_43.to (by decide))) (fun t ht hW => ⟨⟨v_43, ws, rfl, ⟨⟨r_v_43.to (by decide), (fun h0 => ⟨⟨_, n_k_46, r_v_45⟩, trivial⟩), (fun h0 => absurd (Int32.toInt_inj.mp (by have h8 := r_v_43; unfold RI at h8; rw [Int32.toInt_zero]; omega)) h0)⟩, hw.1, hw.2.2.2.2.1⟩, by rw [ht]; exact hw.2.1, va_K.moved hW.alike hK, hw.2.2.1⟩, hw.2.2.2.1.F ht⟩) hw.2.2.2.1.2.2 dX10_readSaid_177
                · have r_v_43 : RI v_43 1 1 := rc_neL r_v_43 rl_0 (ti_ne c9_v_43) (by decide)
                  obtain ⟨v_47, m_v_47, r_v_47⟩ := ((hp_v_43.2.2 c9_v_43).1)
                  obtain ⟨v_48, m_v_48, r_v_48⟩ := ((hp_v_43.2.2 c9_v_43).2.1)
                  obtain ⟨v_49, m_v_49, r_v_49⟩ := ((hp_v_43.2.2 c9_v_43).2.2.1)
                  have x_SNT_p0_gd_1_gh_1_gg := ((hp_v_43.2.2 c9_v_43).2.2.2.1)
                  refine lv_istore_n (lv' := [(3, .int v_43), (0, .ref p0), (1, .int x1), (2, .int x2)]) hx hb dX10_readSaid_118 rfl hl (by decide) rfl (fun ls hl => ?_)
                  refine lv_goto (tgt := 166) hx hb dX10_readSaid_119 (by decide) ?_
                  refine lv_aload_n hx hb dX10_readSaid_166 rfl (lv_at hl 1 rfl) ?_
                  refine lv_dup hx hb dX10_readSaid_167 rfl ?_
                  refine tg_mem (ci := 10) (C := RX10) (T := TX10) (N := 49) hx hb hts inX10 hown hK hw 47 m_v_48 rfl (by decide) (hts _ tw_1184) (fun _ h9 => h9) dX10_readSaid_168 ?_
                  refine lv_iconst (v := 1) hx hb dX10_readSaid_171 (by decide) ?_
                  refine lv_isub hx hb dX10_readSaid_172 (lv_topi (fun v_50 e_v_50 => ?_))
                  obtain ⟨t_v_50, r_v_50⟩ := tq_sub (lo := 6) (hi := 6) r_v_48 rl_1 (by decide +kernel) e_v_50
                  have t_v_50 : v_50.toInt = v_48.toInt - 1 := t_v_50
                  refine tg_put (ci := 10) (ts := ty_MODEL) (v := .int v_50) (ty := .int) (C := RX10) (T := TX10) (N := 49) hx hb hts inX10 tyX10 tyX10_ok nmX10 hown hK hw h_p0 rfl rfl 47 (by decide) (hts _ tw_1184) (fun _ h9 => h9) rfl (by decide +kernel) rfl rfl (ft := vI (-2147483648) 2147483647) rfl ⟨_, rfl, (r_v_50.to (by decide))⟩ (by decide) dX10_readSaid_173 (fun ws H locs hw n_k_51 hF9 => ?_)
                  have m_v_47 := FLD.over hF9 m_v_47 (by decide)
                  have m_v_49 := FLD.over hF9 m_v_49 (by decide)
                  have x_SNT_p0_gd_1_gh_1_gg := SNT.over hF9 x_SNT_p0_gd_1_gh_1_gg (by decide)
                  refine lv_iload_n hx hb dX10_readSaid_176 rfl (lv_at hl 0 rfl) ?_
                  subst hQ
                  exact W.zret (v := v_43) hx hb hr (tq_nz (r_v_43.to (by decide))) (fun t ht hW => ⟨⟨v_43, ws, rfl, ⟨⟨r_v_43.to (by decide), (fun h0 => absurd (ti_eq h0) (by have h8 := r_v_43; unfold RI at h8; rw [Int32.toInt_zero]; omega)), (fun h0 => ⟨⟨_, m_v_47, r_v_47⟩, ⟨_, m_v_49, r_v_49⟩, ⟨_, n_k_51, r_v_50⟩, x_SNT_p0_gd_1_gh_1_gg, trivial⟩)⟩, hw.1, hw.2.2.2.2.1⟩, by rw [ht]; exact hw.2.1, va_K.moved hW.alike hK, hw.2.2.1⟩, hw.2.2.2.1.F ht⟩) hw.2.2.2.1.2.2 dX10_readSaid_177
            · exact absurd (r_x1.eq.trans rl_0.eq.symm) ((ti_ne c_97))
          · have r_z0_47 : RI z0_47 8 6 := rc_eq1 r_z0_47 rl_8 (ti_eq c_61) (by decide)
            exact (r_z0_47.no (by decide)).elim
      · have r_x2 : RI x2 28 28 := rc_lt2 rl_27 r_x2 (ti_nle c_37) (by decide)
        refine lv_aload_n hx hb dX10_readSaid_40 rfl (lv_at hl 0 rfl) ?_
        refine lv_iconst (v := 1) hx hb dX10_readSaid_41 (by decide) ?_
        refine tk_i (va_runV (As := [.int 1]) (rest := []) ⟨hx, hb, hml, hown, hts⟩ (c_X10_bad l D cy z H.size Ps ws hw.1 p0 1 h_p0 (rl_1.to (by decide))) (cwV 1 hts (gV tw_1336 tw_1338 ts_46 tw_15 tw_1339) rfl rfl rfl (by decide +kernel) ⟨Nat.le_of_ble_eq_true rfl, Nat.le_of_ble_eq_true rfl⟩) (tg_preV hw hK hSD hA (ci := 10) (q := (RX10, TX10, 49)) rfl h_p0 rfl) rfl rfl hl.1 rfl (lv_room (Nat.le_of_ble_eq_true rfl)) dX10_readSaid_42 ⟨Nat.le_of_ble_eq_true rfl, Nat.le_of_ble_eq_true rfl⟩) hw hA ⟨by decide, by decide⟩ (fun v_52 ws H locs hp_v_52 hw hF9 => ?_)
        have m_z0_47 := FLD.over hF9 m_z0_47 (by decide)
        have x_SN_p0_gd_gh_gg := SNp.over hF9 x_SN_p0_gd_gh_gg (by decide)
        have r_v_52 : RI v_52 0 0 := hp_v_52.1
        subst hQ
        exact W.zret (v := v_52) hx hb hr (tq_nz (r_v_52.to (by decide))) (fun t ht hW => ⟨⟨v_52, ws, rfl, ⟨⟨r_v_52.to (by decide), (fun h0 => ⟨⟨_, m_z0_47, r_z0_47⟩, trivial⟩), (fun h0 => absurd (Int32.toInt_inj.mp (by have h8 := r_v_52; unfold RI at h8; rw [Int32.toInt_zero]; omega)) h0)⟩, hw.1, hw.2.2.2.2.1⟩, by rw [ht]; exact hw.2.1, va_K.moved hW.alike hK, hw.2.2.1⟩, hw.2.2.2.1.F ht⟩) hw.2.2.2.1.2.2 dX10_readSaid_45
  have B10 : ∀ (nf : Nat) (x1 : Int32) (x2 : Int32) (z0_47 : Int32) (ws : va_W) (H : Heap) (locs : List Loc) (ls : Array Slot), 28 - x2.toInt < (nf : Int) → RI x1 0 1 → RI x2 18 28 → RI z0_47 6 6 → FLD ws p0 10 47 (.int z0_47) → SNp ws p0 (gd) (gh) (gg) → WD D cy GG A s wr_X10_readSaid__6 wa_X10_readSaid__6 Ps w0 Ps ws H locs → lv_has ls 4 [(0, .ref p0), (1, .int x1), (2, .int x2)] → W p l e (headSpec (Cond.code yX10_readSaid cX10_readSaid 4 (some .boolean) :: gT) ({ frames := 12, cells := 0, slots := 0, locals := 2400 } : Room)).room s m ([.ref p0] : List Value).toArray below meth c H locs 0 0 Q (F0 m 10 ls []) := by
    intro nf10
    induction nf10 with
    | zero =>
      intro x1 x2 z0_47 ws H locs ls hn10 r_x1 r_x2 r_z0_47 m_z0_47 x_SN_p0_gd_gh_gg hw hl
      exact absurd hn10 (by have q0 := r_x2.1; have u0 := r_x2.2; omega)
    | succ nf10 ih10 =>
      intro x1 x2 z0_47 ws H locs ls hn10 r_x1 r_x2 r_z0_47 m_z0_47 x_SN_p0_gd_gh_gg hw hl
      refine lv_iload_n hx hb dX10_readSaid_10 rfl (lv_at hl 2 rfl) ?_
      refine lv_bipush (v := 27) hx hb dX10_readSaid_11 (by decide) ?_
      refine lv_icmp_gt (tgt := 30) hx hb dX10_readSaid_13 (by decide) (fun c_13 => ?_) (fun c_13 => ?_)
      · have r_x2 : RI x2 28 28 := rc_lt2 rl_27 r_x2 (ti_lt c_13) (by decide)
        exact B30 x1 x2 z0_47 ws _ _ ls r_x1 (r_x2.to (by decide)) r_z0_47 m_z0_47 x_SN_p0_gd_gh_gg hw hl
      · have r_x2 : RI x2 18 27 := rc_le1 r_x2 rl_27 (ti_nlt c_13) (by decide)
        refine lv_aload_n hx hb dX10_readSaid_16 rfl (lv_at hl 0 rfl) ?_
        refine lv_iload_n hx hb dX10_readSaid_17 rfl (lv_at hl 2 rfl) ?_
        refine tk_ir (va_runV (As := [.int x2]) (rest := []) ⟨hx, hb, hml, hown, hts⟩ (c_X10_isWord l D cy z H.size Ps ws hw.1 p0 x2 h_p0 (r_x2.to (by decide))) (cwV 1 hts (gV tw_1318 tw_1320 ts_43 tw_15 tw_1321) rfl rfl rfl (by decide +kernel) ⟨Nat.le_of_ble_eq_true rfl, Nat.le_of_ble_eq_true rfl⟩) (tg_preV hw hK hSD hA (ci := 10) (q := (RX10, TX10, 49)) rfl h_p0 rfl) rfl rfl hl.1 rfl (lv_room (Nat.le_of_ble_eq_true rfl)) dX10_readSaid_18 ⟨Nat.le_of_ble_eq_true rfl, Nat.le_of_ble_eq_true rfl⟩) hw hA (fun v_53  H locs hp_v_53 hw => ?_)
        have r_v_53 : RI v_53 0 1 := hp_v_53.1
        refine lv_if_ne (tgt := 30) hx hb dX10_readSaid_21 (by decide) (fun c_21 => ?_) (fun c_21 => ?_)
        · have r_v_53 : RI v_53 1 1 := rc_neL r_v_53 rl_0 (ti_ne c_21) (by decide)
          exact B30 x1 x2 z0_47 ws _ _ ls r_x1 (r_x2.to (by decide)) r_z0_47 m_z0_47 x_SN_p0_gd_gh_gg hw hl
        · have r_v_53 : RI v_53 0 0 := rc_eq1 r_v_53 rl_0 (ti_eq c_21) (by decide)
          obtain ⟨v_54, e_v_54⟩ : ∃ q9 : Int32, q9 = x2 + Int32.ofInt 1 := ⟨_, rfl⟩
          obtain ⟨t_v_54, r_v_54⟩ := tq_add (lo := 19) (hi := 28) r_x2 (show RI (Int32.ofInt 1) 1 1 by unfold RI; decide +kernel) (by decide +kernel) e_v_54
          have t_v_54 : v_54.toInt = x2.toInt + 1 := t_v_54
          refine lv_iinc (v := v_54) (lv' := [(2, .int v_54), (0, .ref p0), (1, .int x1)]) hx hb dX10_readSaid_24 hl (k := 2) rfl e_v_54.symm (by decide) rfl (fun ls hl => ?_)
          refine lv_goto (tgt := 10) hx hb dX10_readSaid_27 (by decide) ?_
          exact ih10 x1 v_54 z0_47 ws _ _ ls (by have q0 := r_v_54.1; have u0 := r_v_54.2; have o0 := r_x2.1; have p0 := r_x2.2; omega) r_x1 (r_v_54.to (by decide)) r_z0_47 m_z0_47 x_SN_p0_gd_gh_gg hw (lv_sub hl [1, 2, 0] rfl)
  refine lv_aload_n hx hb dX10_readSaid_0 rfl (lv_at hl 0 rfl) ?_
  refine lv_bipush (v := 40) hx hb dX10_readSaid_1 (by decide) ?_
  refine tk_ir (va_runV (As := [.int 40]) (rest := []) ⟨hx, hb, hml, hown, hts⟩ (c_X10_isSign l D cy z s.heap.size Ps w0 hw.1 p0 40 h_p0 (rl_40.to (by decide))) (cwV 1 hts (gV tw_1413 tw_1415 ts_63 tw_15 tw_1416) rfl rfl rfl (by decide +kernel) ⟨Nat.le_of_ble_eq_true rfl, Nat.le_of_ble_eq_true rfl⟩) (tg_preV hw hK hSD hA (ci := 10) (q := (RX10, TX10, 49)) rfl h_p0 rfl) rfl rfl hl.1 rfl (lv_room (Nat.le_of_ble_eq_true rfl)) dX10_readSaid_3 ⟨Nat.le_of_ble_eq_true rfl, Nat.le_of_ble_eq_true rfl⟩) hw hA (fun v_55  H locs hp_v_55 hw => ?_)
  have r_v_55 : RI v_55 0 1 := hp_v_55.1
  by_cases c9_v_55 : v_55 = 0
  · have r_v_55 : RI v_55 0 0 := by rw [c9_v_55]; exact rl_0
    refine lv_istore_n (lv' := [(1, .int v_55), (0, .ref p0)]) hx hb dX10_readSaid_6 rfl hl (by decide) rfl (fun ls hl => ?_)
    refine lv_bipush (v := 18) hx hb dX10_readSaid_7 (by decide) ?_
    refine lv_istore_n (lv' := [(2, .int 18), (1, .int v_55), (0, .ref p0)]) hx hb dX10_readSaid_9 rfl hl (by decide) rfl (fun ls hl => ?_)
    exact B10 4294967298 v_55 18 f0_47 w0 _ _ ls (by have q0 := rl_18.1; have u0 := rl_18.2; omega) (r_v_55.to (by decide)) (rl_18.to (by decide)) r_f0_47 m_f0_47 x_SN_p0_gd_gh_gg hw (lv_sub hl [2, 1, 0] rfl)
  · have r_v_55 : RI v_55 1 1 := rc_neL r_v_55 rl_0 (ti_ne c9_v_55) (by decide)
    obtain ⟨v_56, m_v_56, r_v_56⟩ := ((hp_v_55.2.2 c9_v_55).1)
    refine lv_istore_n (lv' := [(1, .int v_55), (0, .ref p0)]) hx hb dX10_readSaid_6 rfl hl (by decide) rfl (fun ls hl => ?_)
    refine lv_bipush (v := 18) hx hb dX10_readSaid_7 (by decide) ?_
    refine lv_istore_n (lv' := [(2, .int 18), (1, .int v_55), (0, .ref p0)]) hx hb dX10_readSaid_9 rfl hl (by decide) rfl (fun ls hl => ?_)
    exact B10 4294967298 v_55 18 f0_47 w0 _ _ ls (by have q0 := rl_18.1; have u0 := rl_18.2; omega) (r_v_55.to (by decide)) (rl_18.to (by decide)) r_f0_47 m_f0_47 x_SN_p0_gd_gh_gg hw (lv_sub hl [2, 1, 0] rfl)
abbrev wr_X10_readAnd__6 : List (Nat × Nat) := [(10, 5), (10, 6), (10, 7), (10, 8), (10, 9), (10, 10), (10, 11), (10, 12), (10, 13), (10, 45), (10, 46), (10, 47), (10, 48)]
abbrev wa_X10_readAnd__6 : List Nat := [54]
set_option maxHeartbeats 4000000 in
set_option maxRecDepth 100000 in
theorem c_X10_readAnd__6 (l : Launch) (D : va_G) (cy : Nat → ClassId) (z : Nat → Nat) (sz : Nat) (Ps : PSI) (w0 : va_W) (hT : HT cy GG Ps w0) (p0 : Nat) (f0_47 : Int32) (gd : Int) (gh : Int) (gg : Int) (h_p0 : (p0, 55) ∈ Ps) (r_f0_47 : RI f0_47 6 6) (m_f0_47 : FLD w0 p0 10 47 (.int f0_47)) (x_SN_p0_gd_gh_gg : SNp w0 p0 (gd) (gh) (gg)) : Met l yX10_readAnd (Cond.code yX10_readAnd cX10_readAnd 2 (some .boolean) :: gT) ({ frames := 13, cells := 0, slots := 0, locals := 2600 } : Room) (va_Pc [.ref p0] (PRE D cy z w0 sz)) (va_Qi (fun (r : Int32) (u : va_W) => (RI r 0 1 ∧ (r = 0 → (∃ v9 : Int32, FLD u p0 10 47 (.int v9) ∧ RI v9 6 6) ∧ True) ∧ (¬ r = 0 → (∃ v9 : Int32, FLD u p0 10 46 (.int v9) ∧ RI v9 1 20) ∧ (∃ v9 : Int32, FLD u p0 10 47 (.int v9) ∧ RI v9 6 6) ∧ (∃ v9 : Int32, FLD u p0 10 48 (.int v9) ∧ RI v9 0 39) ∧ SNT u p0 (gd+1) (gh+1) (gg) ∧ True)) ∧ HT cy GG Ps u ∧ FR wr_X10_readAnd__6 wa_X10_readAnd__6 Ps w0 u) (BB D cy (va_A w0 sz) (fun (u : va_W) => u)) (va_A w0 sz)) 0 0 (va_A w0 sz) := by
  refine Met.ofW (cc := cX10_readAnd) (maxL := 2) (ret := (some .boolean)) (by decide) rfl ?_
  intro p e s m args below meth c s₁ B hml hv
  obtain ⟨rfl, hsz, hP, hK, hD0, hSD⟩ := hv
  have hx := B.exec
  have hb := B.bytes
  have hr := B.returns
  have hlocks := B.notSynchronized
  have hts : ∀ w ∈ gT, w.before _ s = true := fun w h => atoms_spec (ws := Cond.code yX10_readAnd cX10_readAnd 2 (some .boolean) :: gT) B.pre w (List.mem_cons_of_mem _ h)
  have hown : s.vm.findClass RX10 = some m.cls := findClass_of_methodNamed B.named
  subst hsz
  have hD := hD0.self (sz := s.heap.size)
  generalize hAe : va_A w0 s.heap.size = A at hD hSD ⊢
  have hA : ∀ q : Nat, s.heap.size ≤ q → A q := fun q h => by rw [← hAe]; exact Or.inr h
  have hl := lv_entry ([.ref p0]) (n := 2) (Nat.le_of_ble_eq_true rfl)
  rw [lg_entry_eq]
  generalize (lg_sl ([.ref p0]) ++ List.replicate (2 - (lg_sl ([.ref p0])).length) Slot.unset).toArray = ls at hl ⊢
  have hl : lv_has ls 2 [(0, .ref p0)] := hl
  refine nameQ (fun Q hQ => ?_)
  have hw : WD D cy GG A s wr_X10_readAnd__6 wa_X10_readAnd__6 Ps w0 Ps w0 s.heap [] := ⟨hT, hP, hD, va_S.rf, FR.rf, hT.1, [], (List.append_nil _).symm⟩
  have B14 : ∀ (nf : Nat) (x1 : Int32) (z0_46 : Int32) (z0_47 : Int32) (z0_48 : Int32) (gz : Int) (ws : va_W) (H : Heap) (locs : List Loc) (ls : Array Slot), 21 - gz < (nf : Int) → RI x1 0 39 → RI z0_46 1 20 → FLD ws p0 10 46 (.int z0_46) → RI z0_47 6 6 → FLD ws p0 10 47 (.int z0_47) → RI z0_48 0 39 → FLD ws p0 10 48 (.int z0_48) → (SNL ws p0 (gd+1) (gz) (gg) x1 ∧ gh + 1 ≤ gz) → WD D cy GG A s wr_X10_readAnd__6 wa_X10_readAnd__6 Ps w0 Ps ws H locs → lv_has ls 2 [(0, .ref p0), (1, .int x1)] → W p l e (headSpec (Cond.code yX10_readAnd cX10_readAnd 2 (some .boolean) :: gT) ({ frames := 13, cells := 0, slots := 0, locals := 2600 } : Room)).room s m ([.ref p0] : List Value).toArray below meth c H locs 0 0 Q (F0 m 14 ls []) := by
    intro nf14
    induction nf14 with
    | zero =>
      intro x1 z0_46 z0_47 z0_48 gz ws H locs ls hn14 r_x1 r_z0_46 m_z0_46 r_z0_47 m_z0_47 r_z0_48 m_z0_48 x_SNW_p0_gd_1_gz_gg__1 hw hl
      exact absurd hn14 (by have q9 := SNL.le x_SNW_p0_gd_1_gz_gg__1.1; omega)
    | succ nf14 ih14 =>
      intro x1 z0_46 z0_47 z0_48 gz ws H locs ls hn14 r_x1 r_z0_46 m_z0_46 r_z0_47 m_z0_47 r_z0_48 m_z0_48 x_SNW_p0_gd_1_gz_gg__1 hw hl
      refine lv_aload_n hx hb dX10_readAnd_14 rfl (lv_at hl 0 rfl) ?_
      refine lv_bipush (v := 17) hx hb dX10_readAnd_15 (by decide) ?_
      refine tk_ir (va_runV (As := [.int 17]) (rest := []) ⟨hx, hb, hml, hown, hts⟩ (c_X10_isWord l D cy z H.size Ps ws hw.1 p0 17 h_p0 (rl_17.to (by decide))) (cwV 1 hts (gV tw_1318 tw_1320 ts_43 tw_15 tw_1321) rfl rfl rfl (by decide +kernel) ⟨Nat.le_of_ble_eq_true rfl, Nat.le_of_ble_eq_true rfl⟩) (tg_preV hw hK hSD hA (ci := 10) (q := (RX10, TX10, 49)) rfl h_p0 rfl) rfl rfl hl.1 rfl (lv_room (Nat.le_of_ble_eq_true rfl)) dX10_readAnd_17 ⟨Nat.le_of_ble_eq_true rfl, Nat.le_of_ble_eq_true rfl⟩) hw hA (fun v_1  H locs hp_v_1 hw => ?_)
      have r_v_1 : RI v_1 0 1 := hp_v_1.1
      refine lv_if_eq (tgt := 51) hx hb dX10_readAnd_20 (by decide) (fun c_20 => ?_) (fun c_20 => ?_)
      · have r_v_1 : RI v_1 0 0 := rc_eq1 r_v_1 rl_0 (ti_eq c_20) (by decide)
        refine lv_aload_n hx hb dX10_readAnd_51 rfl (lv_at hl 0 rfl) ?_
        refine lv_iload_n hx hb dX10_readAnd_52 rfl (lv_at hl 1 rfl) ?_
        refine tg_put (ci := 10) (ts := ty_MODEL) (v := .int x1) (ty := .int) (C := RX10) (T := TX10) (N := 49) hx hb hts inX10 tyX10 tyX10_ok nmX10 hown hK hw h_p0 rfl rfl 48 (by decide) (hts _ tw_1185) (fun _ h9 => h9) rfl (by decide +kernel) rfl rfl (ft := vI (-2147483648) 2147483647) rfl ⟨_, rfl, (r_x1.to (by decide))⟩ (by decide) dX10_readAnd_53 (fun ws H locs hw n_k_2 hF9 => ?_)
        have m_z0_46 := FLD.over hF9 m_z0_46 (by decide)
        have m_z0_47 := FLD.over hF9 m_z0_47 (by decide)
        have x_SNW_p0_gd_1_gz_gg__1 := SNW.over hF9 x_SNW_p0_gd_1_gz_gg__1 (by decide)
        have f6 := SNL.le x_SNW_p0_gd_1_gz_gg__1.1
        have f7 := x_SNW_p0_gd_1_gz_gg__1.2
        have x_SNT_p0_gd_1_gh_1_gg : SNT ws p0 (gd+1) (gh+1) (gg) := (SNL.snt x_SNW_p0_gd_1_gz_gg__1.1 n_k_2).weak (by have d_8 := SNp.le x_SN_p0_gd_gh_gg; omega)
        refine lv_iconst (v := 1) hx hb dX10_readAnd_56 (by decide) ?_
        subst hQ
        exact W.zret (v := 1) hx hb hr (rfl) (fun t ht hW => ⟨⟨1, ws, rfl, ⟨⟨rl_1.to (by decide), (fun h0 => absurd h0 (by decide)), (fun h0 => ⟨⟨_, m_z0_46, r_z0_46⟩, ⟨_, m_z0_47, r_z0_47⟩, ⟨_, n_k_2, r_x1⟩, x_SNT_p0_gd_1_gh_1_gg, trivial⟩)⟩, hw.1, hw.2.2.2.2.1⟩, by rw [ht]; exact hw.2.1, va_K.moved hW.alike hK, hw.2.2.1⟩, hw.2.2.2.1.F ht⟩) hw.2.2.2.1.2.2 dX10_readAnd_57
      · have r_v_1 : RI v_1 1 1 := rc_neL r_v_1 rl_0 (ti_ne c_20) (by decide)
        refine lv_aload_n hx hb dX10_readAnd_23 rfl (lv_at hl 0 rfl) ?_
        refine tk_v (va_runV (As := []) (rest := []) ⟨hx, hb, hml, hown, hts⟩ (c_X10_go l D cy z H.size Ps ws hw.1 p0 h_p0) (cwV 0 hts (gV tw_1298 tw_1300 ts_40 tw_15 tw_1301) rfl rfl rfl (by decide +kernel) ⟨Nat.le_of_ble_eq_true rfl, Nat.le_of_ble_eq_true rfl⟩) (tg_preV hw hK hSD hA (ci := 10) (q := (RX10, TX10, 49)) rfl h_p0 rfl) rfl rfl hl.1 rfl (lv_room (Nat.le_of_ble_eq_true rfl)) dX10_readAnd_24 ⟨Nat.le_of_ble_eq_true rfl, Nat.le_of_ble_eq_true rfl⟩) hw hA ⟨by decide, by decide⟩ (fun ws H locs hp_v_3 hw hF9 => ?_)
        have m_z0_46 := FLD.over hF9 m_z0_46 (by decide)
        have m_z0_47 := FLD.over hF9 m_z0_47 (by decide)
        have m_z0_48 := FLD.over hF9 m_z0_48 (by decide)
        have x_SNW_p0_gd_1_gz_gg__1 := SNW.over hF9 x_SNW_p0_gd_1_gz_gg__1 (by decide)
        refine lv_aload_n hx hb dX10_readAnd_27 rfl (lv_at hl 0 rfl) ?_
        have f9 := SNL.sn x_SNW_p0_gd_1_gz_gg__1.1
        have f8 := f9.2
        have f7 := x_SNW_p0_gd_1_gz_gg__1.2
        have f6 := SNL.le x_SNW_p0_gd_1_gz_gg__1.1
        have x_SN_p0_gd_1_gz_max_gg__Int32_toInt_x1___1_ : SNp ws p0 (gd+1) (gz) (max gg (Int32.toInt x1 + 1)) := f9.1
        refine tk_i (va_runV (As := []) (rest := []) ⟨hx, hb, hml, hown, hts⟩ (c_X10_readSaid__6 l D cy z H.size Ps ws hw.1 p0 z0_47 (gd+1) (gz) (max gg (Int32.toInt x1 + 1)) h_p0 r_z0_47 m_z0_47 x_SN_p0_gd_1_gz_max_gg__Int32_toInt_x1___1_) (cwV 0 hts (gV tw_1759 tw_1761 ts_113 tw_15 tw_1762) rfl rfl rfl (by decide +kernel) ⟨Nat.le_of_ble_eq_true rfl, Nat.le_of_ble_eq_true rfl⟩) (tg_preV hw hK hSD hA (ci := 10) (q := (RX10, TX10, 49)) rfl h_p0 rfl) rfl rfl hl.1 rfl (lv_room (Nat.le_of_ble_eq_true rfl)) dX10_readAnd_28 ⟨Nat.le_of_ble_eq_true rfl, Nat.le_of_ble_eq_true rfl⟩) hw hA ⟨by decide, by decide⟩ (fun v_4 ws H locs hp_v_4 hw hF9 => ?_)
        have r_v_4 : RI v_4 0 1 := hp_v_4.1
        by_cases c9_v_4 : v_4 = 0
        · have r_v_4 : RI v_4 0 0 := by rw [c9_v_4]; exact rl_0
          obtain ⟨v_5, m_v_5, r_v_5⟩ := ((hp_v_4.2.1 c9_v_4).1)
          refine lv_if_ne (tgt := 36) hx hb dX10_readAnd_31 (by decide) (fun c_31 => ?_) (fun c_31 => ?_)
          · exact absurd (r_v_4.eq.trans rl_0.eq.symm) ((ti_ne c_31))
          · refine lv_iconst (v := 0) hx hb dX10_readAnd_34 (by decide) ?_
            subst hQ
            exact W.zret (v := 0) hx hb hr (rfl) (fun t ht hW => ⟨⟨0, ws, rfl, ⟨⟨rl_0.to (by decide), (fun h0 => ⟨⟨_, m_v_5, r_v_5⟩, trivial⟩), (fun h0 => absurd rfl h0)⟩, hw.1, hw.2.2.2.2.1⟩, by rw [ht]; exact hw.2.1, va_K.moved hW.alike hK, hw.2.2.1⟩, hw.2.2.2.1.F ht⟩) hw.2.2.2.1.2.2 dX10_readAnd_35
        · have r_v_4 : RI v_4 1 1 := rc_neL r_v_4 rl_0 (ti_ne c9_v_4) (by decide)
          obtain ⟨v_6, m_v_6, r_v_6⟩ := ((hp_v_4.2.2 c9_v_4).1)
          obtain ⟨v_7, m_v_7, r_v_7⟩ := ((hp_v_4.2.2 c9_v_4).2.1)
          obtain ⟨v_8, m_v_8, r_v_8⟩ := ((hp_v_4.2.2 c9_v_4).2.2.1)
          have x_SNT_p0_gd_2_gz_1_max_gg__Int32_toInt_x1___1_ := ((hp_v_4.2.2 c9_v_4).2.2.2.1)
          refine lv_if_ne (tgt := 36) hx hb dX10_readAnd_31 (by decide) (fun c_31 => ?_) (fun c_31 => ?_)
          · refine lv_aload_n hx hb dX10_readAnd_36 rfl (lv_at hl 0 rfl) ?_
            refine lv_iconst (v := 2) hx hb dX10_readAnd_37 (by decide) ?_
            refine lv_iload_n hx hb dX10_readAnd_38 rfl (lv_at hl 1 rfl) ?_
            refine lv_aload_n hx hb dX10_readAnd_39 rfl (lv_at hl 0 rfl) ?_
            refine tg_mem (ci := 10) (C := RX10) (T := TX10) (N := 49) hx hb hts inX10 hown hK hw 48 m_v_7 rfl (by decide) (hts _ tw_1185) (fun _ h9 => h9) dX10_readAnd_40 ?_
            refine lv_iconst (v := 0) hx hb dX10_readAnd_43 (by decide) ?_
            have l9 := SNT.top hw x_SNT_p0_gd_2_gz_1_max_gg__Int32_toInt_x1___1_ m_v_7
            have l8 := SNT.sn x_SNT_p0_gd_2_gz_1_max_gg__Int32_toInt_x1___1_
            have x_SNI_p0_gd_1_gz_1_gg : SNI ws p0 (gd+1) (gz+1) (gg) := SNp.sni l8 (by have d_8 := SNp.le x_SN_p0_gd_gh_gg; omega)
            have x_LTN_p0_x1 : LTN ws p0 (x1) := SNp.ltn l8 f8
            have x_LTN_p0_v_7 : LTN ws p0 (v_7) := l9.ltn
            refine tk_i (va_runV (As := [.int 2, .int x1, .int v_7, .int 0]) (rest := []) ⟨hx, hb, hml, hown, hts⟩ (c_X10_saysOne__1 l D cy z H.size Ps ws hw.1 p0 2 x1 v_7 0 (gd+1) (gz+1) (gg) h_p0 (rl_2.to (by decide)) (r_x1.to (by decide)) (r_v_7.to (by decide)) (rl_0.to (by decide)) x_SNI_p0_gd_1_gz_1_gg x_LTN_p0_x1 x_LTN_p0_v_7) (cwV 4 hts (gV tw_1771 tw_1773 ts_116 tw_15 tw_1774) rfl rfl rfl (by decide +kernel) ⟨Nat.le_of_ble_eq_true rfl, Nat.le_of_ble_eq_true rfl⟩) (tg_preV hw hK hSD hA (ci := 10) (q := (RX10, TX10, 49)) rfl h_p0 rfl) rfl rfl hl.1 rfl (lv_room (Nat.le_of_ble_eq_true rfl)) dX10_readAnd_44 ⟨Nat.le_of_ble_eq_true rfl, Nat.le_of_ble_eq_true rfl⟩) hw hA ⟨by decide, by decide⟩ (fun v_9 ws H locs hp_v_9 hw hF9 => ?_)
            have m_v_6 := FLD.over hF9 m_v_6 (by decide)
            have m_v_7 := FLD.over hF9 m_v_7 (by decide)
            have m_v_8 := FLD.over hF9 m_v_8 (by decide)
            have r_v_9 : RI v_9 0 39 := hp_v_9.1
            have x_SNL_p0_gd_1_gz_1_gg_v_9 := hp_v_9.2.2.2.1.1
            refine lv_istore_n (lv' := [(1, .int v_9), (0, .ref p0)]) hx hb dX10_readAnd_47 rfl hl (by decide) rfl (fun ls hl => ?_)
            refine lv_goto (tgt := 14) hx hb dX10_readAnd_48 (by decide) ?_
            have x_SNW_p0_gd_1_gz_1_gg_v_9 : (SNL ws p0 (gd+1) (gz+1) (gg) v_9 ∧ gh + 1 ≤ gz+1) := ⟨x_SNL_p0_gd_1_gz_1_gg_v_9, by omega⟩
            exact ih14 v_9 v_6 v_8 v_7 (gz+1) ws _ _ ls (by have d_8 := SNp.le x_SN_p0_gd_gh_gg; omega) r_v_9 r_v_6 m_v_6 r_v_8 m_v_8 r_v_7 m_v_7 x_SNW_p0_gd_1_gz_1_gg_v_9 hw (lv_sub hl [1, 0] rfl)
          · have r_v_4 : RI v_4 1 0 := rc_eq1 r_v_4 rl_0 (ti_eq c_31) (by decide)
            exact (r_v_4.no (by decide)).elim
  refine lv_aload_n hx hb dX10_readAnd_0 rfl (lv_at hl 0 rfl) ?_
  refine tk_i (va_runV (As := []) (rest := []) ⟨hx, hb, hml, hown, hts⟩ (c_X10_readSaid__6 l D cy z s.heap.size Ps w0 hw.1 p0 f0_47 (gd) (gh) (gg) h_p0 r_f0_47 m_f0_47 x_SN_p0_gd_gh_gg) (cwV 0 hts (gV tw_1759 tw_1761 ts_113 tw_15 tw_1762) rfl rfl rfl (by decide +kernel) ⟨Nat.le_of_ble_eq_true rfl, Nat.le_of_ble_eq_true rfl⟩) (tg_preV hw hK hSD hA (ci := 10) (q := (RX10, TX10, 49)) rfl h_p0 rfl) rfl rfl hl.1 rfl (lv_room (Nat.le_of_ble_eq_true rfl)) dX10_readAnd_1 ⟨Nat.le_of_ble_eq_true rfl, Nat.le_of_ble_eq_true rfl⟩) hw hA ⟨by decide, by decide⟩ (fun v_10 ws H locs hp_v_10 hw hF9 => ?_)
  have r_v_10 : RI v_10 0 1 := hp_v_10.1
  by_cases c9_v_10 : v_10 = 0
  · have r_v_10 : RI v_10 0 0 := by rw [c9_v_10]; exact rl_0
    obtain ⟨v_11, m_v_11, r_v_11⟩ := ((hp_v_10.2.1 c9_v_10).1)
    refine lv_if_ne (tgt := 9) hx hb dX10_readAnd_4 (by decide) (fun c_4 => ?_) (fun c_4 => ?_)
    · exact absurd (r_v_10.eq.trans rl_0.eq.symm) ((ti_ne c_4))
    · refine lv_iconst (v := 0) hx hb dX10_readAnd_7 (by decide) ?_
      subst hQ
      exact W.zret (v := 0) hx hb hr (rfl) (fun t ht hW => ⟨⟨0, ws, rfl, ⟨⟨rl_0.to (by decide), (fun h0 => ⟨⟨_, m_v_11, r_v_11⟩, trivial⟩), (fun h0 => absurd rfl h0)⟩, hw.1, hw.2.2.2.2.1⟩, by rw [ht]; exact hw.2.1, va_K.moved hW.alike hK, hw.2.2.1⟩, hw.2.2.2.1.F ht⟩) hw.2.2.2.1.2.2 dX10_readAnd_8
  · have r_v_10 : RI v_10 1 1 := rc_neL r_v_10 rl_0 (ti_ne c9_v_10) (by decide)
    obtain ⟨v_12, m_v_12, r_v_12⟩ := ((hp_v_10.2.2 c9_v_10).1)
    obtain ⟨v_13, m_v_13, r_v_13⟩ := ((hp_v_10.2.2 c9_v_10).2.1)
    obtain ⟨v_14, m_v_14, r_v_14⟩ := ((hp_v_10.2.2 c9_v_10).2.2.1)
    have x_SNT_p0_gd_1_gh_1_gg := ((hp_v_10.2.2 c9_v_10).2.2.2.1)
    refine lv_if_ne (tgt := 9) hx hb dX10_readAnd_4 (by decide) (fun c_4 => ?_) (fun c_4 => ?_)
    · refine lv_aload_n hx hb dX10_readAnd_9 rfl (lv_at hl 0 rfl) ?_
      refine tg_mem (ci := 10) (C := RX10) (T := TX10) (N := 49) hx hb hts inX10 hown hK hw 48 m_v_13 rfl (by decide) (hts _ tw_1185) (fun _ h9 => h9) dX10_readAnd_10 ?_
      refine lv_istore_n (lv' := [(1, .int v_13), (0, .ref p0)]) hx hb dX10_readAnd_13 rfl hl (by decide) rfl (fun ls hl => ?_)
      have x_SNW_p0_gd_1_gh_1_gg_v_13 : (SNL ws p0 (gd+1) (gh+1) (gg) v_13 ∧ gh + 1 ≤ gh+1) := ⟨SNT.top hw x_SNT_p0_gd_1_gh_1_gg m_v_13, by omega⟩
      exact B14 4294967298 v_13 v_12 v_14 v_13 (gh+1) ws _ _ ls (by have d_8 := SNp.le x_SN_p0_gd_gh_gg; omega) r_v_13 r_v_12 m_v_12 r_v_14 m_v_14 r_v_13 m_v_13 x_SNW_p0_gd_1_gh_1_gg_v_13 hw (lv_sub hl [1, 0] rfl)
    · have r_v_10 : RI v_10 1 0 := rc_eq1 r_v_10 rl_0 (ti_eq c_4) (by decide)
      exact (r_v_10.no (by decide)).elim
abbrev wr_X10_readOr__6 : List (Nat × Nat) := [(10, 5), (10, 6), (10, 7), (10, 8), (10, 9), (10, 10), (10, 11), (10, 12), (10, 13), (10, 45), (10, 46), (10, 47), (10, 48)]
abbrev wa_X10_readOr__6 : List Nat := [54]
set_option maxHeartbeats 4000000 in
set_option maxRecDepth 100000 in
theorem c_X10_readOr__6 (l : Launch) (D : va_G) (cy : Nat → ClassId) (z : Nat → Nat) (sz : Nat) (Ps : PSI) (w0 : va_W) (hT : HT cy GG Ps w0) (p0 : Nat) (f0_47 : Int32) (gd : Int) (gh : Int) (gg : Int) (h_p0 : (p0, 55) ∈ Ps) (r_f0_47 : RI f0_47 6 6) (m_f0_47 : FLD w0 p0 10 47 (.int f0_47)) (x_SN_p0_gd_gh_gg : SNp w0 p0 (gd) (gh) (gg)) : Met l yX10_readOr (Cond.code yX10_readOr cX10_readOr 2 (some .boolean) :: gT) ({ frames := 14, cells := 0, slots := 0, locals := 2800 } : Room) (va_Pc [.ref p0] (PRE D cy z w0 sz)) (va_Qi (fun (r : Int32) (u : va_W) => (RI r 0 1 ∧ (r = 0 → (∃ v9 : Int32, FLD u p0 10 47 (.int v9) ∧ RI v9 6 6) ∧ True) ∧ (¬ r = 0 → (∃ v9 : Int32, FLD u p0 10 46 (.int v9) ∧ RI v9 1 20) ∧ (∃ v9 : Int32, FLD u p0 10 47 (.int v9) ∧ RI v9 6 6) ∧ (∃ v9 : Int32, FLD u p0 10 48 (.int v9) ∧ RI v9 0 39) ∧ SNT u p0 (gd+1) (gh+1) (gg) ∧ True)) ∧ HT cy GG Ps u ∧ FR wr_X10_readOr__6 wa_X10_readOr__6 Ps w0 u) (BB D cy (va_A w0 sz) (fun (u : va_W) => u)) (va_A w0 sz)) 0 0 (va_A w0 sz) := by
  refine Met.ofW (cc := cX10_readOr) (maxL := 2) (ret := (some .boolean)) (by decide) rfl ?_
  intro p e s m args below meth c s₁ B hml hv
  obtain ⟨rfl, hsz, hP, hK, hD0, hSD⟩ := hv
  have hx := B.exec
  have hb := B.bytes
  have hr := B.returns
  have hlocks := B.notSynchronized
  have hts : ∀ w ∈ gT, w.before _ s = true := fun w h => atoms_spec (ws := Cond.code yX10_readOr cX10_readOr 2 (some .boolean) :: gT) B.pre w (List.mem_cons_of_mem _ h)
  have hown : s.vm.findClass RX10 = some m.cls := findClass_of_methodNamed B.named
  subst hsz
  have hD := hD0.self (sz := s.heap.size)
  generalize hAe : va_A w0 s.heap.size = A at hD hSD ⊢
  have hA : ∀ q : Nat, s.heap.size ≤ q → A q := fun q h => by rw [← hAe]; exact Or.inr h
  have hl := lv_entry ([.ref p0]) (n := 2) (Nat.le_of_ble_eq_true rfl)
  rw [lg_entry_eq]
  generalize (lg_sl ([.ref p0]) ++ List.replicate (2 - (lg_sl ([.ref p0])).length) Slot.unset).toArray = ls at hl ⊢
  have hl : lv_has ls 2 [(0, .ref p0)] := hl
  refine nameQ (fun Q hQ => ?_)
  have hw : WD D cy GG A s wr_X10_readOr__6 wa_X10_readOr__6 Ps w0 Ps w0 s.heap [] := ⟨hT, hP, hD, va_S.rf, FR.rf, hT.1, [], (List.append_nil _).symm⟩
  have B14 : ∀ (nf : Nat) (x1 : Int32) (z0_46 : Int32) (z0_47 : Int32) (z0_48 : Int32) (gz : Int) (ws : va_W) (H : Heap) (locs : List Loc) (ls : Array Slot), 21 - gz < (nf : Int) → RI x1 0 39 → RI z0_46 1 20 → FLD ws p0 10 46 (.int z0_46) → RI z0_47 6 6 → FLD ws p0 10 47 (.int z0_47) → RI z0_48 0 39 → FLD ws p0 10 48 (.int z0_48) → (SNL ws p0 (gd+1) (gz) (gg) x1 ∧ gh + 1 ≤ gz) → WD D cy GG A s wr_X10_readOr__6 wa_X10_readOr__6 Ps w0 Ps ws H locs → lv_has ls 2 [(0, .ref p0), (1, .int x1)] → W p l e (headSpec (Cond.code yX10_readOr cX10_readOr 2 (some .boolean) :: gT) ({ frames := 14, cells := 0, slots := 0, locals := 2800 } : Room)).room s m ([.ref p0] : List Value).toArray below meth c H locs 0 0 Q (F0 m 14 ls []) := by
    intro nf14
    induction nf14 with
    | zero =>
      intro x1 z0_46 z0_47 z0_48 gz ws H locs ls hn14 r_x1 r_z0_46 m_z0_46 r_z0_47 m_z0_47 r_z0_48 m_z0_48 x_SNW_p0_gd_1_gz_gg__1 hw hl
      exact absurd hn14 (by have q9 := SNL.le x_SNW_p0_gd_1_gz_gg__1.1; omega)
    | succ nf14 ih14 =>
      intro x1 z0_46 z0_47 z0_48 gz ws H locs ls hn14 r_x1 r_z0_46 m_z0_46 r_z0_47 m_z0_47 r_z0_48 m_z0_48 x_SNW_p0_gd_1_gz_gg__1 hw hl
      refine lv_aload_n hx hb dX10_readOr_14 rfl (lv_at hl 0 rfl) ?_
      refine lv_bipush (v := 16) hx hb dX10_readOr_15 (by decide) ?_
      refine tk_ir (va_runV (As := [.int 16]) (rest := []) ⟨hx, hb, hml, hown, hts⟩ (c_X10_isWord l D cy z H.size Ps ws hw.1 p0 16 h_p0 (rl_16.to (by decide))) (cwV 1 hts (gV tw_1318 tw_1320 ts_43 tw_15 tw_1321) rfl rfl rfl (by decide +kernel) ⟨Nat.le_of_ble_eq_true rfl, Nat.le_of_ble_eq_true rfl⟩) (tg_preV hw hK hSD hA (ci := 10) (q := (RX10, TX10, 49)) rfl h_p0 rfl) rfl rfl hl.1 rfl (lv_room (Nat.le_of_ble_eq_true rfl)) dX10_readOr_17 ⟨Nat.le_of_ble_eq_true rfl, Nat.le_of_ble_eq_true rfl⟩) hw hA (fun v_1  H locs hp_v_1 hw => ?_)
      have r_v_1 : RI v_1 0 1 := hp_v_1.1
      refine lv_if_eq (tgt := 51) hx hb dX10_readOr_20 (by decide) (fun c_20 => ?_) (fun c_20 => ?_)
      · have r_v_1 : RI v_1 0 0 := rc_eq1 r_v_1 rl_0 (ti_eq c_20) (by decide)
        refine lv_aload_n hx hb dX10_readOr_51 rfl (lv_at hl 0 rfl) ?_
        refine lv_iload_n hx hb dX10_readOr_52 rfl (lv_at hl 1 rfl) ?_
        refine tg_put (ci := 10) (ts := ty_MODEL) (v := .int x1) (ty := .int) (C := RX10) (T := TX10) (N := 49) hx hb hts inX10 tyX10 tyX10_ok nmX10 hown hK hw h_p0 rfl rfl 48 (by decide) (hts _ tw_1185) (fun _ h9 => h9) rfl (by decide +kernel) rfl rfl (ft := vI (-2147483648) 2147483647) rfl ⟨_, rfl, (r_x1.to (by decide))⟩ (by decide) dX10_readOr_53 (fun ws H locs hw n_k_2 hF9 => ?_)
        have m_z0_46 := FLD.over hF9 m_z0_46 (by decide)
        have m_z0_47 := FLD.over hF9 m_z0_47 (by decide)
        have x_SNW_p0_gd_1_gz_gg__1 := SNW.over hF9 x_SNW_p0_gd_1_gz_gg__1 (by decide)
        have f6 := SNL.le x_SNW_p0_gd_1_gz_gg__1.1
        have f7 := x_SNW_p0_gd_1_gz_gg__1.2
        have x_SNT_p0_gd_1_gh_1_gg : SNT ws p0 (gd+1) (gh+1) (gg) := (SNL.snt x_SNW_p0_gd_1_gz_gg__1.1 n_k_2).weak (by have d_8 := SNp.le x_SN_p0_gd_gh_gg; omega)
        refine lv_iconst (v := 1) hx hb dX10_readOr_56 (by decide) ?_
        subst hQ
        exact W.zret (v := 1) hx hb hr (rfl) (fun t ht hW => ⟨⟨1, ws, rfl, ⟨⟨rl_1.to (by decide), (fun h0 => absurd h0 (by decide)), (fun h0 => ⟨⟨_, m_z0_46, r_z0_46⟩, ⟨_, m_z0_47, r_z0_47⟩, ⟨_, n_k_2, r_x1⟩, x_SNT_p0_gd_1_gh_1_gg, trivial⟩)⟩, hw.1, hw.2.2.2.2.1⟩, by rw [ht]; exact hw.2.1, va_K.moved hW.alike hK, hw.2.2.1⟩, hw.2.2.2.1.F ht⟩) hw.2.2.2.1.2.2 dX10_readOr_57
      · have r_v_1 : RI v_1 1 1 := rc_neL r_v_1 rl_0 (ti_ne c_20) (by decide)
        refine lv_aload_n hx hb dX10_readOr_23 rfl (lv_at hl 0 rfl) ?_
        refine tk_v (va_runV (As := []) (rest := []) ⟨hx, hb, hml, hown, hts⟩ (c_X10_go l D cy z H.size Ps ws hw.1 p0 h_p0) (cwV 0 hts (gV tw_1298 tw_1300 ts_40 tw_15 tw_1301) rfl rfl rfl (by decide +kernel) ⟨Nat.le_of_ble_eq_true rfl, Nat.le_of_ble_eq_true rfl⟩) (tg_preV hw hK hSD hA (ci := 10) (q := (RX10, TX10, 49)) rfl h_p0 rfl) rfl rfl hl.1 rfl (lv_room (Nat.le_of_ble_eq_true rfl)) dX10_readOr_24 ⟨Nat.le_of_ble_eq_true rfl, Nat.le_of_ble_eq_true rfl⟩) hw hA ⟨by decide, by decide⟩ (fun ws H locs hp_v_3 hw hF9 => ?_)
        have m_z0_46 := FLD.over hF9 m_z0_46 (by decide)
        have m_z0_47 := FLD.over hF9 m_z0_47 (by decide)
        have m_z0_48 := FLD.over hF9 m_z0_48 (by decide)
        have x_SNW_p0_gd_1_gz_gg__1 := SNW.over hF9 x_SNW_p0_gd_1_gz_gg__1 (by decide)
        refine lv_aload_n hx hb dX10_readOr_27 rfl (lv_at hl 0 rfl) ?_
        have f9 := SNL.sn x_SNW_p0_gd_1_gz_gg__1.1
        have f8 := f9.2
        have f7 := x_SNW_p0_gd_1_gz_gg__1.2
        have f6 := SNL.le x_SNW_p0_gd_1_gz_gg__1.1
        have x_SN_p0_gd_1_gz_max_gg__Int32_toInt_x1___1_ : SNp ws p0 (gd+1) (gz) (max gg (Int32.toInt x1 + 1)) := f9.1
        refine tk_i (va_runV (As := []) (rest := []) ⟨hx, hb, hml, hown, hts⟩ (c_X10_readAnd__6 l D cy z H.size Ps ws hw.1 p0 z0_47 (gd+1) (gz) (max gg (Int32.toInt x1 + 1)) h_p0 r_z0_47 m_z0_47 x_SN_p0_gd_1_gz_max_gg__Int32_toInt_x1___1_) (cwV 0 hts (gV tw_1755 tw_1757 ts_112 tw_15 tw_1758) rfl rfl rfl (by decide +kernel) ⟨Nat.le_of_ble_eq_true rfl, Nat.le_of_ble_eq_true rfl⟩) (tg_preV hw hK hSD hA (ci := 10) (q := (RX10, TX10, 49)) rfl h_p0 rfl) rfl rfl hl.1 rfl (lv_room (Nat.le_of_ble_eq_true rfl)) dX10_readOr_28 ⟨Nat.le_of_ble_eq_true rfl, Nat.le_of_ble_eq_true rfl⟩) hw hA ⟨by decide, by decide⟩ (fun v_4 ws H locs hp_v_4 hw hF9 => ?_)
        have r_v_4 : RI v_4 0 1 := hp_v_4.1
        by_cases c9_v_4 : v_4 = 0
        · have r_v_4 : RI v_4 0 0 := by rw [c9_v_4]; exact rl_0
          obtain ⟨v_5, m_v_5, r_v_5⟩ := ((hp_v_4.2.1 c9_v_4).1)
          refine lv_if_ne (tgt := 36) hx hb dX10_readOr_31 (by decide) (fun c_31 => ?_) (fun c_31 => ?_)
          · exact absurd (r_v_4.eq.trans rl_0.eq.symm) ((ti_ne c_31))
          · refine lv_iconst (v := 0) hx hb dX10_readOr_34 (by decide) ?_
            subst hQ
            exact W.zret (v := 0) hx hb hr (rfl) (fun t ht hW => ⟨⟨0, ws, rfl, ⟨⟨rl_0.to (by decide), (fun h0 => ⟨⟨_, m_v_5, r_v_5⟩, trivial⟩), (fun h0 => absurd rfl h0)⟩, hw.1, hw.2.2.2.2.1⟩, by rw [ht]; exact hw.2.1, va_K.moved hW.alike hK, hw.2.2.1⟩, hw.2.2.2.1.F ht⟩) hw.2.2.2.1.2.2 dX10_readOr_35
        · have r_v_4 : RI v_4 1 1 := rc_neL r_v_4 rl_0 (ti_ne c9_v_4) (by decide)
          obtain ⟨v_6, m_v_6, r_v_6⟩ := ((hp_v_4.2.2 c9_v_4).1)
          obtain ⟨v_7, m_v_7, r_v_7⟩ := ((hp_v_4.2.2 c9_v_4).2.1)
          obtain ⟨v_8, m_v_8, r_v_8⟩ := ((hp_v_4.2.2 c9_v_4).2.2.1)
          have x_SNT_p0_gd_2_gz_1_max_gg__Int32_toInt_x1___1_ := ((hp_v_4.2.2 c9_v_4).2.2.2.1)
          refine lv_if_ne (tgt := 36) hx hb dX10_readOr_31 (by decide) (fun c_31 => ?_) (fun c_31 => ?_)
          · refine lv_aload_n hx hb dX10_readOr_36 rfl (lv_at hl 0 rfl) ?_
            refine lv_iconst (v := 3) hx hb dX10_readOr_37 (by decide) ?_
            refine lv_iload_n hx hb dX10_readOr_38 rfl (lv_at hl 1 rfl) ?_
            refine lv_aload_n hx hb dX10_readOr_39 rfl (lv_at hl 0 rfl) ?_
            refine tg_mem (ci := 10) (C := RX10) (T := TX10) (N := 49) hx hb hts inX10 hown hK hw 48 m_v_8 rfl (by decide) (hts _ tw_1185) (fun _ h9 => h9) dX10_readOr_40 ?_
            refine lv_iconst (v := 0) hx hb dX10_readOr_43 (by decide) ?_
            have l9 := SNT.top hw x_SNT_p0_gd_2_gz_1_max_gg__Int32_toInt_x1___1_ m_v_8
            have l8 := SNT.sn x_SNT_p0_gd_2_gz_1_max_gg__Int32_toInt_x1___1_
            have x_SNI_p0_gd_1_gz_1_gg : SNI ws p0 (gd+1) (gz+1) (gg) := SNp.sni l8 (by have d_8 := SNp.le x_SN_p0_gd_gh_gg; omega)
            have x_LTN_p0_x1 : LTN ws p0 (x1) := SNp.ltn l8 f8
            have x_LTN_p0_v_8 : LTN ws p0 (v_8) := l9.ltn
            refine tk_i (va_runV (As := [.int 3, .int x1, .int v_8, .int 0]) (rest := []) ⟨hx, hb, hml, hown, hts⟩ (c_X10_saysOne__1 l D cy z H.size Ps ws hw.1 p0 3 x1 v_8 0 (gd+1) (gz+1) (gg) h_p0 (rl_3.to (by decide)) (r_x1.to (by decide)) (r_v_8.to (by decide)) (rl_0.to (by decide)) x_SNI_p0_gd_1_gz_1_gg x_LTN_p0_x1 x_LTN_p0_v_8) (cwV 4 hts (gV tw_1771 tw_1773 ts_116 tw_15 tw_1774) rfl rfl rfl (by decide +kernel) ⟨Nat.le_of_ble_eq_true rfl, Nat.le_of_ble_eq_true rfl⟩) (tg_preV hw hK hSD hA (ci := 10) (q := (RX10, TX10, 49)) rfl h_p0 rfl) rfl rfl hl.1 rfl (lv_room (Nat.le_of_ble_eq_true rfl)) dX10_readOr_44 ⟨Nat.le_of_ble_eq_true rfl, Nat.le_of_ble_eq_true rfl⟩) hw hA ⟨by decide, by decide⟩ (fun v_9 ws H locs hp_v_9 hw hF9 => ?_)
            have m_v_6 := FLD.over hF9 m_v_6 (by decide)
            have m_v_7 := FLD.over hF9 m_v_7 (by decide)
            have m_v_8 := FLD.over hF9 m_v_8 (by decide)
            have r_v_9 : RI v_9 0 39 := hp_v_9.1
            have x_SNL_p0_gd_1_gz_1_gg_v_9 := hp_v_9.2.2.2.1.1
            refine lv_istore_n (lv' := [(1, .int v_9), (0, .ref p0)]) hx hb dX10_readOr_47 rfl hl (by decide) rfl (fun ls hl => ?_)
            refine lv_goto (tgt := 14) hx hb dX10_readOr_48 (by decide) ?_
            have x_SNW_p0_gd_1_gz_1_gg_v_9 : (SNL ws p0 (gd+1) (gz+1) (gg) v_9 ∧ gh + 1 ≤ gz+1) := ⟨x_SNL_p0_gd_1_gz_1_gg_v_9, by omega⟩
            exact ih14 v_9 v_6 v_7 v_8 (gz+1) ws _ _ ls (by have d_8 := SNp.le x_SN_p0_gd_gh_gg; omega) r_v_9 r_v_6 m_v_6 r_v_7 m_v_7 r_v_8 m_v_8 x_SNW_p0_gd_1_gz_1_gg_v_9 hw (lv_sub hl [1, 0] rfl)
          · have r_v_4 : RI v_4 1 0 := rc_eq1 r_v_4 rl_0 (ti_eq c_31) (by decide)
            exact (r_v_4.no (by decide)).elim
  refine lv_aload_n hx hb dX10_readOr_0 rfl (lv_at hl 0 rfl) ?_
  refine tk_i (va_runV (As := []) (rest := []) ⟨hx, hb, hml, hown, hts⟩ (c_X10_readAnd__6 l D cy z s.heap.size Ps w0 hw.1 p0 f0_47 (gd) (gh) (gg) h_p0 r_f0_47 m_f0_47 x_SN_p0_gd_gh_gg) (cwV 0 hts (gV tw_1755 tw_1757 ts_112 tw_15 tw_1758) rfl rfl rfl (by decide +kernel) ⟨Nat.le_of_ble_eq_true rfl, Nat.le_of_ble_eq_true rfl⟩) (tg_preV hw hK hSD hA (ci := 10) (q := (RX10, TX10, 49)) rfl h_p0 rfl) rfl rfl hl.1 rfl (lv_room (Nat.le_of_ble_eq_true rfl)) dX10_readOr_1 ⟨Nat.le_of_ble_eq_true rfl, Nat.le_of_ble_eq_true rfl⟩) hw hA ⟨by decide, by decide⟩ (fun v_10 ws H locs hp_v_10 hw hF9 => ?_)
  have r_v_10 : RI v_10 0 1 := hp_v_10.1
  by_cases c9_v_10 : v_10 = 0
  · have r_v_10 : RI v_10 0 0 := by rw [c9_v_10]; exact rl_0
    obtain ⟨v_11, m_v_11, r_v_11⟩ := ((hp_v_10.2.1 c9_v_10).1)
    refine lv_if_ne (tgt := 9) hx hb dX10_readOr_4 (by decide) (fun c_4 => ?_) (fun c_4 => ?_)
    · exact absurd (r_v_10.eq.trans rl_0.eq.symm) ((ti_ne c_4))
    · refine lv_iconst (v := 0) hx hb dX10_readOr_7 (by decide) ?_
      subst hQ
      exact W.zret (v := 0) hx hb hr (rfl) (fun t ht hW => ⟨⟨0, ws, rfl, ⟨⟨rl_0.to (by decide), (fun h0 => ⟨⟨_, m_v_11, r_v_11⟩, trivial⟩), (fun h0 => absurd rfl h0)⟩, hw.1, hw.2.2.2.2.1⟩, by rw [ht]; exact hw.2.1, va_K.moved hW.alike hK, hw.2.2.1⟩, hw.2.2.2.1.F ht⟩) hw.2.2.2.1.2.2 dX10_readOr_8
  · have r_v_10 : RI v_10 1 1 := rc_neL r_v_10 rl_0 (ti_ne c9_v_10) (by decide)
    obtain ⟨v_12, m_v_12, r_v_12⟩ := ((hp_v_10.2.2 c9_v_10).1)
    obtain ⟨v_13, m_v_13, r_v_13⟩ := ((hp_v_10.2.2 c9_v_10).2.1)
    obtain ⟨v_14, m_v_14, r_v_14⟩ := ((hp_v_10.2.2 c9_v_10).2.2.1)
    have x_SNT_p0_gd_1_gh_1_gg := ((hp_v_10.2.2 c9_v_10).2.2.2.1)
    refine lv_if_ne (tgt := 9) hx hb dX10_readOr_4 (by decide) (fun c_4 => ?_) (fun c_4 => ?_)
    · refine lv_aload_n hx hb dX10_readOr_9 rfl (lv_at hl 0 rfl) ?_
      refine tg_mem (ci := 10) (C := RX10) (T := TX10) (N := 49) hx hb hts inX10 hown hK hw 48 m_v_14 rfl (by decide) (hts _ tw_1185) (fun _ h9 => h9) dX10_readOr_10 ?_
      refine lv_istore_n (lv' := [(1, .int v_14), (0, .ref p0)]) hx hb dX10_readOr_13 rfl hl (by decide) rfl (fun ls hl => ?_)
      have x_SNW_p0_gd_1_gh_1_gg_v_14 : (SNL ws p0 (gd+1) (gh+1) (gg) v_14 ∧ gh + 1 ≤ gh+1) := ⟨SNT.top hw x_SNT_p0_gd_1_gh_1_gg m_v_14, by omega⟩
      exact B14 4294967298 v_14 v_12 v_13 v_14 (gh+1) ws _ _ ls (by have d_8 := SNp.le x_SN_p0_gd_gh_gg; omega) r_v_14 r_v_12 m_v_12 r_v_13 m_v_13 r_v_14 m_v_14 x_SNW_p0_gd_1_gh_1_gg_v_14 hw (lv_sub hl [1, 0] rfl)
    · have r_v_10 : RI v_10 1 0 := rc_eq1 r_v_10 rl_0 (ti_eq c_4) (by decide)
      exact (r_v_10.no (by decide)).elim
abbrev wr_X10_readBracket__5 : List (Nat × Nat) := [(10, 5), (10, 6), (10, 7), (10, 8), (10, 9), (10, 10), (10, 11), (10, 12), (10, 13), (10, 45), (10, 46), (10, 47), (10, 48)]
abbrev wa_X10_readBracket__5 : List Nat := [54]
set_option maxHeartbeats 4000000 in
set_option maxRecDepth 100000 in
theorem c_X10_readBracket__5 (l : Launch) (D : va_G) (cy : Nat → ClassId) (z : Nat → Nat) (sz : Nat) (Ps : PSI) (w0 : va_W) (hT : HT cy GG Ps w0) (p0 : Nat) (f0_47 : Int32) (gd : Int) (gh : Int) (gg : Int) (h_p0 : (p0, 55) ∈ Ps) (r_f0_47 : RI f0_47 6 6) (m_f0_47 : FLD w0 p0 10 47 (.int f0_47)) (x_SNI_p0_gd_gh_gg : SNI w0 p0 (gd) (gh) (gg)) : Met l yX10_readBracket (Cond.code yX10_readBracket cX10_readBracket 1 (some .boolean) :: gT) ({ frames := 15, cells := 0, slots := 0, locals := 3000 } : Room) (va_Pc [.ref p0] (PRE D cy z w0 sz)) (va_Qi (fun (r : Int32) (u : va_W) => (RI r 0 1 ∧ (r = 0 → (∃ v9 : Int32, FLD u p0 10 47 (.int v9) ∧ RI v9 6 6) ∧ True) ∧ (¬ r = 0 → (∃ v9 : Int32, FLD u p0 10 46 (.int v9) ∧ RI v9 1 20) ∧ (∃ v9 : Int32, FLD u p0 10 47 (.int v9) ∧ RI v9 6 6) ∧ (∃ v9 : Int32, FLD u p0 10 48 (.int v9) ∧ RI v9 0 39) ∧ SNT u p0 (gd) (gh) (gg) ∧ True)) ∧ HT cy GG Ps u ∧ FR wr_X10_readBracket__5 wa_X10_readBracket__5 Ps w0 u) (BB D cy (va_A w0 sz) (fun (u : va_W) => u)) (va_A w0 sz)) 0 0 (va_A w0 sz) := by
  refine Met.ofW (cc := cX10_readBracket) (maxL := 1) (ret := (some .boolean)) (by decide) rfl ?_
  intro p e s m args below meth c s₁ B hml hv
  obtain ⟨rfl, hsz, hP, hK, hD0, hSD⟩ := hv
  have hx := B.exec
  have hb := B.bytes
  have hr := B.returns
  have hlocks := B.notSynchronized
  have hts : ∀ w ∈ gT, w.before _ s = true := fun w h => atoms_spec (ws := Cond.code yX10_readBracket cX10_readBracket 1 (some .boolean) :: gT) B.pre w (List.mem_cons_of_mem _ h)
  have hown : s.vm.findClass RX10 = some m.cls := findClass_of_methodNamed B.named
  subst hsz
  have hD := hD0.self (sz := s.heap.size)
  generalize hAe : va_A w0 s.heap.size = A at hD hSD ⊢
  have hA : ∀ q : Nat, s.heap.size ≤ q → A q := fun q h => by rw [← hAe]; exact Or.inr h
  have hl := lv_entry ([.ref p0]) (n := 1) (Nat.le_of_ble_eq_true rfl)
  rw [lg_entry_eq]
  generalize (lg_sl ([.ref p0]) ++ List.replicate (1 - (lg_sl ([.ref p0])).length) Slot.unset).toArray = ls at hl ⊢
  have hl : lv_has ls 1 [(0, .ref p0)] := hl
  refine nameQ (fun Q hQ => ?_)
  have hw : WD D cy GG A s wr_X10_readBracket__5 wa_X10_readBracket__5 Ps w0 Ps w0 s.heap [] := ⟨hT, hP, hD, va_S.rf, FR.rf, hT.1, [], (List.append_nil _).symm⟩
  refine lv_aload_n hx hb dX10_readBracket_0 rfl (lv_at hl 0 rfl) ?_
  have d_8 := x_SNI_p0_gd_gh_gg.1
  have x_SN_p0_gd_1_gh_gg : SNp w0 p0 (gd+1) (gh) (gg) := x_SNI_p0_gd_gh_gg.2
  refine tk_i (va_runV (As := []) (rest := []) ⟨hx, hb, hml, hown, hts⟩ (c_X10_readOr__6 l D cy z s.heap.size Ps w0 hw.1 p0 f0_47 (gd+1) (gh) (gg) h_p0 r_f0_47 m_f0_47 x_SN_p0_gd_1_gh_gg) (cwV 0 hts (gV tw_1751 tw_1753 ts_111 tw_15 tw_1754) rfl rfl rfl (by decide +kernel) ⟨Nat.le_of_ble_eq_true rfl, Nat.le_of_ble_eq_true rfl⟩) (tg_preV hw hK hSD hA (ci := 10) (q := (RX10, TX10, 49)) rfl h_p0 rfl) rfl rfl hl.1 rfl (lv_room (Nat.le_of_ble_eq_true rfl)) dX10_readBracket_1 ⟨Nat.le_of_ble_eq_true rfl, Nat.le_of_ble_eq_true rfl⟩) hw hA ⟨by decide, by decide⟩ (fun v_1 ws H locs hp_v_1 hw hF9 => ?_)
  have r_v_1 : RI v_1 0 1 := hp_v_1.1
  by_cases c9_v_1 : v_1 = 0
  · have r_v_1 : RI v_1 0 0 := by rw [c9_v_1]; exact rl_0
    obtain ⟨v_2, m_v_2, r_v_2⟩ := ((hp_v_1.2.1 c9_v_1).1)
    refine lv_if_ne (tgt := 9) hx hb dX10_readBracket_4 (by decide) (fun c_4 => ?_) (fun c_4 => ?_)
    · exact absurd (r_v_1.eq.trans rl_0.eq.symm) ((ti_ne c_4))
    · refine lv_iconst (v := 0) hx hb dX10_readBracket_7 (by decide) ?_
      subst hQ
      exact W.zret (v := 0) hx hb hr (rfl) (fun t ht hW => ⟨⟨0, ws, rfl, ⟨⟨rl_0.to (by decide), (fun h0 => ⟨⟨_, m_v_2, r_v_2⟩, trivial⟩), (fun h0 => absurd rfl h0)⟩, hw.1, hw.2.2.2.2.1⟩, by rw [ht]; exact hw.2.1, va_K.moved hW.alike hK, hw.2.2.1⟩, hw.2.2.2.1.F ht⟩) hw.2.2.2.1.2.2 dX10_readBracket_8
  · have r_v_1 : RI v_1 1 1 := rc_neL r_v_1 rl_0 (ti_ne c9_v_1) (by decide)
    obtain ⟨v_3, m_v_3, r_v_3⟩ := ((hp_v_1.2.2 c9_v_1).1)
    obtain ⟨v_4, m_v_4, r_v_4⟩ := ((hp_v_1.2.2 c9_v_1).2.1)
    obtain ⟨v_5, m_v_5, r_v_5⟩ := ((hp_v_1.2.2 c9_v_1).2.2.1)
    have x_SNT_p0_gd_2_gh_1_gg := ((hp_v_1.2.2 c9_v_1).2.2.2.1)
    refine lv_if_ne (tgt := 9) hx hb dX10_readBracket_4 (by decide) (fun c_4 => ?_) (fun c_4 => ?_)
    · refine lv_aload_n hx hb dX10_readBracket_9 rfl (lv_at hl 0 rfl) ?_
      refine lv_bipush (v := 41) hx hb dX10_readBracket_10 (by decide) ?_
      refine tk_ir (va_runV (As := [.int 41]) (rest := []) ⟨hx, hb, hml, hown, hts⟩ (c_X10_isSign l D cy z H.size Ps ws hw.1 p0 41 h_p0 (rl_41.to (by decide))) (cwV 1 hts (gV tw_1413 tw_1415 ts_63 tw_15 tw_1416) rfl rfl rfl (by decide +kernel) ⟨Nat.le_of_ble_eq_true rfl, Nat.le_of_ble_eq_true rfl⟩) (tg_preV hw hK hSD hA (ci := 10) (q := (RX10, TX10, 49)) rfl h_p0 rfl) rfl rfl hl.1 rfl (lv_room (Nat.le_of_ble_eq_true rfl)) dX10_readBracket_12 ⟨Nat.le_of_ble_eq_true rfl, Nat.le_of_ble_eq_true rfl⟩) hw hA (fun v_6  H locs hp_v_6 hw => ?_)
      have r_v_6 : RI v_6 0 1 := hp_v_6.1
      by_cases c9_v_6 : v_6 = 0
      · have r_v_6 : RI v_6 0 0 := by rw [c9_v_6]; exact rl_0
        refine lv_if_ne (tgt := 24) hx hb dX10_readBracket_15 (by decide) (fun c_15 => ?_) (fun c_15 => ?_)
        · exact absurd (r_v_6.eq.trans rl_0.eq.symm) ((ti_ne c_15))
        · refine lv_aload_n hx hb dX10_readBracket_18 rfl (lv_at hl 0 rfl) ?_
          refine lv_iconst (v := 1) hx hb dX10_readBracket_19 (by decide) ?_
          refine tk_i (va_runV (As := [.int 1]) (rest := []) ⟨hx, hb, hml, hown, hts⟩ (c_X10_bad l D cy z H.size Ps ws hw.1 p0 1 h_p0 (rl_1.to (by decide))) (cwV 1 hts (gV tw_1336 tw_1338 ts_46 tw_15 tw_1339) rfl rfl rfl (by decide +kernel) ⟨Nat.le_of_ble_eq_true rfl, Nat.le_of_ble_eq_true rfl⟩) (tg_preV hw hK hSD hA (ci := 10) (q := (RX10, TX10, 49)) rfl h_p0 rfl) rfl rfl hl.1 rfl (lv_room (Nat.le_of_ble_eq_true rfl)) dX10_readBracket_20 ⟨Nat.le_of_ble_eq_true rfl, Nat.le_of_ble_eq_true rfl⟩) hw hA ⟨by decide, by decide⟩ (fun v_7 ws H locs hp_v_7 hw hF9 => ?_)
          have m_v_3 := FLD.over hF9 m_v_3 (by decide)
          have m_v_4 := FLD.over hF9 m_v_4 (by decide)
          have m_v_5 := FLD.over hF9 m_v_5 (by decide)
          have x_SNT_p0_gd_2_gh_1_gg := SNT.over hF9 x_SNT_p0_gd_2_gh_1_gg (by decide)
          have r_v_7 : RI v_7 0 0 := hp_v_7.1
          subst hQ
          exact W.zret (v := v_7) hx hb hr (tq_nz (r_v_7.to (by decide))) (fun t ht hW => ⟨⟨v_7, ws, rfl, ⟨⟨r_v_7.to (by decide), (fun h0 => ⟨⟨_, m_v_4, r_v_4⟩, trivial⟩), (fun h0 => absurd (Int32.toInt_inj.mp (by have h8 := r_v_7; unfold RI at h8; rw [Int32.toInt_zero]; omega)) h0)⟩, hw.1, hw.2.2.2.2.1⟩, by rw [ht]; exact hw.2.1, va_K.moved hW.alike hK, hw.2.2.1⟩, hw.2.2.2.1.F ht⟩) hw.2.2.2.1.2.2 dX10_readBracket_23
      · have r_v_6 : RI v_6 1 1 := rc_neL r_v_6 rl_0 (ti_ne c9_v_6) (by decide)
        obtain ⟨v_8, m_v_8, r_v_8⟩ := ((hp_v_6.2.2 c9_v_6).1)
        refine lv_if_ne (tgt := 24) hx hb dX10_readBracket_15 (by decide) (fun c_15 => ?_) (fun c_15 => ?_)
        · refine lv_aload_n hx hb dX10_readBracket_24 rfl (lv_at hl 0 rfl) ?_
          refine tk_v (va_runV (As := []) (rest := []) ⟨hx, hb, hml, hown, hts⟩ (c_X10_go l D cy z H.size Ps ws hw.1 p0 h_p0) (cwV 0 hts (gV tw_1298 tw_1300 ts_40 tw_15 tw_1301) rfl rfl rfl (by decide +kernel) ⟨Nat.le_of_ble_eq_true rfl, Nat.le_of_ble_eq_true rfl⟩) (tg_preV hw hK hSD hA (ci := 10) (q := (RX10, TX10, 49)) rfl h_p0 rfl) rfl rfl hl.1 rfl (lv_room (Nat.le_of_ble_eq_true rfl)) dX10_readBracket_25 ⟨Nat.le_of_ble_eq_true rfl, Nat.le_of_ble_eq_true rfl⟩) hw hA ⟨by decide, by decide⟩ (fun ws H locs hp_v_9 hw hF9 => ?_)
          have m_v_3 := FLD.over hF9 m_v_3 (by decide)
          have m_v_4 := FLD.over hF9 m_v_4 (by decide)
          have m_v_5 := FLD.over hF9 m_v_5 (by decide)
          have x_SNT_p0_gd_2_gh_1_gg := SNT.over hF9 x_SNT_p0_gd_2_gh_1_gg (by decide)
          have x_SNT_p0_gd_gh_gg : SNT ws p0 (gd) (gh) (gg) := x_SNT_p0_gd_2_gh_1_gg.weak (by have d_8 := SNp.le x_SNI_p0_gd_gh_gg.2; have d_7 := x_SNI_p0_gd_gh_gg.1; omega)
          refine lv_iconst (v := 1) hx hb dX10_readBracket_28 (by decide) ?_
          subst hQ
          exact W.zret (v := 1) hx hb hr (rfl) (fun t ht hW => ⟨⟨1, ws, rfl, ⟨⟨rl_1.to (by decide), (fun h0 => absurd h0 (by decide)), (fun h0 => ⟨⟨_, m_v_3, r_v_3⟩, ⟨_, m_v_4, r_v_4⟩, ⟨_, m_v_5, r_v_5⟩, x_SNT_p0_gd_gh_gg, trivial⟩)⟩, hw.1, hw.2.2.2.2.1⟩, by rw [ht]; exact hw.2.1, va_K.moved hW.alike hK, hw.2.2.1⟩, hw.2.2.2.1.F ht⟩) hw.2.2.2.1.2.2 dX10_readBracket_29
        · have r_v_6 : RI v_6 1 0 := rc_eq1 r_v_6 rl_0 (ti_eq c_15) (by decide)
          exact (r_v_6.no (by decide)).elim
    · have r_v_1 : RI v_1 1 0 := rc_eq1 r_v_1 rl_0 (ti_eq c_4) (by decide)
      exact (r_v_1.no (by decide)).elim
abbrev wr_X10_readNot__2 : List (Nat × Nat) := [(10, 5), (10, 6), (10, 7), (10, 8), (10, 9), (10, 10), (10, 11), (10, 12), (10, 13), (10, 45), (10, 46), (10, 47), (10, 48)]
abbrev wa_X10_readNot__2 : List Nat := [54]
set_option maxHeartbeats 4000000 in
set_option maxRecDepth 100000 in
theorem c_X10_readNot__2 (l : Launch) (D : va_G) (cy : Nat → ClassId) (z : Nat → Nat) (sz : Nat) (Ps : PSI) (w0 : va_W) (hT : HT cy GG Ps w0) (p0 : Nat) (f0_47 : Int32) (gd : Int) (gh : Int) (gg : Int) (h_p0 : (p0, 55) ∈ Ps) (r_f0_47 : RI f0_47 6 6) (m_f0_47 : FLD w0 p0 10 47 (.int f0_47)) (x_SNI_p0_gd_gh_gg : SNI w0 p0 (gd) (gh) (gg)) : Met l yX10_readNot (Cond.code yX10_readNot cX10_readNot 1 (some .boolean) :: gT) ({ frames := 13, cells := 0, slots := 0, locals := 2600 } : Room) (va_Pc [.ref p0] (PRE D cy z w0 sz)) (va_Qi (fun (r : Int32) (u : va_W) => (RI r 0 1 ∧ (r = 0 → (∃ v9 : Int32, FLD u p0 10 47 (.int v9) ∧ RI v9 6 6) ∧ True) ∧ (¬ r = 0 → (∃ v9 : Int32, FLD u p0 10 46 (.int v9) ∧ RI v9 1 20) ∧ (∃ v9 : Int32, FLD u p0 10 47 (.int v9) ∧ RI v9 6 6) ∧ (∃ v9 : Int32, FLD u p0 10 48 (.int v9) ∧ RI v9 0 39) ∧ SNT u p0 (gd) (gh) (gg) ∧ True)) ∧ HT cy GG Ps u ∧ FR wr_X10_readNot__2 wa_X10_readNot__2 Ps w0 u) (BB D cy (va_A w0 sz) (fun (u : va_W) => u)) (va_A w0 sz)) 0 0 (va_A w0 sz) := by
  refine Met.ofW (cc := cX10_readNot) (maxL := 1) (ret := (some .boolean)) (by decide) rfl ?_
  intro p e s m args below meth c s₁ B hml hv
  obtain ⟨rfl, hsz, hP, hK, hD0, hSD⟩ := hv
  have hx := B.exec
  have hb := B.bytes
  have hr := B.returns
  have hlocks := B.notSynchronized
  have hts : ∀ w ∈ gT, w.before _ s = true := fun w h => atoms_spec (ws := Cond.code yX10_readNot cX10_readNot 1 (some .boolean) :: gT) B.pre w (List.mem_cons_of_mem _ h)
  have hown : s.vm.findClass RX10 = some m.cls := findClass_of_methodNamed B.named
  subst hsz
  have hD := hD0.self (sz := s.heap.size)
  generalize hAe : va_A w0 s.heap.size = A at hD hSD ⊢
  have hA : ∀ q : Nat, s.heap.size ≤ q → A q := fun q h => by rw [← hAe]; exact Or.inr h
  have hl := lv_entry ([.ref p0]) (n := 1) (Nat.le_of_ble_eq_true rfl)
  rw [lg_entry_eq]
  generalize (lg_sl ([.ref p0]) ++ List.replicate (1 - (lg_sl ([.ref p0])).length) Slot.unset).toArray = ls at hl ⊢
  have hl : lv_has ls 1 [(0, .ref p0)] := hl
  refine nameQ (fun Q hQ => ?_)
  have hw : WD D cy GG A s wr_X10_readNot__2 wa_X10_readNot__2 Ps w0 Ps w0 s.heap [] := ⟨hT, hP, hD, va_S.rf, FR.rf, hT.1, [], (List.append_nil _).symm⟩
  refine lv_aload_n hx hb dX10_readNot_0 rfl (lv_at hl 0 rfl) ?_
  have x_SN_p0_gd_1_gh_gg : SNp w0 p0 (gd+1) (gh) (gg) := x_SNI_p0_gd_gh_gg.2
  refine tk_i (va_runV (As := []) (rest := []) ⟨hx, hb, hml, hown, hts⟩ (c_X10_readSaid__6 l D cy z s.heap.size Ps w0 hw.1 p0 f0_47 (gd+1) (gh) (gg) h_p0 r_f0_47 m_f0_47 x_SN_p0_gd_1_gh_gg) (cwV 0 hts (gV tw_1759 tw_1761 ts_113 tw_15 tw_1762) rfl rfl rfl (by decide +kernel) ⟨Nat.le_of_ble_eq_true rfl, Nat.le_of_ble_eq_true rfl⟩) (tg_preV hw hK hSD hA (ci := 10) (q := (RX10, TX10, 49)) rfl h_p0 rfl) rfl rfl hl.1 rfl (lv_room (Nat.le_of_ble_eq_true rfl)) dX10_readNot_1 ⟨Nat.le_of_ble_eq_true rfl, Nat.le_of_ble_eq_true rfl⟩) hw hA ⟨by decide, by decide⟩ (fun v_1 ws H locs hp_v_1 hw hF9 => ?_)
  have r_v_1 : RI v_1 0 1 := hp_v_1.1
  by_cases c9_v_1 : v_1 = 0
  · have r_v_1 : RI v_1 0 0 := by rw [c9_v_1]; exact rl_0
    obtain ⟨v_2, m_v_2, r_v_2⟩ := ((hp_v_1.2.1 c9_v_1).1)
    refine lv_if_ne (tgt := 9) hx hb dX10_readNot_4 (by decide) (fun c_4 => ?_) (fun c_4 => ?_)
    · exact absurd (r_v_1.eq.trans rl_0.eq.symm) ((ti_ne c_4))
    · refine lv_iconst (v := 0) hx hb dX10_readNot_7 (by decide) ?_
      subst hQ
      exact W.zret (v := 0) hx hb hr (rfl) (fun t ht hW => ⟨⟨0, ws, rfl, ⟨⟨rl_0.to (by decide), (fun h0 => ⟨⟨_, m_v_2, r_v_2⟩, trivial⟩), (fun h0 => absurd rfl h0)⟩, hw.1, hw.2.2.2.2.1⟩, by rw [ht]; exact hw.2.1, va_K.moved hW.alike hK, hw.2.2.1⟩, hw.2.2.2.1.F ht⟩) hw.2.2.2.1.2.2 dX10_readNot_8
  · have r_v_1 : RI v_1 1 1 := rc_neL r_v_1 rl_0 (ti_ne c9_v_1) (by decide)
    obtain ⟨v_3, m_v_3, r_v_3⟩ := ((hp_v_1.2.2 c9_v_1).1)
    obtain ⟨v_4, m_v_4, r_v_4⟩ := ((hp_v_1.2.2 c9_v_1).2.1)
    obtain ⟨v_5, m_v_5, r_v_5⟩ := ((hp_v_1.2.2 c9_v_1).2.2.1)
    have x_SNT_p0_gd_2_gh_1_gg := ((hp_v_1.2.2 c9_v_1).2.2.2.1)
    refine lv_if_ne (tgt := 9) hx hb dX10_readNot_4 (by decide) (fun c_4 => ?_) (fun c_4 => ?_)
    · refine lv_aload_n hx hb dX10_readNot_9 rfl (lv_at hl 0 rfl) ?_
      refine lv_aload_n hx hb dX10_readNot_10 rfl (lv_at hl 0 rfl) ?_
      refine lv_iconst (v := 1) hx hb dX10_readNot_11 (by decide) ?_
      refine lv_aload_n hx hb dX10_readNot_12 rfl (lv_at hl 0 rfl) ?_
      refine tg_mem (ci := 10) (C := RX10) (T := TX10) (N := 49) hx hb hts inX10 hown hK hw 48 m_v_4 rfl (by decide) (hts _ tw_1185) (fun _ h9 => h9) dX10_readNot_13 ?_
      refine lv_iconst (v := 0) hx hb dX10_readNot_16 (by decide) ?_
      refine lv_iconst (v := 0) hx hb dX10_readNot_17 (by decide) ?_
      have l9 := SNT.top hw x_SNT_p0_gd_2_gh_1_gg m_v_4
      have l8 := l9.le
      have x_SNI_p0_gd_1_gh_1_gg : SNI ws p0 (gd+1) (gh+1) (gg) := SNp.sni (SNT.sn x_SNT_p0_gd_2_gh_1_gg) (by have d_8 := SNp.le x_SNI_p0_gd_gh_gg.2; have d_7 := x_SNI_p0_gd_gh_gg.1; omega)
      have x_LTN_p0_v_4 : LTN ws p0 (v_4) := l9.ltn
      refine tk_i (va_runV (As := [.int 1, .int v_4, .int 0, .int 0]) (rest := [.ref p0]) ⟨hx, hb, hml, hown, hts⟩ (c_X10_saysOne__2 l D cy z H.size Ps ws hw.1 p0 1 v_4 0 0 (gd+1) (gh+1) (gg) h_p0 rl_1 (r_v_4.to (by decide)) (rl_0.to (by decide)) (rl_0.to (by decide)) x_SNI_p0_gd_1_gh_1_gg x_LTN_p0_v_4) (cwV 4 hts (gV tw_1771 tw_1773 ts_116 tw_15 tw_1774) rfl rfl rfl (by decide +kernel) ⟨Nat.le_of_ble_eq_true rfl, Nat.le_of_ble_eq_true rfl⟩) (tg_preV hw hK hSD hA (ci := 10) (q := (RX10, TX10, 49)) rfl h_p0 rfl) rfl rfl hl.1 rfl (lv_room (Nat.le_of_ble_eq_true rfl)) dX10_readNot_18 ⟨Nat.le_of_ble_eq_true rfl, Nat.le_of_ble_eq_true rfl⟩) hw hA ⟨by decide, by decide⟩ (fun v_6 ws H locs hp_v_6 hw hF9 => ?_)
      have m_v_3 := FLD.over hF9 m_v_3 (by decide)
      have m_v_4 := FLD.over hF9 m_v_4 (by decide)
      have m_v_5 := FLD.over hF9 m_v_5 (by decide)
      have r_v_6 : RI v_6 0 39 := hp_v_6.1
      have x_SNL_p0_gd_1_gh_1_gg_v_6 := hp_v_6.2.2.2.1.1
      refine tg_put (ci := 10) (ts := ty_MODEL) (v := .int v_6) (ty := .int) (C := RX10) (T := TX10) (N := 49) hx hb hts inX10 tyX10 tyX10_ok nmX10 hown hK hw h_p0 rfl rfl 48 (by decide) (hts _ tw_1185) (fun _ h9 => h9) rfl (by decide +kernel) rfl rfl (ft := vI (-2147483648) 2147483647) rfl ⟨_, rfl, (r_v_6.to (by decide))⟩ (by decide) dX10_readNot_21 (fun ws H locs hw n_k_7 hF9 => ?_)
      have m_v_3 := FLD.over hF9 m_v_3 (by decide)
      have m_v_5 := FLD.over hF9 m_v_5 (by decide)
      have x_SNL_p0_gd_1_gh_1_gg_v_6 := SNL.over hF9 x_SNL_p0_gd_1_gh_1_gg_v_6 (by decide)
      have x_SNT_p0_gd_gh_gg : SNT ws p0 (gd) (gh) (gg) := (x_SNL_p0_gd_1_gh_1_gg_v_6.weak (d' := gd) (h' := gh) (g' := gg) (by have k1 := x_SNL_p0_gd_1_gh_1_gg_v_6.le; have d_8 := SNp.le x_SNI_p0_gd_gh_gg.2; have d_7 := x_SNI_p0_gd_gh_gg.1; omega)).snt n_k_7
      refine lv_iconst (v := 1) hx hb dX10_readNot_24 (by decide) ?_
      subst hQ
      exact W.zret (v := 1) hx hb hr (rfl) (fun t ht hW => ⟨⟨1, ws, rfl, ⟨⟨rl_1.to (by decide), (fun h0 => absurd h0 (by decide)), (fun h0 => ⟨⟨_, m_v_3, r_v_3⟩, ⟨_, m_v_5, r_v_5⟩, ⟨_, n_k_7, r_v_6⟩, x_SNT_p0_gd_gh_gg, trivial⟩)⟩, hw.1, hw.2.2.2.2.1⟩, by rw [ht]; exact hw.2.1, va_K.moved hW.alike hK, hw.2.2.1⟩, hw.2.2.2.1.F ht⟩) hw.2.2.2.1.2.2 dX10_readNot_25
    · have r_v_1 : RI v_1 1 0 := rc_eq1 r_v_1 rl_0 (ti_eq c_4) (by decide)
      exact (r_v_1.no (by decide)).elim
abbrev wr_X10_readSaid__5 : List (Nat × Nat) := [(10, 5), (10, 6), (10, 7), (10, 8), (10, 9), (10, 10), (10, 11), (10, 12), (10, 13), (10, 45), (10, 46), (10, 47), (10, 48)]
abbrev wa_X10_readSaid__5 : List Nat := [54]
set_option maxHeartbeats 4000000 in
set_option maxRecDepth 100000 in
theorem c_X10_readSaid__5 (l : Launch) (D : va_G) (cy : Nat → ClassId) (z : Nat → Nat) (sz : Nat) (Ps : PSI) (w0 : va_W) (hT : HT cy GG Ps w0) (p0 : Nat) (f0_47 : Int32) (gd : Int) (gh : Int) (gg : Int) (h_p0 : (p0, 55) ∈ Ps) (r_f0_47 : RI f0_47 5 5) (m_f0_47 : FLD w0 p0 10 47 (.int f0_47)) (x_SN_p0_gd_gh_gg : SNp w0 p0 (gd) (gh) (gg)) : Met l yX10_readSaid (Cond.code yX10_readSaid cX10_readSaid 4 (some .boolean) :: gT) ({ frames := 16, cells := 0, slots := 0, locals := 3200 } : Room) (va_Pc [.ref p0] (PRE D cy z w0 sz)) (va_Qi (fun (r : Int32) (u : va_W) => (RI r 0 1 ∧ (r = 0 → (∃ v9 : Int32, FLD u p0 10 47 (.int v9) ∧ RI v9 5 5) ∧ True) ∧ (¬ r = 0 → (∃ v9 : Int32, FLD u p0 10 46 (.int v9) ∧ RI v9 1 20) ∧ (∃ v9 : Int32, FLD u p0 10 48 (.int v9) ∧ RI v9 0 39) ∧ (∃ v9 : Int32, FLD u p0 10 47 (.int v9) ∧ RI v9 5 5) ∧ SNT u p0 (gd+1) (gh+1) (gg) ∧ True)) ∧ HT cy GG Ps u ∧ FR wr_X10_readSaid__5 wa_X10_readSaid__5 Ps w0 u) (BB D cy (va_A w0 sz) (fun (u : va_W) => u)) (va_A w0 sz)) 0 0 (va_A w0 sz) := by
  refine Met.ofW (cc := cX10_readSaid) (maxL := 4) (ret := (some .boolean)) (by decide) rfl ?_
  intro p e s m args below meth c s₁ B hml hv
  obtain ⟨rfl, hsz, hP, hK, hD0, hSD⟩ := hv
  have hx := B.exec
  have hb := B.bytes
  have hr := B.returns
  have hlocks := B.notSynchronized
  have hts : ∀ w ∈ gT, w.before _ s = true := fun w h => atoms_spec (ws := Cond.code yX10_readSaid cX10_readSaid 4 (some .boolean) :: gT) B.pre w (List.mem_cons_of_mem _ h)
  have hown : s.vm.findClass RX10 = some m.cls := findClass_of_methodNamed B.named
  subst hsz
  have hD := hD0.self (sz := s.heap.size)
  generalize hAe : va_A w0 s.heap.size = A at hD hSD ⊢
  have hA : ∀ q : Nat, s.heap.size ≤ q → A q := fun q h => by rw [← hAe]; exact Or.inr h
  have hl := lv_entry ([.ref p0]) (n := 4) (Nat.le_of_ble_eq_true rfl)
  rw [lg_entry_eq]
  generalize (lg_sl ([.ref p0]) ++ List.replicate (4 - (lg_sl ([.ref p0])).length) Slot.unset).toArray = ls at hl ⊢
  have hl : lv_has ls 4 [(0, .ref p0)] := hl
  refine nameQ (fun Q hQ => ?_)
  have hw : WD D cy GG A s wr_X10_readSaid__5 wa_X10_readSaid__5 Ps w0 Ps w0 s.heap [] := ⟨hT, hP, hD, va_S.rf, FR.rf, hT.1, [], (List.append_nil _).symm⟩
  have B30 : ∀ (x1 : Int32) (x2 : Int32) (z0_47 : Int32) (ws : va_W) (H : Heap) (locs : List Loc) (ls : Array Slot), RI x1 0 1 → RI x2 18 28 → RI z0_47 5 5 → FLD ws p0 10 47 (.int z0_47) → SNp ws p0 (gd) (gh) (gg) → WD D cy GG A s wr_X10_readSaid__5 wa_X10_readSaid__5 Ps w0 Ps ws H locs → lv_has ls 4 [(0, .ref p0), (1, .int x1), (2, .int x2)] → W p l e (headSpec (Cond.code yX10_readSaid cX10_readSaid 4 (some .boolean) :: gT) ({ frames := 16, cells := 0, slots := 0, locals := 3200 } : Room)).room s m ([.ref p0] : List Value).toArray below meth c H locs 0 0 Q (F0 m 30 ls []) := by
    intro x1 x2 z0_47 ws H locs ls r_x1 r_x2 r_z0_47 m_z0_47 x_SN_p0_gd_gh_gg hw hl
    refine lv_iload_n hx hb dX10_readSaid_30 rfl (lv_at hl 1 rfl) ?_
    refine lv_if_ne (tgt := 46) hx hb dX10_readSaid_31 (by decide) (fun c_31 => ?_) (fun c_31 => ?_)
    · have r_x1 : RI x1 1 1 := rc_neL r_x1 rl_0 (ti_ne c_31) (by decide)
      refine lv_aload_n hx hb dX10_readSaid_46 rfl (lv_at hl 0 rfl) ?_
      refine tg_get (ci := 10) (ts := ty_MODEL) (C := RX10) (T := TX10) (N := 49) hx hb hts inX10 hown hK hw h_p0 rfl rfl 46 (by decide) (hts _ tw_1183) (fun _ h9 => h9) (ft := vI (-2147483648) 2147483647) rfl dX10_readSaid_47 (fun u_1 hv_u_1 m_u_1 => ?_)
      obtain ⟨vu_1, rfl, r_vu_1⟩ := hv_u_1
      obtain ⟨n9, hn9, rn9, r_vu_1, b9⟩ := SNp.getO hw x_SN_p0_gd_gh_gg m_u_1
      refine lv_bipush (v := 20) hx hb dX10_readSaid_50 (by decide) ?_
      refine lv_icmp_eq (tgt := 64) hx hb dX10_readSaid_52 (by decide) (fun c_52 => ?_) (fun c_52 => ?_)
      · have r_vu_1 : RI vu_1 20 20 := rc_eq1 r_vu_1 rl_20 (ti_eq c_52) (by decide)
        refine lv_aload_n hx hb dX10_readSaid_64 rfl (lv_at hl 0 rfl) ?_
        refine lv_iconst (v := 4) hx hb dX10_readSaid_65 (by decide) ?_
        refine tk_i (va_runV (As := [.int 4]) (rest := []) ⟨hx, hb, hml, hown, hts⟩ (c_X10_bad l D cy z H.size Ps ws hw.1 p0 4 h_p0 (rl_4.to (by decide))) (cwV 1 hts (gV tw_1336 tw_1338 ts_46 tw_15 tw_1339) rfl rfl rfl (by decide +kernel) ⟨Nat.le_of_ble_eq_true rfl, Nat.le_of_ble_eq_true rfl⟩) (tg_preV hw hK hSD hA (ci := 10) (q := (RX10, TX10, 49)) rfl h_p0 rfl) rfl rfl hl.1 rfl (lv_room (Nat.le_of_ble_eq_true rfl)) dX10_readSaid_66 ⟨Nat.le_of_ble_eq_true rfl, Nat.le_of_ble_eq_true rfl⟩) hw hA ⟨by decide, by decide⟩ (fun v_2 ws H locs hp_v_2 hw hF9 => ?_)
        have m_z0_47 := FLD.over hF9 m_z0_47 (by decide)
        have m_u_1 := FLD.over hF9 m_u_1 (by decide)
        have hn9 := FLD.over hF9 hn9 (by decide)
        have x_SN_p0_gd_gh_gg := SNp.over hF9 x_SN_p0_gd_gh_gg (by decide)
        have r_v_2 : RI v_2 0 0 := hp_v_2.1
        subst hQ
        exact W.zret (v := v_2) hx hb hr (tq_nz (r_v_2.to (by decide))) (fun t ht hW => ⟨⟨v_2, ws, rfl, ⟨⟨r_v_2.to (by decide), (fun h0 => ⟨⟨_, m_z0_47, r_z0_47⟩, trivial⟩), (fun h0 => absurd (Int32.toInt_inj.mp (by have h8 := r_v_2; unfold RI at h8; rw [Int32.toInt_zero]; omega)) h0)⟩, hw.1, hw.2.2.2.2.1⟩, by rw [ht]; exact hw.2.1, va_K.moved hW.alike hK, hw.2.2.1⟩, hw.2.2.2.1.F ht⟩) hw.2.2.2.1.2.2 dX10_readSaid_69
      · have r_vu_1 : RI vu_1 0 19 := rc_neU r_vu_1 rl_20 (ti_ne c_52) (by decide)
        refine lv_aload_n hx hb dX10_readSaid_55 rfl (lv_at hl 0 rfl) ?_
        refine tg_mem (ci := 10) (C := RX10) (T := TX10) (N := 49) hx hb hts inX10 hown hK hw 47 m_z0_47 rfl (by decide) (hts _ tw_1184) (fun _ h9 => h9) dX10_readSaid_56 ?_
        refine lv_bipush (v := 8) hx hb dX10_readSaid_59 (by decide) ?_
        refine lv_icmp_ne (tgt := 70) hx hb dX10_readSaid_61 (by decide) (fun c_61 => ?_) (fun c_61 => ?_)
        · refine lv_aload_n hx hb dX10_readSaid_70 rfl (lv_at hl 0 rfl) ?_
          refine lv_dup hx hb dX10_readSaid_71 rfl ?_
          refine tg_mem (ci := 10) (C := RX10) (T := TX10) (N := 49) hx hb hts inX10 hown hK hw 46 m_u_1 rfl (by decide) (hts _ tw_1183) (fun _ h9 => h9) dX10_readSaid_72 ?_
          refine lv_iconst (v := 1) hx hb dX10_readSaid_75 (by decide) ?_
          refine lv_iadd hx hb dX10_readSaid_76 (lv_topi (fun v_3 e_v_3 => ?_))
          obtain ⟨t_v_3, r_v_3⟩ := tq_add (lo := 1) (hi := 20) r_vu_1 rl_1 (by decide +kernel) e_v_3
          have t_v_3 : v_3.toInt = vu_1.toInt + 1 := t_v_3
          refine tg_put (ci := 10) (ts := ty_MODEL) (v := .int v_3) (ty := .int) (C := RX10) (T := TX10) (N := 49) hx hb hts inX10 tyX10 tyX10_ok nmX10 hown hK hw h_p0 rfl rfl 46 (by decide) (hts _ tw_1183) (fun _ h9 => h9) rfl (by decide +kernel) rfl rfl (ft := vI (-2147483648) 2147483647) rfl ⟨_, rfl, (r_v_3.to (by decide))⟩ (by decide) dX10_readSaid_77 (fun ws H locs hw n_k_4 hF9 => ?_)
          have m_z0_47 := FLD.over hF9 m_z0_47 (by decide)
          have hn9 := FLD.over hF9 hn9 (by decide)
          have x_SNI_p0_gd_1_gh_1_gg : SNI ws p0 (gd+1) (gh+1) (gg) := ⟨by omega, _, _, hn9, n_k_4, by have k1 := rn9.1; have k2 := r_v_3.2; omega⟩
          refine lv_aload_n hx hb dX10_readSaid_80 rfl (lv_at hl 0 rfl) ?_
          refine lv_dup hx hb dX10_readSaid_81 rfl ?_
          refine tg_mem (ci := 10) (C := RX10) (T := TX10) (N := 49) hx hb hts inX10 hown hK hw 47 m_z0_47 rfl (by decide) (hts _ tw_1184) (fun _ h9 => h9) dX10_readSaid_82 ?_
          refine lv_iconst (v := 1) hx hb dX10_readSaid_85 (by decide) ?_
          refine lv_iadd hx hb dX10_readSaid_86 (lv_topi (fun v_5 e_v_5 => ?_))
          obtain ⟨t_v_5, r_v_5⟩ := tq_add (lo := 6) (hi := 6) r_z0_47 rl_1 (by decide +kernel) e_v_5
          have t_v_5 : v_5.toInt = z0_47.toInt + 1 := t_v_5
          refine tg_put (ci := 10) (ts := ty_MODEL) (v := .int v_5) (ty := .int) (C := RX10) (T := TX10) (N := 49) hx hb hts inX10 tyX10 tyX10_ok nmX10 hown hK hw h_p0 rfl rfl 47 (by decide) (hts _ tw_1184) (fun _ h9 => h9) rfl (by decide +kernel) rfl rfl (ft := vI (-2147483648) 2147483647) rfl ⟨_, rfl, (r_v_5.to (by decide))⟩ (by decide) dX10_readSaid_87 (fun ws H locs hw n_k_6 hF9 => ?_)
          have hn9 := FLD.over hF9 hn9 (by decide)
          have n_k_4 := FLD.over hF9 n_k_4 (by decide)
          have x_SNI_p0_gd_1_gh_1_gg := SNI.over hF9 x_SNI_p0_gd_1_gh_1_gg (by decide)
          refine lv_aload_n hx hb dX10_readSaid_90 rfl (lv_at hl 0 rfl) ?_
          refine tk_v (va_runV (As := []) (rest := []) ⟨hx, hb, hml, hown, hts⟩ (c_X10_go l D cy z H.size Ps ws hw.1 p0 h_p0) (cwV 0 hts (gV tw_1298 tw_1300 ts_40 tw_15 tw_1301) rfl rfl rfl (by decide +kernel) ⟨Nat.le_of_ble_eq_true rfl, Nat.le_of_ble_eq_true rfl⟩) (tg_preV hw hK hSD hA (ci := 10) (q := (RX10, TX10, 49)) rfl h_p0 rfl) rfl rfl hl.1 rfl (lv_room (Nat.le_of_ble_eq_true rfl)) dX10_readSaid_91 ⟨Nat.le_of_ble_eq_true rfl, Nat.le_of_ble_eq_true rfl⟩) hw hA ⟨by decide, by decide⟩ (fun ws H locs hp_v_7 hw hF9 => ?_)
          have hn9 := FLD.over hF9 hn9 (by decide)
          have n_k_4 := FLD.over hF9 n_k_4 (by decide)
          have n_k_6 := FLD.over hF9 n_k_6 (by decide)
          have x_SNI_p0_gd_1_gh_1_gg := SNI.over hF9 x_SNI_p0_gd_1_gh_1_gg (by decide)
          refine lv_iconst (v := 1) hx hb dX10_readSaid_94 (by decide) ?_
          refine lv_istore_n (lv' := [(3, .int 1), (0, .ref p0), (1, .int x1), (2, .int x2)]) hx hb dX10_readSaid_95 rfl hl (by decide) rfl (fun ls hl => ?_)
          refine lv_iload_n hx hb dX10_readSaid_96 rfl (lv_at hl 2 rfl) ?_
          refine lv_if_eq (tgt := 108) hx hb dX10_readSaid_97 (by decide) (fun c_97 => ?_) (fun c_97 => ?_)
          · have r_x1 : RI x1 1 0 := rc_eq1 r_x1 rl_0 (ti_eq c_97) (by decide)
            exact (r_x1.no (by decide)).elim
          · refine lv_aload_n hx hb dX10_readSaid_100 rfl (lv_at hl 1 rfl) ?_
            refine tk_i (va_runV (As := []) (rest := []) ⟨hx, hb, hml, hown, hts⟩ (c_X10_readBracket__5 l D cy z H.size Ps ws hw.1 p0 v_5 (gd+1) (gh+1) (gg) h_p0 r_v_5 n_k_6 x_SNI_p0_gd_1_gh_1_gg) (cwV 0 hts (gV tw_1763 tw_1765 ts_114 tw_15 tw_1766) rfl rfl rfl (by decide +kernel) ⟨Nat.le_of_ble_eq_true rfl, Nat.le_of_ble_eq_true rfl⟩) (tg_preV hw hK hSD hA (ci := 10) (q := (RX10, TX10, 49)) rfl h_p0 rfl) rfl rfl hl.1 rfl (lv_room (Nat.le_of_ble_eq_true rfl)) dX10_readSaid_101 ⟨Nat.le_of_ble_eq_true rfl, Nat.le_of_ble_eq_true rfl⟩) hw hA ⟨by decide, by decide⟩ (fun v_8 ws H locs hp_v_8 hw hF9 => ?_)
            have r_v_8 : RI v_8 0 1 := hp_v_8.1
            by_cases c9_v_8 : v_8 = 0
            · have r_v_8 : RI v_8 0 0 := by rw [c9_v_8]; exact rl_0
              obtain ⟨v_9, m_v_9, r_v_9⟩ := ((hp_v_8.2.1 c9_v_8).1)
              refine lv_istore_n (lv' := [(3, .int v_8), (0, .ref p0), (1, .int x1), (2, .int x2)]) hx hb dX10_readSaid_104 rfl hl (by decide) rfl (fun ls hl => ?_)
              refine lv_goto (tgt := 166) hx hb dX10_readSaid_105 (by decide) ?_
              refine lv_aload_n hx hb dX10_readSaid_166 rfl (lv_at hl 1 rfl) ?_
              refine lv_dup hx hb dX10_readSaid_167 rfl ?_
              refine tg_mem (ci := 10) (C := RX10) (T := TX10) (N := 49) hx hb hts inX10 hown hK hw 47 m_v_9 rfl (by decide) (hts _ tw_1184) (fun _ h9 => h9) dX10_readSaid_168 ?_
              refine lv_iconst (v := 1) hx hb dX10_readSaid_171 (by decide) ?_
              refine lv_isub hx hb dX10_readSaid_172 (lv_topi (fun v_10 e_v_10 => ?_))
              obtain ⟨t_v_10, r_v_10⟩ := tq_sub (lo := 5) (hi := 5) r_v_9 rl_1 (by decide +kernel) e_v_10
              have t_v_10 : v_10.toInt = v_9.toInt - 1 := t_v_10
              refine tg_put (ci := 10) (ts := ty_MODEL) (v := .int v_10) (ty := .int) (C := RX10) (T := TX10) (N := 49) hx hb hts inX10 tyX10 tyX10_ok nmX10 hown hK hw h_p0 rfl rfl 47 (by decide) (hts _ tw_1184) (fun _ h9 => h9) rfl (by decide +kernel) rfl rfl (ft := vI (-2147483648) 2147483647) rfl ⟨_, rfl, (r_v_10.to (by decide))⟩ (by decide) dX10_readSaid_173 (fun ws H locs hw n_k_11 hF9 => ?_)
              refine lv_iload_n hx hb dX10_readSaid_176 rfl (lv_at hl 0 rfl) ?_
              subst hQ
              exact W.zret (v := v_8) hx hb hr (tq_nz (r_v_8.to (by decide))) (fun t ht hW => ⟨⟨v_8, ws, rfl, ⟨⟨r_v_8.to (by decide), (fun h0 => ⟨⟨_, n_k_11, r_v_10⟩, trivial⟩), (fun h0 => absurd (Int32.toInt_inj.mp (by have h8 := r_v_8; unfold RI at h8; rw [Int32.toInt_zero]; omega)) h0)⟩, hw.1, hw.2.2.2.2.1⟩, by rw [ht]; exact hw.2.1, va_K.moved hW.alike hK, hw.2.2.1⟩, hw.2.2.2.1.F ht⟩) hw.2.2.2.1.2.2 dX10_readSaid_177
            · have r_v_8 : RI v_8 1 1 := rc_neL r_v_8 rl_0 (ti_ne c9_v_8) (by decide)
              obtain ⟨v_12, m_v_12, r_v_12⟩ := ((hp_v_8.2.2 c9_v_8).1)
              obtain ⟨v_13, m_v_13, r_v_13⟩ := ((hp_v_8.2.2 c9_v_8).2.1)
              obtain ⟨v_14, m_v_14, r_v_14⟩ := ((hp_v_8.2.2 c9_v_8).2.2.1)
              have x_SNT_p0_gd_1_gh_1_gg := ((hp_v_8.2.2 c9_v_8).2.2.2.1)
              refine lv_istore_n (lv' := [(3, .int v_8), (0, .ref p0), (1, .int x1), (2, .int x2)]) hx hb dX10_readSaid_104 rfl hl (by decide) rfl (fun ls hl => ?_)
              refine lv_goto (tgt := 166) hx hb dX10_readSaid_105 (by decide) ?_
              refine lv_aload_n hx hb dX10_readSaid_166 rfl (lv_at hl 1 rfl) ?_
              refine lv_dup hx hb dX10_readSaid_167 rfl ?_
              refine tg_mem (ci := 10) (C := RX10) (T := TX10) (N := 49) hx hb hts inX10 hown hK hw 47 m_v_13 rfl (by decide) (hts _ tw_1184) (fun _ h9 => h9) dX10_readSaid_168 ?_
              refine lv_iconst (v := 1) hx hb dX10_readSaid_171 (by decide) ?_
              refine lv_isub hx hb dX10_readSaid_172 (lv_topi (fun v_15 e_v_15 => ?_))
              obtain ⟨t_v_15, r_v_15⟩ := tq_sub (lo := 5) (hi := 5) r_v_13 rl_1 (by decide +kernel) e_v_15
              have t_v_15 : v_15.toInt = v_13.toInt - 1 := t_v_15
              refine tg_put (ci := 10) (ts := ty_MODEL) (v := .int v_15) (ty := .int) (C := RX10) (T := TX10) (N := 49) hx hb hts inX10 tyX10 tyX10_ok nmX10 hown hK hw h_p0 rfl rfl 47 (by decide) (hts _ tw_1184) (fun _ h9 => h9) rfl (by decide +kernel) rfl rfl (ft := vI (-2147483648) 2147483647) rfl ⟨_, rfl, (r_v_15.to (by decide))⟩ (by decide) dX10_readSaid_173 (fun ws H locs hw n_k_16 hF9 => ?_)
              have m_v_12 := FLD.over hF9 m_v_12 (by decide)
              have m_v_14 := FLD.over hF9 m_v_14 (by decide)
              have x_SNT_p0_gd_1_gh_1_gg := SNT.over hF9 x_SNT_p0_gd_1_gh_1_gg (by decide)
              refine lv_iload_n hx hb dX10_readSaid_176 rfl (lv_at hl 0 rfl) ?_
              subst hQ
              exact W.zret (v := v_8) hx hb hr (tq_nz (r_v_8.to (by decide))) (fun t ht hW => ⟨⟨v_8, ws, rfl, ⟨⟨r_v_8.to (by decide), (fun h0 => absurd (ti_eq h0) (by have h8 := r_v_8; unfold RI at h8; rw [Int32.toInt_zero]; omega)), (fun h0 => ⟨⟨_, m_v_12, r_v_12⟩, ⟨_, m_v_14, r_v_14⟩, ⟨_, n_k_16, r_v_15⟩, x_SNT_p0_gd_1_gh_1_gg, trivial⟩)⟩, hw.1, hw.2.2.2.2.1⟩, by rw [ht]; exact hw.2.1, va_K.moved hW.alike hK, hw.2.2.1⟩, hw.2.2.2.1.F ht⟩) hw.2.2.2.1.2.2 dX10_readSaid_177
        · have r_z0_47 : RI z0_47 8 5 := rc_eq1 r_z0_47 rl_8 (ti_eq c_61) (by decide)
          exact (r_z0_47.no (by decide)).elim
    · have r_x1 : RI x1 0 0 := rc_eq1 r_x1 rl_0 (ti_eq c_31) (by decide)
      refine lv_iload_n hx hb dX10_readSaid_34 rfl (lv_at hl 2 rfl) ?_
      refine lv_bipush (v := 27) hx hb dX10_readSaid_35 (by decide) ?_
      refine lv_icmp_le (tgt := 46) hx hb dX10_readSaid_37 (by decide) (fun c_37 => ?_) (fun c_37 => ?_)
      · have r_x2 : RI x2 18 27 := rc_le1 r_x2 rl_27 (ti_le c_37) (by decide)
        refine lv_aload_n hx hb dX10_readSaid_46 rfl (lv_at hl 0 rfl) ?_
        refine tg_get (ci := 10) (ts := ty_MODEL) (C := RX10) (T := TX10) (N := 49) hx hb hts inX10 hown hK hw h_p0 rfl rfl 46 (by decide) (hts _ tw_1183) (fun _ h9 => h9) (ft := vI (-2147483648) 2147483647) rfl dX10_readSaid_47 (fun u_17 hv_u_17 m_u_17 => ?_)
        obtain ⟨vu_17, rfl, r_vu_17⟩ := hv_u_17
        obtain ⟨n9, hn9, rn9, r_vu_17, b9⟩ := SNp.getO hw x_SN_p0_gd_gh_gg m_u_17
        refine lv_bipush (v := 20) hx hb dX10_readSaid_50 (by decide) ?_
        refine lv_icmp_eq (tgt := 64) hx hb dX10_readSaid_52 (by decide) (fun c_52 => ?_) (fun c_52 => ?_)
        · have r_vu_17 : RI vu_17 20 20 := rc_eq1 r_vu_17 rl_20 (ti_eq c_52) (by decide)
          refine lv_aload_n hx hb dX10_readSaid_64 rfl (lv_at hl 0 rfl) ?_
          refine lv_iconst (v := 4) hx hb dX10_readSaid_65 (by decide) ?_
          refine tk_i (va_runV (As := [.int 4]) (rest := []) ⟨hx, hb, hml, hown, hts⟩ (c_X10_bad l D cy z H.size Ps ws hw.1 p0 4 h_p0 (rl_4.to (by decide))) (cwV 1 hts (gV tw_1336 tw_1338 ts_46 tw_15 tw_1339) rfl rfl rfl (by decide +kernel) ⟨Nat.le_of_ble_eq_true rfl, Nat.le_of_ble_eq_true rfl⟩) (tg_preV hw hK hSD hA (ci := 10) (q := (RX10, TX10, 49)) rfl h_p0 rfl) rfl rfl hl.1 rfl (lv_room (Nat.le_of_ble_eq_true rfl)) dX10_readSaid_66 ⟨Nat.le_of_ble_eq_true rfl, Nat.le_of_ble_eq_true rfl⟩) hw hA ⟨by decide, by decide⟩ (fun v_18 ws H locs hp_v_18 hw hF9 => ?_)
          have m_z0_47 := FLD.over hF9 m_z0_47 (by decide)
          have m_u_17 := FLD.over hF9 m_u_17 (by decide)
          have hn9 := FLD.over hF9 hn9 (by decide)
          have x_SN_p0_gd_gh_gg := SNp.over hF9 x_SN_p0_gd_gh_gg (by decide)
          have r_v_18 : RI v_18 0 0 := hp_v_18.1
          subst hQ
          exact W.zret (v := v_18) hx hb hr (tq_nz (r_v_18.to (by decide))) (fun t ht hW => ⟨⟨v_18, ws, rfl, ⟨⟨r_v_18.to (by decide), (fun h0 => ⟨⟨_, m_z0_47, r_z0_47⟩, trivial⟩), (fun h0 => absurd (Int32.toInt_inj.mp (by have h8 := r_v_18; unfold RI at h8; rw [Int32.toInt_zero]; omega)) h0)⟩, hw.1, hw.2.2.2.2.1⟩, by rw [ht]; exact hw.2.1, va_K.moved hW.alike hK, hw.2.2.1⟩, hw.2.2.2.1.F ht⟩) hw.2.2.2.1.2.2 dX10_readSaid_69
        · have r_vu_17 : RI vu_17 0 19 := rc_neU r_vu_17 rl_20 (ti_ne c_52) (by decide)
          refine lv_aload_n hx hb dX10_readSaid_55 rfl (lv_at hl 0 rfl) ?_
          refine tg_mem (ci := 10) (C := RX10) (T := TX10) (N := 49) hx hb hts inX10 hown hK hw 47 m_z0_47 rfl (by decide) (hts _ tw_1184) (fun _ h9 => h9) dX10_readSaid_56 ?_
          refine lv_bipush (v := 8) hx hb dX10_readSaid_59 (by decide) ?_
          refine lv_icmp_ne (tgt := 70) hx hb dX10_readSaid_61 (by decide) (fun c_61 => ?_) (fun c_61 => ?_)
          · refine lv_aload_n hx hb dX10_readSaid_70 rfl (lv_at hl 0 rfl) ?_
            refine lv_dup hx hb dX10_readSaid_71 rfl ?_
            refine tg_mem (ci := 10) (C := RX10) (T := TX10) (N := 49) hx hb hts inX10 hown hK hw 46 m_u_17 rfl (by decide) (hts _ tw_1183) (fun _ h9 => h9) dX10_readSaid_72 ?_
            refine lv_iconst (v := 1) hx hb dX10_readSaid_75 (by decide) ?_
            refine lv_iadd hx hb dX10_readSaid_76 (lv_topi (fun v_19 e_v_19 => ?_))
            obtain ⟨t_v_19, r_v_19⟩ := tq_add (lo := 1) (hi := 20) r_vu_17 rl_1 (by decide +kernel) e_v_19
            have t_v_19 : v_19.toInt = vu_17.toInt + 1 := t_v_19
            refine tg_put (ci := 10) (ts := ty_MODEL) (v := .int v_19) (ty := .int) (C := RX10) (T := TX10) (N := 49) hx hb hts inX10 tyX10 tyX10_ok nmX10 hown hK hw h_p0 rfl rfl 46 (by decide) (hts _ tw_1183) (fun _ h9 => h9) rfl (by decide +kernel) rfl rfl (ft := vI (-2147483648) 2147483647) rfl ⟨_, rfl, (r_v_19.to (by decide))⟩ (by decide) dX10_readSaid_77 (fun ws H locs hw n_k_20 hF9 => ?_)
            have m_z0_47 := FLD.over hF9 m_z0_47 (by decide)
            have hn9 := FLD.over hF9 hn9 (by decide)
            have x_SNI_p0_gd_1_gh_1_gg : SNI ws p0 (gd+1) (gh+1) (gg) := ⟨by omega, _, _, hn9, n_k_20, by have k1 := rn9.1; have k2 := r_v_19.2; omega⟩
            refine lv_aload_n hx hb dX10_readSaid_80 rfl (lv_at hl 0 rfl) ?_
            refine lv_dup hx hb dX10_readSaid_81 rfl ?_
            refine tg_mem (ci := 10) (C := RX10) (T := TX10) (N := 49) hx hb hts inX10 hown hK hw 47 m_z0_47 rfl (by decide) (hts _ tw_1184) (fun _ h9 => h9) dX10_readSaid_82 ?_
            refine lv_iconst (v := 1) hx hb dX10_readSaid_85 (by decide) ?_
            refine lv_iadd hx hb dX10_readSaid_86 (lv_topi (fun v_21 e_v_21 => ?_))
            obtain ⟨t_v_21, r_v_21⟩ := tq_add (lo := 6) (hi := 6) r_z0_47 rl_1 (by decide +kernel) e_v_21
            have t_v_21 : v_21.toInt = z0_47.toInt + 1 := t_v_21
            refine tg_put (ci := 10) (ts := ty_MODEL) (v := .int v_21) (ty := .int) (C := RX10) (T := TX10) (N := 49) hx hb hts inX10 tyX10 tyX10_ok nmX10 hown hK hw h_p0 rfl rfl 47 (by decide) (hts _ tw_1184) (fun _ h9 => h9) rfl (by decide +kernel) rfl rfl (ft := vI (-2147483648) 2147483647) rfl ⟨_, rfl, (r_v_21.to (by decide))⟩ (by decide) dX10_readSaid_87 (fun ws H locs hw n_k_22 hF9 => ?_)
            have hn9 := FLD.over hF9 hn9 (by decide)
            have n_k_20 := FLD.over hF9 n_k_20 (by decide)
            have x_SNI_p0_gd_1_gh_1_gg := SNI.over hF9 x_SNI_p0_gd_1_gh_1_gg (by decide)
            refine lv_aload_n hx hb dX10_readSaid_90 rfl (lv_at hl 0 rfl) ?_
            refine tk_v (va_runV (As := []) (rest := []) ⟨hx, hb, hml, hown, hts⟩ (c_X10_go l D cy z H.size Ps ws hw.1 p0 h_p0) (cwV 0 hts (gV tw_1298 tw_1300 ts_40 tw_15 tw_1301) rfl rfl rfl (by decide +kernel) ⟨Nat.le_of_ble_eq_true rfl, Nat.le_of_ble_eq_true rfl⟩) (tg_preV hw hK hSD hA (ci := 10) (q := (RX10, TX10, 49)) rfl h_p0 rfl) rfl rfl hl.1 rfl (lv_room (Nat.le_of_ble_eq_true rfl)) dX10_readSaid_91 ⟨Nat.le_of_ble_eq_true rfl, Nat.le_of_ble_eq_true rfl⟩) hw hA ⟨by decide, by decide⟩ (fun ws H locs hp_v_23 hw hF9 => ?_)
            have hn9 := FLD.over hF9 hn9 (by decide)
            have n_k_20 := FLD.over hF9 n_k_20 (by decide)
            have n_k_22 := FLD.over hF9 n_k_22 (by decide)
            have x_SNI_p0_gd_1_gh_1_gg := SNI.over hF9 x_SNI_p0_gd_1_gh_1_gg (by decide)
            refine lv_iconst (v := 1) hx hb dX10_readSaid_94 (by decide) ?_
            refine lv_istore_n (lv' := [(3, .int 1), (0, .ref p0), (1, .int x1), (2, .int x2)]) hx hb dX10_readSaid_95 rfl hl (by decide) rfl (fun ls hl => ?_)
            refine lv_iload_n hx hb dX10_readSaid_96 rfl (lv_at hl 2 rfl) ?_
            refine lv_if_eq (tgt := 108) hx hb dX10_readSaid_97 (by decide) (fun c_97 => ?_) (fun c_97 => ?_)
            · refine lv_iload_n hx hb dX10_readSaid_108 rfl (lv_at hl 3 rfl) ?_
              refine lv_bipush (v := 18) hx hb dX10_readSaid_109 (by decide) ?_
              refine lv_icmp_ne (tgt := 122) hx hb dX10_readSaid_111 (by decide) (fun c_111 => ?_) (fun c_111 => ?_)
              · have r_x2 : RI x2 19 27 := rc_neL r_x2 rl_18 (ti_ne c_111) (by decide)
                refine lv_iload_n hx hb dX10_readSaid_122 rfl (lv_at hl 3 rfl) ?_
                refine lv_bipush (v := 22) hx hb dX10_readSaid_123 (by decide) ?_
                refine lv_icmp_ge (tgt := 146) hx hb dX10_readSaid_125 (by decide) (fun c_125 => ?_) (fun c_125 => ?_)
                · have r_x2 : RI x2 22 27 := rc_le2 rl_22 r_x2 (ti_le c_125) (by decide)
                  refine lv_iload_n hx hb dX10_readSaid_146 rfl (lv_at hl 3 rfl) ?_
                  refine lv_bipush (v := 24) hx hb dX10_readSaid_147 (by decide) ?_
                  refine lv_icmp_ge (tgt := 160) hx hb dX10_readSaid_149 (by decide) (fun c_149 => ?_) (fun c_149 => ?_)
                  · have r_x2 : RI x2 24 27 := rc_le2 rl_24 r_x2 (ti_le c_149) (by decide)
                    refine lv_aload_n hx hb dX10_readSaid_160 rfl (lv_at hl 1 rfl) ?_
                    refine lv_iload_n hx hb dX10_readSaid_161 rfl (lv_at hl 3 rfl) ?_
                    refine tk_i (va_runV (As := [.int x2]) (rest := []) ⟨hx, hb, hml, hown, hts⟩ (c_X10_readCompare l D cy z H.size Ps ws hw.1 p0 x2 (gd+1) (gh+1) (gg) h_p0 r_x2 x_SNI_p0_gd_1_gh_1_gg) (cwV 1 hts (gV tw_1779 tw_1781 ts_118 tw_15 tw_1782) rfl rfl rfl (by decide +kernel) ⟨Nat.le_of_ble_eq_true rfl, Nat.le_of_ble_eq_true rfl⟩) (tg_preV hw hK hSD hA (ci := 10) (q := (RX10, TX10, 49)) rfl h_p0 rfl) rfl rfl hl.1 rfl (lv_room (Nat.le_of_ble_eq_true rfl)) dX10_readSaid_162 ⟨Nat.le_of_ble_eq_true rfl, Nat.le_of_ble_eq_true rfl⟩) hw hA ⟨by decide, by decide⟩ (fun v_24 ws H locs hp_v_24 hw hF9 => ?_)
                    have n_k_20 := FLD.over hF9 n_k_20 (by decide)
                    have n_k_22 := FLD.over hF9 n_k_22 (by decide)
                    have r_v_24 : RI v_24 0 1 := hp_v_24.1
                    by_cases c9_v_24 : v_24 = 0
                    · have r_v_24 : RI v_24 0 0 := by rw [c9_v_24]; exact rl_0
                      refine lv_istore_n (lv' := [(3, .int v_24), (0, .ref p0), (1, .int x1), (2, .int x2)]) hx hb dX10_readSaid_165 rfl hl (by decide) rfl (fun ls hl => ?_)
                      refine lv_aload_n hx hb dX10_readSaid_166 rfl (lv_at hl 1 rfl) ?_
                      refine lv_dup hx hb dX10_readSaid_167 rfl ?_
                      refine tg_mem (ci := 10) (C := RX10) (T := TX10) (N := 49) hx hb hts inX10 hown hK hw 47 n_k_22 rfl (by decide) (hts _ tw_1184) (fun _ h9 => h9) dX10_readSaid_168 ?_
                      refine lv_iconst (v := 1) hx hb dX10_readSaid_171 (by decide) ?_
                      refine lv_isub hx hb dX10_readSaid_172 (lv_topi (fun v_25 e_v_25 => ?_))
                      obtain ⟨t_v_25, r_v_25⟩ := tq_sub (lo := 5) (hi := 5) r_v_21 rl_1 (by decide +kernel) e_v_25
                      have t_v_25 : v_25.toInt = v_21.toInt - 1 := t_v_25
                      refine tg_put (ci := 10) (ts := ty_MODEL) (v := .int v_25) (ty := .int) (C := RX10) (T := TX10) (N := 49) hx hb hts inX10 tyX10 tyX10_ok nmX10 hown hK hw h_p0 rfl rfl 47 (by decide) (hts _ tw_1184) (fun _ h9 => h9) rfl (by decide +kernel) rfl rfl (ft := vI (-2147483648) 2147483647) rfl ⟨_, rfl, (r_v_25.to (by decide))⟩ (by decide) dX10_readSaid_173 (fun ws H locs hw n_k_26 hF9 => ?_)
                      have n_k_20 := FLD.over hF9 n_k_20 (by decide)
                      refine lv_iload_n hx hb dX10_readSaid_176 rfl (lv_at hl 0 rfl) ?_
                      subst hQ
                      exact W.zret (v := v_24) hx hb hr (tq_nz (r_v_24.to (by decide))) (fun t ht hW => ⟨⟨v_24, ws, rfl, ⟨⟨r_v_24.to (by decide), (fun h0 => ⟨⟨_, n_k_26, r_v_25⟩, trivial⟩), (fun h0 => absurd (Int32.toInt_inj.mp (by have h8 := r_v_24; unfold RI at h8; rw [Int32.toInt_zero]; omega)) h0)⟩, hw.1, hw.2.2.2.2.1⟩, by rw [ht]; exact hw.2.1, va_K.moved hW.alike hK, hw.2.2.1⟩, hw.2.2.2.1.F ht⟩) hw.2.2.2.1.2.2 dX10_readSaid_177
                    · have r_v_24 : RI v_24 1 1 := rc_neL r_v_24 rl_0 (ti_ne c9_v_24) (by decide)
                      obtain ⟨v_27, m_v_27, r_v_27⟩ := ((hp_v_24.2.2 c9_v_24).1)
                      obtain ⟨v_28, m_v_28, r_v_28⟩ := ((hp_v_24.2.2 c9_v_24).2.1)
                      have x_SNT_p0_gd_1_gh_1_gg := ((hp_v_24.2.2 c9_v_24).2.2.1)
                      refine lv_istore_n (lv' := [(3, .int v_24), (0, .ref p0), (1, .int x1), (2, .int x2)]) hx hb dX10_readSaid_165 rfl hl (by decide) rfl (fun ls hl => ?_)
                      refine lv_aload_n hx hb dX10_readSaid_166 rfl (lv_at hl 1 rfl) ?_
                      refine lv_dup hx hb dX10_readSaid_167 rfl ?_
                      refine tg_mem (ci := 10) (C := RX10) (T := TX10) (N := 49) hx hb hts inX10 hown hK hw 47 n_k_22 rfl (by decide) (hts _ tw_1184) (fun _ h9 => h9) dX10_readSaid_168 ?_
                      refine lv_iconst (v := 1) hx hb dX10_readSaid_171 (by decide) ?_
                      refine lv_isub hx hb dX10_readSaid_172 (lv_topi (fun v_29 e_v_29 => ?_))
                      obtain ⟨t_v_29, r_v_29⟩ := tq_sub (lo := 5) (hi := 5) r_v_21 rl_1 (by decide +kernel) e_v_29
                      have t_v_29 : v_29.toInt = v_21.toInt - 1 := t_v_29
                      refine tg_put (ci := 10) (ts := ty_MODEL) (v := .int v_29) (ty := .int) (C := RX10) (T := TX10) (N := 49) hx hb hts inX10 tyX10 tyX10_ok nmX10 hown hK hw h_p0 rfl rfl 47 (by decide) (hts _ tw_1184) (fun _ h9 => h9) rfl (by decide +kernel) rfl rfl (ft := vI (-2147483648) 2147483647) rfl ⟨_, rfl, (r_v_29.to (by decide))⟩ (by decide) dX10_readSaid_173 (fun ws H locs hw n_k_30 hF9 => ?_)
                      have n_k_20 := FLD.over hF9 n_k_20 (by decide)
                      have m_v_27 := FLD.over hF9 m_v_27 (by decide)
                      have m_v_28 := FLD.over hF9 m_v_28 (by decide)
                      have x_SNT_p0_gd_1_gh_1_gg := SNT.over hF9 x_SNT_p0_gd_1_gh_1_gg (by decide)
                      refine lv_iload_n hx hb dX10_readSaid_176 rfl (lv_at hl 0 rfl) ?_
                      subst hQ
                      exact W.zret (v := v_24) hx hb hr (tq_nz (r_v_24.to (by decide))) (fun t ht hW => ⟨⟨v_24, ws, rfl, ⟨⟨r_v_24.to (by decide), (fun h0 => absurd (ti_eq h0) (by have h8 := r_v_24; unfold RI at h8; rw [Int32.toInt_zero]; omega)), (fun h0 => ⟨⟨_, n_k_20, r_v_19⟩, ⟨_, m_v_28, r_v_28⟩, ⟨_, n_k_30, r_v_29⟩, x_SNT_p0_gd_1_gh_1_gg, trivial⟩)⟩, hw.1, hw.2.2.2.2.1⟩, by rw [ht]; exact hw.2.1, va_K.moved hW.alike hK, hw.2.2.1⟩, hw.2.2.2.1.F ht⟩) hw.2.2.2.1.2.2 dX10_readSaid_177
                  · have r_x2 : RI x2 22 23 := rc_lt1 r_x2 rl_24 (ti_nle c_149) (by decide)
                    refine lv_aload_n hx hb dX10_readSaid_152 rfl (lv_at hl 1 rfl) ?_
                    refine lv_iload_n hx hb dX10_readSaid_153 rfl (lv_at hl 3 rfl) ?_
                    refine tk_i (va_runV (As := [.int x2]) (rest := []) ⟨hx, hb, hml, hown, hts⟩ (c_X10_readOf l D cy z H.size Ps ws hw.1 p0 x2 (gd+1) (gh+1) (gg) h_p0 r_x2 x_SNI_p0_gd_1_gh_1_gg) (cwV 1 hts (gV tw_1775 tw_1777 ts_117 tw_15 tw_1778) rfl rfl rfl (by decide +kernel) ⟨Nat.le_of_ble_eq_true rfl, Nat.le_of_ble_eq_true rfl⟩) (tg_preV hw hK hSD hA (ci := 10) (q := (RX10, TX10, 49)) rfl h_p0 rfl) rfl rfl hl.1 rfl (lv_room (Nat.le_of_ble_eq_true rfl)) dX10_readSaid_154 ⟨Nat.le_of_ble_eq_true rfl, Nat.le_of_ble_eq_true rfl⟩) hw hA ⟨by decide, by decide⟩ (fun v_31 ws H locs hp_v_31 hw hF9 => ?_)
                    have n_k_20 := FLD.over hF9 n_k_20 (by decide)
                    have n_k_22 := FLD.over hF9 n_k_22 (by decide)
                    have r_v_31 : RI v_31 0 1 := hp_v_31.1
                    by_cases c9_v_31 : v_31 = 0
                    · have r_v_31 : RI v_31 0 0 := by rw [c9_v_31]; exact rl_0
                      refine lv_goto (tgt := 165) hx hb dX10_readSaid_157 (by decide) ?_
                      refine lv_istore_n (lv' := [(3, .int v_31), (0, .ref p0), (1, .int x1), (2, .int x2)]) hx hb dX10_readSaid_165 rfl hl (by decide) rfl (fun ls hl => ?_)
                      refine lv_aload_n hx hb dX10_readSaid_166 rfl (lv_at hl 1 rfl) ?_
                      refine lv_dup hx hb dX10_readSaid_167 rfl ?_
                      refine tg_mem (ci := 10) (C := RX10) (T := TX10) (N := 49) hx hb hts inX10 hown hK hw 47 n_k_22 rfl (by decide) (hts _ tw_1184) (fun _ h9 => h9) dX10_readSaid_168 ?_
                      refine lv_iconst (v := 1) hx hb dX10_readSaid_171 (by decide) ?_
                      refine lv_isub hx hb dX10_readSaid_172 (lv_topi (fun v_32 e_v_32 => ?_))
                      obtain ⟨t_v_32, r_v_32⟩ := tq_sub (lo := 5) (hi := 5) r_v_21 rl_1 (by decide +kernel) e_v_32
                      have t_v_32 : v_32.toInt = v_21.toInt - 1 := t_v_32
                      refine tg_put (ci := 10) (ts := ty_MODEL) (v := .int v_32) (ty := .int) (C := RX10) (T := TX10) (N := 49) hx hb hts inX10 tyX10 tyX10_ok nmX10 hown hK hw h_p0 rfl rfl 47 (by decide) (hts _ tw_1184) (fun _ h9 => h9) rfl (by decide +kernel) rfl rfl (ft := vI (-2147483648) 2147483647) rfl ⟨_, rfl, (r_v_32.to (by decide))⟩ (by decide) dX10_readSaid_173 (fun ws H locs hw n_k_33 hF9 => ?_)
                      have n_k_20 := FLD.over hF9 n_k_20 (by decide)
                      refine lv_iload_n hx hb dX10_readSaid_176 rfl (lv_at hl 0 rfl) ?_
                      subst hQ
                      exact W.zret (v := v_31) hx hb hr (tq_nz (r_v_31.to (by decide))) (fun t ht hW => ⟨⟨v_31, ws, rfl, ⟨⟨r_v_31.to (by decide), (fun h0 => ⟨⟨_, n_k_33, r_v_32⟩, trivial⟩), (fun h0 => absurd (Int32.toInt_inj.mp (by have h8 := r_v_31; unfold RI at h8; rw [Int32.toInt_zero]; omega)) h0)⟩, hw.1, hw.2.2.2.2.1⟩, by rw [ht]; exact hw.2.1, va_K.moved hW.alike hK, hw.2.2.1⟩, hw.2.2.2.1.F ht⟩) hw.2.2.2.1.2.2 dX10_readSaid_177
                    · have r_v_31 : RI v_31 1 1 := rc_neL r_v_31 rl_0 (ti_ne c9_v_31) (by decide)
                      obtain ⟨v_34, m_v_34, r_v_34⟩ := ((hp_v_31.2.2 c9_v_31).1)
                      obtain ⟨v_35, m_v_35, r_v_35⟩ := ((hp_v_31.2.2 c9_v_31).2.1)
                      have x_SNT_p0_gd_1_gh_1_gg := ((hp_v_31.2.2 c9_v_31).2.2.1)
                      refine lv_goto (tgt := 165) hx hb dX10_readSaid_157 (by decide) ?_
                      refine lv_istore_n (lv' := [(3, .int v_31), (0, .ref p0), (1, .int x1), (2, .int x2)]) hx hb dX10_readSaid_165 rfl hl (by decide) rfl (fun ls hl => ?_)
                      refine lv_aload_n hx hb dX10_readSaid_166 rfl (lv_at hl 1 rfl) ?_
                      refine lv_dup hx hb dX10_readSaid_167 rfl ?_
                      refine tg_mem (ci := 10) (C := RX10) (T := TX10) (N := 49) hx hb hts inX10 hown hK hw 47 n_k_22 rfl (by decide) (hts _ tw_1184) (fun _ h9 => h9) dX10_readSaid_168 ?_
                      refine lv_iconst (v := 1) hx hb dX10_readSaid_171 (by decide) ?_
                      refine lv_isub hx hb dX10_readSaid_172 (lv_topi (fun v_36 e_v_36 => ?_))
                      obtain ⟨t_v_36, r_v_36⟩ := tq_sub (lo := 5) (hi := 5) r_v_21 rl_1 (by decide +kernel) e_v_36
                      have t_v_36 : v_36.toInt = v_21.toInt - 1 := t_v_36
                      refine tg_put (ci := 10) (ts := ty_MODEL) (v := .int v_36) (ty := .int) (C := RX10) (T := TX10) (N := 49) hx hb hts inX10 tyX10 tyX10_ok nmX10 hown hK hw h_p0 rfl rfl 47 (by decide) (hts _ tw_1184) (fun _ h9 => h9) rfl (by decide +kernel) rfl rfl (ft := vI (-2147483648) 2147483647) rfl ⟨_, rfl, (r_v_36.to (by decide))⟩ (by decide) dX10_readSaid_173 (fun ws H locs hw n_k_37 hF9 => ?_)
                      have n_k_20 := FLD.over hF9 n_k_20 (by decide)
                      have m_v_34 := FLD.over hF9 m_v_34 (by decide)
                      have m_v_35 := FLD.over hF9 m_v_35 (by decide)
                      have x_SNT_p0_gd_1_gh_1_gg := SNT.over hF9 x_SNT_p0_gd_1_gh_1_gg (by decide)
                      refine lv_iload_n hx hb dX10_readSaid_176 rfl (lv_at hl 0 rfl) ?_
                      subst hQ
                      exact W.zret (v := v_31) hx hb hr (tq_nz (r_v_31.to (by decide))) (fun t ht hW => ⟨⟨v_31, ws, rfl, ⟨⟨r_v_31.to (by decide), (fun h0 => absurd (ti_eq h0) (by have h8 := r_v_31; unfold RI at h8; rw [Int32.toInt_zero]; omega)), (fun h0 => ⟨⟨_, n_k_20, r_v_19⟩, ⟨_, m_v_35, r_v_35⟩, ⟨_, n_k_37, r_v_36⟩, x_SNT_p0_gd_1_gh_1_gg, trivial⟩)⟩, hw.1, hw.2.2.2.2.1⟩, by rw [ht]; exact hw.2.1, va_K.moved hW.alike hK, hw.2.2.1⟩, hw.2.2.2.1.F ht⟩) hw.2.2.2.1.2.2 dX10_readSaid_177
                · have r_x2 : RI x2 19 21 := rc_lt1 r_x2 rl_22 (ti_nle c_125) (by decide)
                  refine lv_aload_n hx hb dX10_readSaid_128 rfl (lv_at hl 1 rfl) ?_
                  refine lv_aload_n hx hb dX10_readSaid_129 rfl (lv_at hl 1 rfl) ?_
                  refine lv_bipush (v := 50) hx hb dX10_readSaid_130 (by decide) ?_
                  refine lv_iload_n hx hb dX10_readSaid_132 rfl (lv_at hl 3 rfl) ?_
                  refine lv_iadd hx hb dX10_readSaid_133 (lv_topi (fun v_38 e_v_38 => ?_))
                  obtain ⟨t_v_38, r_v_38⟩ := tq_add (lo := 69) (hi := 71) rl_50 r_x2 (by decide +kernel) e_v_38
                  have t_v_38 : v_38.toInt = 50 + x2.toInt := t_v_38
                  refine lv_iconst (v := 0) hx hb dX10_readSaid_134 (by decide) ?_
                  refine lv_iconst (v := 0) hx hb dX10_readSaid_135 (by decide) ?_
                  refine lv_iconst (v := 0) hx hb dX10_readSaid_136 (by decide) ?_
                  refine tk_i (va_runV (As := [.int v_38, .int 0, .int 0, .int 0]) (rest := [.ref p0]) ⟨hx, hb, hml, hown, hts⟩ (c_X10_saysOne l D cy z H.size Ps ws hw.1 p0 v_38 0 0 0 (gd+1) (gh+1) (gg) h_p0 (r_v_38.to (by decide)) (rl_0.to (by decide)) (rl_0.to (by decide)) (rl_0.to (by decide)) x_SNI_p0_gd_1_gh_1_gg) (cwV 4 hts (gV tw_1771 tw_1773 ts_116 tw_15 tw_1774) rfl rfl rfl (by decide +kernel) ⟨Nat.le_of_ble_eq_true rfl, Nat.le_of_ble_eq_true rfl⟩) (tg_preV hw hK hSD hA (ci := 10) (q := (RX10, TX10, 49)) rfl h_p0 rfl) rfl rfl hl.1 rfl (lv_room (Nat.le_of_ble_eq_true rfl)) dX10_readSaid_137 ⟨Nat.le_of_ble_eq_true rfl, Nat.le_of_ble_eq_true rfl⟩) hw hA ⟨by decide, by decide⟩ (fun v_39 ws H locs hp_v_39 hw hF9 => ?_)
                  have n_k_20 := FLD.over hF9 n_k_20 (by decide)
                  have n_k_22 := FLD.over hF9 n_k_22 (by decide)
                  have r_v_39 : RI v_39 0 39 := hp_v_39.1
                  have x_SNL_p0_gd_1_gh_1_gg_v_39 := hp_v_39.2.2.2.1.1
                  refine tg_put (ci := 10) (ts := ty_MODEL) (v := .int v_39) (ty := .int) (C := RX10) (T := TX10) (N := 49) hx hb hts inX10 tyX10 tyX10_ok nmX10 hown hK hw h_p0 rfl rfl 48 (by decide) (hts _ tw_1185) (fun _ h9 => h9) rfl (by decide +kernel) rfl rfl (ft := vI (-2147483648) 2147483647) rfl ⟨_, rfl, (r_v_39.to (by decide))⟩ (by decide) dX10_readSaid_140 (fun ws H locs hw n_k_40 hF9 => ?_)
                  have n_k_20 := FLD.over hF9 n_k_20 (by decide)
                  have n_k_22 := FLD.over hF9 n_k_22 (by decide)
                  have x_SNL_p0_gd_1_gh_1_gg_v_39 := SNL.over hF9 x_SNL_p0_gd_1_gh_1_gg_v_39 (by decide)
                  have x_SNT_p0_gd_1_gh_1_gg : SNT ws p0 (gd+1) (gh+1) (gg) := (x_SNL_p0_gd_1_gh_1_gg_v_39.weak (d' := gd+1) (h' := gh+1) (g' := gg) (by have k1 := x_SNL_p0_gd_1_gh_1_gg_v_39.le; have d_8 := SNp.le x_SN_p0_gd_gh_gg; omega)).snt n_k_40
                  refine lv_goto (tgt := 166) hx hb dX10_readSaid_143 (by decide) ?_
                  refine lv_aload_n hx hb dX10_readSaid_166 rfl (lv_at hl 1 rfl) ?_
                  refine lv_dup hx hb dX10_readSaid_167 rfl ?_
                  refine tg_mem (ci := 10) (C := RX10) (T := TX10) (N := 49) hx hb hts inX10 hown hK hw 47 n_k_22 rfl (by decide) (hts _ tw_1184) (fun _ h9 => h9) dX10_readSaid_168 ?_
                  refine lv_iconst (v := 1) hx hb dX10_readSaid_171 (by decide) ?_
                  refine lv_isub hx hb dX10_readSaid_172 (lv_topi (fun v_41 e_v_41 => ?_))
                  obtain ⟨t_v_41, r_v_41⟩ := tq_sub (lo := 5) (hi := 5) r_v_21 rl_1 (by decide +kernel) e_v_41
                  have t_v_41 : v_41.toInt = v_21.toInt - 1 := t_v_41
                  refine tg_put (ci := 10) (ts := ty_MODEL) (v := .int v_41) (ty := .int) (C := RX10) (T := TX10) (N := 49) hx hb hts inX10 tyX10 tyX10_ok nmX10 hown hK hw h_p0 rfl rfl 47 (by decide) (hts _ tw_1184) (fun _ h9 => h9) rfl (by decide +kernel) rfl rfl (ft := vI (-2147483648) 2147483647) rfl ⟨_, rfl, (r_v_41.to (by decide))⟩ (by decide) dX10_readSaid_173 (fun ws H locs hw n_k_42 hF9 => ?_)
                  have n_k_20 := FLD.over hF9 n_k_20 (by decide)
                  have n_k_40 := FLD.over hF9 n_k_40 (by decide)
                  have x_SNL_p0_gd_1_gh_1_gg_v_39 := SNL.over hF9 x_SNL_p0_gd_1_gh_1_gg_v_39 (by decide)
                  have x_SNT_p0_gd_1_gh_1_gg := SNT.over hF9 x_SNT_p0_gd_1_gh_1_gg (by decide)
                  refine lv_iload_n hx hb dX10_readSaid_176 rfl (lv_at hl 0 rfl) ?_
                  subst hQ
                  exact W.zret (v := 1) hx hb hr (rfl) (fun t ht hW => ⟨⟨1, ws, rfl, ⟨⟨rl_1.to (by decide), (fun h0 => absurd h0 (by decide)), (fun h0 => ⟨⟨_, n_k_20, r_v_19⟩, ⟨_, n_k_40, r_v_39⟩, ⟨_, n_k_42, r_v_41⟩, x_SNT_p0_gd_1_gh_1_gg, trivial⟩)⟩, hw.1, hw.2.2.2.2.1⟩, by rw [ht]; exact hw.2.1, va_K.moved hW.alike hK, hw.2.2.1⟩, hw.2.2.2.1.F ht⟩) hw.2.2.2.1.2.2 dX10_readSaid_177
              · have r_x2 : RI x2 18 18 := rc_eq1 r_x2 rl_18 (ti_eq c_111) (by decide)
                refine lv_aload_n hx hb dX10_readSaid_114 rfl (lv_at hl 1 rfl) ?_
                refine tk_i (va_runV (As := []) (rest := []) ⟨hx, hb, hml, hown, hts⟩ (c_X10_readNot__2 l D cy z H.size Ps ws hw.1 p0 v_21 (gd+1) (gh+1) (gg) h_p0 r_v_21 n_k_22 x_SNI_p0_gd_1_gh_1_gg) (cwV 0 hts (gV tw_1767 tw_1769 ts_115 tw_15 tw_1770) rfl rfl rfl (by decide +kernel) ⟨Nat.le_of_ble_eq_true rfl, Nat.le_of_ble_eq_true rfl⟩) (tg_preV hw hK hSD hA (ci := 10) (q := (RX10, TX10, 49)) rfl h_p0 rfl) rfl rfl hl.1 rfl (lv_room (Nat.le_of_ble_eq_true rfl)) dX10_readSaid_115 ⟨Nat.le_of_ble_eq_true rfl, Nat.le_of_ble_eq_true rfl⟩) hw hA ⟨by decide, by decide⟩ (fun v_43 ws H locs hp_v_43 hw hF9 => ?_)
                have r_v_43 : RI v_43 0 1 := hp_v_43.1
                by_cases c9_v_43 : v_43 = 0
                · have r_v_43 : RI v_43 0 0 := by rw [c9_v_43]; exact rl_0
                  obtain ⟨v_44, m_v_44, r_v_44⟩ := ((hp_v_43.2.1 c9_v_43).1)
                  refine lv_istore_n (lv' := [(3, .int v_43), (0, .ref p0), (1, .int x1), (2, .int x2)]) hx hb dX10_readSaid_118 rfl hl (by decide) rfl (fun ls hl => ?_)
                  refine lv_goto (tgt := 166) hx hb dX10_readSaid_119 (by decide) ?_
                  refine lv_aload_n hx hb dX10_readSaid_166 rfl (lv_at hl 1 rfl) ?_
                  refine lv_dup hx hb dX10_readSaid_167 rfl ?_
                  refine tg_mem (ci := 10) (C := RX10) (T := TX10) (N := 49) hx hb hts inX10 hown hK hw 47 m_v_44 rfl (by decide) (hts _ tw_1184) (fun _ h9 => h9) dX10_readSaid_168 ?_
                  refine lv_iconst (v := 1) hx hb dX10_readSaid_171 (by decide) ?_
                  refine lv_isub hx hb dX10_readSaid_172 (lv_topi (fun v_45 e_v_45 => ?_))
                  obtain ⟨t_v_45, r_v_45⟩ := tq_sub (lo := 5) (hi := 5) r_v_44 rl_1 (by decide +kernel) e_v_45
                  have t_v_45 : v_45.toInt = v_44.toInt - 1 := t_v_45
                  refine tg_put (ci := 10) (ts := ty_MODEL) (v := .int v_45) (ty := .int) (C := RX10) (T := TX10) (N := 49) hx hb hts inX10 tyX10 tyX10_ok nmX10 hown hK hw h_p0 rfl rfl 47 (by decide) (hts _ tw_1184) (fun _ h9 => h9) rfl (by decide +kernel) rfl rfl (ft := vI (-2147483648) 2147483647) rfl ⟨_, rfl, (r_v_45.to (by decide))⟩ (by decide) dX10_readSaid_173 (fun ws H locs hw n_k_46 hF9 => ?_)
                  refine lv_iload_n hx hb dX10_readSaid_176 rfl (lv_at hl 0 rfl) ?_
                  subst hQ
                  exact W.zret (v := v_43) hx hb hr (tq_nz (r_v_43.to (by decide))) (fun t ht hW => ⟨⟨v_43, ws, rfl, ⟨⟨r_v_43.to (by decide), (fun h0 => ⟨⟨_, n_k_46, r_v_45⟩, trivial⟩), (fun h0 => absurd (Int32.toInt_inj.mp (by have h8 := r_v_43; unfold RI at h8; rw [Int32.toInt_zero]; omega)) h0)⟩, hw.1, hw.2.2.2.2.1⟩, by rw [ht]; exact hw.2.1, va_K.moved hW.alike hK, hw.2.2.1⟩, hw.2.2.2.1.F ht⟩) hw.2.2.2.1.2.2 dX10_readSaid_177
                · have r_v_43 : RI v_43 1 1 := rc_neL r_v_43 rl_0 (ti_ne c9_v_43) (by decide)
                  obtain ⟨v_47, m_v_47, r_v_47⟩ := ((hp_v_43.2.2 c9_v_43).1)
                  obtain ⟨v_48, m_v_48, r_v_48⟩ := ((hp_v_43.2.2 c9_v_43).2.1)
                  obtain ⟨v_49, m_v_49, r_v_49⟩ := ((hp_v_43.2.2 c9_v_43).2.2.1)
                  have x_SNT_p0_gd_1_gh_1_gg := ((hp_v_43.2.2 c9_v_43).2.2.2.1)
                  refine lv_istore_n (lv' := [(3, .int v_43), (0, .ref p0), (1, .int x1), (2, .int x2)]) hx hb dX10_readSaid_118 rfl hl (by decide) rfl (fun ls hl => ?_)
                  refine lv_goto (tgt := 166) hx hb dX10_readSaid_119 (by decide) ?_
                  refine lv_aload_n hx hb dX10_readSaid_166 rfl (lv_at hl 1 rfl) ?_
                  refine lv_dup hx hb dX10_readSaid_167 rfl ?_
                  refine tg_mem (ci := 10) (C := RX10) (T := TX10) (N := 49) hx hb hts inX10 hown hK hw 47 m_v_48 rfl (by decide) (hts _ tw_1184) (fun _ h9 => h9) dX10_readSaid_168 ?_
                  refine lv_iconst (v := 1) hx hb dX10_readSaid_171 (by decide) ?_
                  refine lv_isub hx hb dX10_readSaid_172 (lv_topi (fun v_50 e_v_50 => ?_))
                  obtain ⟨t_v_50, r_v_50⟩ := tq_sub (lo := 5) (hi := 5) r_v_48 rl_1 (by decide +kernel) e_v_50
                  have t_v_50 : v_50.toInt = v_48.toInt - 1 := t_v_50
                  refine tg_put (ci := 10) (ts := ty_MODEL) (v := .int v_50) (ty := .int) (C := RX10) (T := TX10) (N := 49) hx hb hts inX10 tyX10 tyX10_ok nmX10 hown hK hw h_p0 rfl rfl 47 (by decide) (hts _ tw_1184) (fun _ h9 => h9) rfl (by decide +kernel) rfl rfl (ft := vI (-2147483648) 2147483647) rfl ⟨_, rfl, (r_v_50.to (by decide))⟩ (by decide) dX10_readSaid_173 (fun ws H locs hw n_k_51 hF9 => ?_)
                  have m_v_47 := FLD.over hF9 m_v_47 (by decide)
                  have m_v_49 := FLD.over hF9 m_v_49 (by decide)
                  have x_SNT_p0_gd_1_gh_1_gg := SNT.over hF9 x_SNT_p0_gd_1_gh_1_gg (by decide)
                  refine lv_iload_n hx hb dX10_readSaid_176 rfl (lv_at hl 0 rfl) ?_
                  subst hQ
                  exact W.zret (v := v_43) hx hb hr (tq_nz (r_v_43.to (by decide))) (fun t ht hW => ⟨⟨v_43, ws, rfl, ⟨⟨r_v_43.to (by decide), (fun h0 => absurd (ti_eq h0) (by have h8 := r_v_43; unfold RI at h8; rw [Int32.toInt_zero]; omega)), (fun h0 => ⟨⟨_, m_v_47, r_v_47⟩, ⟨_, m_v_49, r_v_49⟩, ⟨_, n_k_51, r_v_50⟩, x_SNT_p0_gd_1_gh_1_gg, trivial⟩)⟩, hw.1, hw.2.2.2.2.1⟩, by rw [ht]; exact hw.2.1, va_K.moved hW.alike hK, hw.2.2.1⟩, hw.2.2.2.1.F ht⟩) hw.2.2.2.1.2.2 dX10_readSaid_177
            · exact absurd (r_x1.eq.trans rl_0.eq.symm) ((ti_ne c_97))
          · have r_z0_47 : RI z0_47 8 5 := rc_eq1 r_z0_47 rl_8 (ti_eq c_61) (by decide)
            exact (r_z0_47.no (by decide)).elim
      · have r_x2 : RI x2 28 28 := rc_lt2 rl_27 r_x2 (ti_nle c_37) (by decide)
        refine lv_aload_n hx hb dX10_readSaid_40 rfl (lv_at hl 0 rfl) ?_
        refine lv_iconst (v := 1) hx hb dX10_readSaid_41 (by decide) ?_
        refine tk_i (va_runV (As := [.int 1]) (rest := []) ⟨hx, hb, hml, hown, hts⟩ (c_X10_bad l D cy z H.size Ps ws hw.1 p0 1 h_p0 (rl_1.to (by decide))) (cwV 1 hts (gV tw_1336 tw_1338 ts_46 tw_15 tw_1339) rfl rfl rfl (by decide +kernel) ⟨Nat.le_of_ble_eq_true rfl, Nat.le_of_ble_eq_true rfl⟩) (tg_preV hw hK hSD hA (ci := 10) (q := (RX10, TX10, 49)) rfl h_p0 rfl) rfl rfl hl.1 rfl (lv_room (Nat.le_of_ble_eq_true rfl)) dX10_readSaid_42 ⟨Nat.le_of_ble_eq_true rfl, Nat.le_of_ble_eq_true rfl⟩) hw hA ⟨by decide, by decide⟩ (fun v_52 ws H locs hp_v_52 hw hF9 => ?_)
        have m_z0_47 := FLD.over hF9 m_z0_47 (by decide)
        have x_SN_p0_gd_gh_gg := SNp.over hF9 x_SN_p0_gd_gh_gg (by decide)
        have r_v_52 : RI v_52 0 0 := hp_v_52.1
        subst hQ
        exact W.zret (v := v_52) hx hb hr (tq_nz (r_v_52.to (by decide))) (fun t ht hW => ⟨⟨v_52, ws, rfl, ⟨⟨r_v_52.to (by decide), (fun h0 => ⟨⟨_, m_z0_47, r_z0_47⟩, trivial⟩), (fun h0 => absurd (Int32.toInt_inj.mp (by have h8 := r_v_52; unfold RI at h8; rw [Int32.toInt_zero]; omega)) h0)⟩, hw.1, hw.2.2.2.2.1⟩, by rw [ht]; exact hw.2.1, va_K.moved hW.alike hK, hw.2.2.1⟩, hw.2.2.2.1.F ht⟩) hw.2.2.2.1.2.2 dX10_readSaid_45
  have B10 : ∀ (nf : Nat) (x1 : Int32) (x2 : Int32) (z0_47 : Int32) (ws : va_W) (H : Heap) (locs : List Loc) (ls : Array Slot), 28 - x2.toInt < (nf : Int) → RI x1 0 1 → RI x2 18 28 → RI z0_47 5 5 → FLD ws p0 10 47 (.int z0_47) → SNp ws p0 (gd) (gh) (gg) → WD D cy GG A s wr_X10_readSaid__5 wa_X10_readSaid__5 Ps w0 Ps ws H locs → lv_has ls 4 [(0, .ref p0), (1, .int x1), (2, .int x2)] → W p l e (headSpec (Cond.code yX10_readSaid cX10_readSaid 4 (some .boolean) :: gT) ({ frames := 16, cells := 0, slots := 0, locals := 3200 } : Room)).room s m ([.ref p0] : List Value).toArray below meth c H locs 0 0 Q (F0 m 10 ls []) := by
    intro nf10
    induction nf10 with
    | zero =>
      intro x1 x2 z0_47 ws H locs ls hn10 r_x1 r_x2 r_z0_47 m_z0_47 x_SN_p0_gd_gh_gg hw hl
      exact absurd hn10 (by have q0 := r_x2.1; have u0 := r_x2.2; omega)
    | succ nf10 ih10 =>
      intro x1 x2 z0_47 ws H locs ls hn10 r_x1 r_x2 r_z0_47 m_z0_47 x_SN_p0_gd_gh_gg hw hl
      refine lv_iload_n hx hb dX10_readSaid_10 rfl (lv_at hl 2 rfl) ?_
      refine lv_bipush (v := 27) hx hb dX10_readSaid_11 (by decide) ?_
      refine lv_icmp_gt (tgt := 30) hx hb dX10_readSaid_13 (by decide) (fun c_13 => ?_) (fun c_13 => ?_)
      · have r_x2 : RI x2 28 28 := rc_lt2 rl_27 r_x2 (ti_lt c_13) (by decide)
        exact B30 x1 x2 z0_47 ws _ _ ls r_x1 (r_x2.to (by decide)) r_z0_47 m_z0_47 x_SN_p0_gd_gh_gg hw hl
      · have r_x2 : RI x2 18 27 := rc_le1 r_x2 rl_27 (ti_nlt c_13) (by decide)
        refine lv_aload_n hx hb dX10_readSaid_16 rfl (lv_at hl 0 rfl) ?_
        refine lv_iload_n hx hb dX10_readSaid_17 rfl (lv_at hl 2 rfl) ?_
        refine tk_ir (va_runV (As := [.int x2]) (rest := []) ⟨hx, hb, hml, hown, hts⟩ (c_X10_isWord l D cy z H.size Ps ws hw.1 p0 x2 h_p0 (r_x2.to (by decide))) (cwV 1 hts (gV tw_1318 tw_1320 ts_43 tw_15 tw_1321) rfl rfl rfl (by decide +kernel) ⟨Nat.le_of_ble_eq_true rfl, Nat.le_of_ble_eq_true rfl⟩) (tg_preV hw hK hSD hA (ci := 10) (q := (RX10, TX10, 49)) rfl h_p0 rfl) rfl rfl hl.1 rfl (lv_room (Nat.le_of_ble_eq_true rfl)) dX10_readSaid_18 ⟨Nat.le_of_ble_eq_true rfl, Nat.le_of_ble_eq_true rfl⟩) hw hA (fun v_53  H locs hp_v_53 hw => ?_)
        have r_v_53 : RI v_53 0 1 := hp_v_53.1
        refine lv_if_ne (tgt := 30) hx hb dX10_readSaid_21 (by decide) (fun c_21 => ?_) (fun c_21 => ?_)
        · have r_v_53 : RI v_53 1 1 := rc_neL r_v_53 rl_0 (ti_ne c_21) (by decide)
          exact B30 x1 x2 z0_47 ws _ _ ls r_x1 (r_x2.to (by decide)) r_z0_47 m_z0_47 x_SN_p0_gd_gh_gg hw hl
        · have r_v_53 : RI v_53 0 0 := rc_eq1 r_v_53 rl_0 (ti_eq c_21) (by decide)
          obtain ⟨v_54, e_v_54⟩ : ∃ q9 : Int32, q9 = x2 + Int32.ofInt 1 := ⟨_, rfl⟩
          obtain ⟨t_v_54, r_v_54⟩ := tq_add (lo := 19) (hi := 28) r_x2 (show RI (Int32.ofInt 1) 1 1 by unfold RI; decide +kernel) (by decide +kernel) e_v_54
          have t_v_54 : v_54.toInt = x2.toInt + 1 := t_v_54
          refine lv_iinc (v := v_54) (lv' := [(2, .int v_54), (0, .ref p0), (1, .int x1)]) hx hb dX10_readSaid_24 hl (k := 2) rfl e_v_54.symm (by decide) rfl (fun ls hl => ?_)
          refine lv_goto (tgt := 10) hx hb dX10_readSaid_27 (by decide) ?_
          exact ih10 x1 v_54 z0_47 ws _ _ ls (by have q0 := r_v_54.1; have u0 := r_v_54.2; have o0 := r_x2.1; have p0 := r_x2.2; omega) r_x1 (r_v_54.to (by decide)) r_z0_47 m_z0_47 x_SN_p0_gd_gh_gg hw (lv_sub hl [1, 2, 0] rfl)
  refine lv_aload_n hx hb dX10_readSaid_0 rfl (lv_at hl 0 rfl) ?_
  refine lv_bipush (v := 40) hx hb dX10_readSaid_1 (by decide) ?_
  refine tk_ir (va_runV (As := [.int 40]) (rest := []) ⟨hx, hb, hml, hown, hts⟩ (c_X10_isSign l D cy z s.heap.size Ps w0 hw.1 p0 40 h_p0 (rl_40.to (by decide))) (cwV 1 hts (gV tw_1413 tw_1415 ts_63 tw_15 tw_1416) rfl rfl rfl (by decide +kernel) ⟨Nat.le_of_ble_eq_true rfl, Nat.le_of_ble_eq_true rfl⟩) (tg_preV hw hK hSD hA (ci := 10) (q := (RX10, TX10, 49)) rfl h_p0 rfl) rfl rfl hl.1 rfl (lv_room (Nat.le_of_ble_eq_true rfl)) dX10_readSaid_3 ⟨Nat.le_of_ble_eq_true rfl, Nat.le_of_ble_eq_true rfl⟩) hw hA (fun v_55  H locs hp_v_55 hw => ?_)
  have r_v_55 : RI v_55 0 1 := hp_v_55.1
  by_cases c9_v_55 : v_55 = 0
  · have r_v_55 : RI v_55 0 0 := by rw [c9_v_55]; exact rl_0
    refine lv_istore_n (lv' := [(1, .int v_55), (0, .ref p0)]) hx hb dX10_readSaid_6 rfl hl (by decide) rfl (fun ls hl => ?_)
    refine lv_bipush (v := 18) hx hb dX10_readSaid_7 (by decide) ?_
    refine lv_istore_n (lv' := [(2, .int 18), (1, .int v_55), (0, .ref p0)]) hx hb dX10_readSaid_9 rfl hl (by decide) rfl (fun ls hl => ?_)
    exact B10 4294967298 v_55 18 f0_47 w0 _ _ ls (by have q0 := rl_18.1; have u0 := rl_18.2; omega) (r_v_55.to (by decide)) (rl_18.to (by decide)) r_f0_47 m_f0_47 x_SN_p0_gd_gh_gg hw (lv_sub hl [2, 1, 0] rfl)
  · have r_v_55 : RI v_55 1 1 := rc_neL r_v_55 rl_0 (ti_ne c9_v_55) (by decide)
    obtain ⟨v_56, m_v_56, r_v_56⟩ := ((hp_v_55.2.2 c9_v_55).1)
    refine lv_istore_n (lv' := [(1, .int v_55), (0, .ref p0)]) hx hb dX10_readSaid_6 rfl hl (by decide) rfl (fun ls hl => ?_)
    refine lv_bipush (v := 18) hx hb dX10_readSaid_7 (by decide) ?_
    refine lv_istore_n (lv' := [(2, .int 18), (1, .int v_55), (0, .ref p0)]) hx hb dX10_readSaid_9 rfl hl (by decide) rfl (fun ls hl => ?_)
    exact B10 4294967298 v_55 18 f0_47 w0 _ _ ls (by have q0 := rl_18.1; have u0 := rl_18.2; omega) (r_v_55.to (by decide)) (rl_18.to (by decide)) r_f0_47 m_f0_47 x_SN_p0_gd_gh_gg hw (lv_sub hl [2, 1, 0] rfl)
abbrev wr_X10_readAnd__5 : List (Nat × Nat) := [(10, 5), (10, 6), (10, 7), (10, 8), (10, 9), (10, 10), (10, 11), (10, 12), (10, 13), (10, 45), (10, 46), (10, 47), (10, 48)]
abbrev wa_X10_readAnd__5 : List Nat := [54]
set_option maxHeartbeats 4000000 in
set_option maxRecDepth 100000 in
theorem c_X10_readAnd__5 (l : Launch) (D : va_G) (cy : Nat → ClassId) (z : Nat → Nat) (sz : Nat) (Ps : PSI) (w0 : va_W) (hT : HT cy GG Ps w0) (p0 : Nat) (f0_47 : Int32) (gd : Int) (gh : Int) (gg : Int) (h_p0 : (p0, 55) ∈ Ps) (r_f0_47 : RI f0_47 5 5) (m_f0_47 : FLD w0 p0 10 47 (.int f0_47)) (x_SN_p0_gd_gh_gg : SNp w0 p0 (gd) (gh) (gg)) : Met l yX10_readAnd (Cond.code yX10_readAnd cX10_readAnd 2 (some .boolean) :: gT) ({ frames := 17, cells := 0, slots := 0, locals := 3400 } : Room) (va_Pc [.ref p0] (PRE D cy z w0 sz)) (va_Qi (fun (r : Int32) (u : va_W) => (RI r 0 1 ∧ (r = 0 → (∃ v9 : Int32, FLD u p0 10 47 (.int v9) ∧ RI v9 5 5) ∧ True) ∧ (¬ r = 0 → (∃ v9 : Int32, FLD u p0 10 46 (.int v9) ∧ RI v9 1 20) ∧ (∃ v9 : Int32, FLD u p0 10 47 (.int v9) ∧ RI v9 5 5) ∧ (∃ v9 : Int32, FLD u p0 10 48 (.int v9) ∧ RI v9 0 39) ∧ SNT u p0 (gd+1) (gh+1) (gg) ∧ True)) ∧ HT cy GG Ps u ∧ FR wr_X10_readAnd__5 wa_X10_readAnd__5 Ps w0 u) (BB D cy (va_A w0 sz) (fun (u : va_W) => u)) (va_A w0 sz)) 0 0 (va_A w0 sz) := by
  refine Met.ofW (cc := cX10_readAnd) (maxL := 2) (ret := (some .boolean)) (by decide) rfl ?_
  intro p e s m args below meth c s₁ B hml hv
  obtain ⟨rfl, hsz, hP, hK, hD0, hSD⟩ := hv
  have hx := B.exec
  have hb := B.bytes
  have hr := B.returns
  have hlocks := B.notSynchronized
  have hts : ∀ w ∈ gT, w.before _ s = true := fun w h => atoms_spec (ws := Cond.code yX10_readAnd cX10_readAnd 2 (some .boolean) :: gT) B.pre w (List.mem_cons_of_mem _ h)
  have hown : s.vm.findClass RX10 = some m.cls := findClass_of_methodNamed B.named
  subst hsz
  have hD := hD0.self (sz := s.heap.size)
  generalize hAe : va_A w0 s.heap.size = A at hD hSD ⊢
  have hA : ∀ q : Nat, s.heap.size ≤ q → A q := fun q h => by rw [← hAe]; exact Or.inr h
  have hl := lv_entry ([.ref p0]) (n := 2) (Nat.le_of_ble_eq_true rfl)
  rw [lg_entry_eq]
  generalize (lg_sl ([.ref p0]) ++ List.replicate (2 - (lg_sl ([.ref p0])).length) Slot.unset).toArray = ls at hl ⊢
  have hl : lv_has ls 2 [(0, .ref p0)] := hl
  refine nameQ (fun Q hQ => ?_)
  have hw : WD D cy GG A s wr_X10_readAnd__5 wa_X10_readAnd__5 Ps w0 Ps w0 s.heap [] := ⟨hT, hP, hD, va_S.rf, FR.rf, hT.1, [], (List.append_nil _).symm⟩
  have B14 : ∀ (nf : Nat) (x1 : Int32) (z0_46 : Int32) (z0_47 : Int32) (z0_48 : Int32) (gz : Int) (ws : va_W) (H : Heap) (locs : List Loc) (ls : Array Slot), 21 - gz < (nf : Int) → RI x1 0 39 → RI z0_46 1 20 → FLD ws p0 10 46 (.int z0_46) → RI z0_47 5 5 → FLD ws p0 10 47 (.int z0_47) → RI z0_48 0 39 → FLD ws p0 10 48 (.int z0_48) → (SNL ws p0 (gd+1) (gz) (gg) x1 ∧ gh + 1 ≤ gz) → WD D cy GG A s wr_X10_readAnd__5 wa_X10_readAnd__5 Ps w0 Ps ws H locs → lv_has ls 2 [(0, .ref p0), (1, .int x1)] → W p l e (headSpec (Cond.code yX10_readAnd cX10_readAnd 2 (some .boolean) :: gT) ({ frames := 17, cells := 0, slots := 0, locals := 3400 } : Room)).room s m ([.ref p0] : List Value).toArray below meth c H locs 0 0 Q (F0 m 14 ls []) := by
    intro nf14
    induction nf14 with
    | zero =>
      intro x1 z0_46 z0_47 z0_48 gz ws H locs ls hn14 r_x1 r_z0_46 m_z0_46 r_z0_47 m_z0_47 r_z0_48 m_z0_48 x_SNW_p0_gd_1_gz_gg__1 hw hl
      exact absurd hn14 (by have q9 := SNL.le x_SNW_p0_gd_1_gz_gg__1.1; omega)
    | succ nf14 ih14 =>
      intro x1 z0_46 z0_47 z0_48 gz ws H locs ls hn14 r_x1 r_z0_46 m_z0_46 r_z0_47 m_z0_47 r_z0_48 m_z0_48 x_SNW_p0_gd_1_gz_gg__1 hw hl
      refine lv_aload_n hx hb dX10_readAnd_14 rfl (lv_at hl 0 rfl) ?_
      refine lv_bipush (v := 17) hx hb dX10_readAnd_15 (by decide) ?_
      refine tk_ir (va_runV (As := [.int 17]) (rest := []) ⟨hx, hb, hml, hown, hts⟩ (c_X10_isWord l D cy z H.size Ps ws hw.1 p0 17 h_p0 (rl_17.to (by decide))) (cwV 1 hts (gV tw_1318 tw_1320 ts_43 tw_15 tw_1321) rfl rfl rfl (by decide +kernel) ⟨Nat.le_of_ble_eq_true rfl, Nat.le_of_ble_eq_true rfl⟩) (tg_preV hw hK hSD hA (ci := 10) (q := (RX10, TX10, 49)) rfl h_p0 rfl) rfl rfl hl.1 rfl (lv_room (Nat.le_of_ble_eq_true rfl)) dX10_readAnd_17 ⟨Nat.le_of_ble_eq_true rfl, Nat.le_of_ble_eq_true rfl⟩) hw hA (fun v_1  H locs hp_v_1 hw => ?_)
      have r_v_1 : RI v_1 0 1 := hp_v_1.1
      refine lv_if_eq (tgt := 51) hx hb dX10_readAnd_20 (by decide) (fun c_20 => ?_) (fun c_20 => ?_)
      · have r_v_1 : RI v_1 0 0 := rc_eq1 r_v_1 rl_0 (ti_eq c_20) (by decide)
        refine lv_aload_n hx hb dX10_readAnd_51 rfl (lv_at hl 0 rfl) ?_
        refine lv_iload_n hx hb dX10_readAnd_52 rfl (lv_at hl 1 rfl) ?_
        refine tg_put (ci := 10) (ts := ty_MODEL) (v := .int x1) (ty := .int) (C := RX10) (T := TX10) (N := 49) hx hb hts inX10 tyX10 tyX10_ok nmX10 hown hK hw h_p0 rfl rfl 48 (by decide) (hts _ tw_1185) (fun _ h9 => h9) rfl (by decide +kernel) rfl rfl (ft := vI (-2147483648) 2147483647) rfl ⟨_, rfl, (r_x1.to (by decide))⟩ (by decide) dX10_readAnd_53 (fun ws H locs hw n_k_2 hF9 => ?_)
        have m_z0_46 := FLD.over hF9 m_z0_46 (by decide)
        have m_z0_47 := FLD.over hF9 m_z0_47 (by decide)
        have x_SNW_p0_gd_1_gz_gg__1 := SNW.over hF9 x_SNW_p0_gd_1_gz_gg__1 (by decide)
        have f6 := SNL.le x_SNW_p0_gd_1_gz_gg__1.1
        have f7 := x_SNW_p0_gd_1_gz_gg__1.2
        have x_SNT_p0_gd_1_gh_1_gg : SNT ws p0 (gd+1) (gh+1) (gg) := (SNL.snt x_SNW_p0_gd_1_gz_gg__1.1 n_k_2).weak (by have d_8 := SNp.le x_SN_p0_gd_gh_gg; omega)
        refine lv_iconst (v := 1) hx hb dX10_readAnd_56 (by decide) ?_
        subst hQ
        exact W.zret (v := 1) hx hb hr (rfl) (fun t ht hW => ⟨⟨1, ws, rfl, ⟨⟨rl_1.to (by decide), (fun h0 => absurd h0 (by decide)), (fun h0 => ⟨⟨_, m_z0_46, r_z0_46⟩, ⟨_, m_z0_47, r_z0_47⟩, ⟨_, n_k_2, r_x1⟩, x_SNT_p0_gd_1_gh_1_gg, trivial⟩)⟩, hw.1, hw.2.2.2.2.1⟩, by rw [ht]; exact hw.2.1, va_K.moved hW.alike hK, hw.2.2.1⟩, hw.2.2.2.1.F ht⟩) hw.2.2.2.1.2.2 dX10_readAnd_57
      · have r_v_1 : RI v_1 1 1 := rc_neL r_v_1 rl_0 (ti_ne c_20) (by decide)
        refine lv_aload_n hx hb dX10_readAnd_23 rfl (lv_at hl 0 rfl) ?_
        refine tk_v (va_runV (As := []) (rest := []) ⟨hx, hb, hml, hown, hts⟩ (c_X10_go l D cy z H.size Ps ws hw.1 p0 h_p0) (cwV 0 hts (gV tw_1298 tw_1300 ts_40 tw_15 tw_1301) rfl rfl rfl (by decide +kernel) ⟨Nat.le_of_ble_eq_true rfl, Nat.le_of_ble_eq_true rfl⟩) (tg_preV hw hK hSD hA (ci := 10) (q := (RX10, TX10, 49)) rfl h_p0 rfl) rfl rfl hl.1 rfl (lv_room (Nat.le_of_ble_eq_true rfl)) dX10_readAnd_24 ⟨Nat.le_of_ble_eq_true rfl, Nat.le_of_ble_eq_true rfl⟩) hw hA ⟨by decide, by decide⟩ (fun ws H locs hp_v_3 hw hF9 => ?_)
        have m_z0_46 := FLD.over hF9 m_z0_46 (by decide)
        have m_z0_47 := FLD.over hF9 m_z0_47 (by decide)
        have m_z0_48 := FLD.over hF9 m_z0_48 (by decide)
        have x_SNW_p0_gd_1_gz_gg__1 := SNW.over hF9 x_SNW_p0_gd_1_gz_gg__1 (by decide)
        refine lv_aload_n hx hb dX10_readAnd_27 rfl (lv_at hl 0 rfl) ?_
        have f9 := SNL.sn x_SNW_p0_gd_1_gz_gg__1.1
        have f8 := f9.2
        have f7 := x_SNW_p0_gd_1_gz_gg__1.2
        have f6 := SNL.le x_SNW_p0_gd_1_gz_gg__1.1
        have x_SN_p0_gd_1_gz_max_gg__Int32_toInt_x1___1_ : SNp ws p0 (gd+1) (gz) (max gg (Int32.toInt x1 + 1)) := f9.1
        refine tk_i (va_runV (As := []) (rest := []) ⟨hx, hb, hml, hown, hts⟩ (c_X10_readSaid__5 l D cy z H.size Ps ws hw.1 p0 z0_47 (gd+1) (gz) (max gg (Int32.toInt x1 + 1)) h_p0 r_z0_47 m_z0_47 x_SN_p0_gd_1_gz_max_gg__Int32_toInt_x1___1_) (cwV 0 hts (gV tw_1759 tw_1761 ts_113 tw_15 tw_1762) rfl rfl rfl (by decide +kernel) ⟨Nat.le_of_ble_eq_true rfl, Nat.le_of_ble_eq_true rfl⟩) (tg_preV hw hK hSD hA (ci := 10) (q := (RX10, TX10, 49)) rfl h_p0 rfl) rfl rfl hl.1 rfl (lv_room (Nat.le_of_ble_eq_true rfl)) dX10_readAnd_28 ⟨Nat.le_of_ble_eq_true rfl, Nat.le_of_ble_eq_true rfl⟩) hw hA ⟨by decide, by decide⟩ (fun v_4 ws H locs hp_v_4 hw hF9 => ?_)
        have r_v_4 : RI v_4 0 1 := hp_v_4.1
        by_cases c9_v_4 : v_4 = 0
        · have r_v_4 : RI v_4 0 0 := by rw [c9_v_4]; exact rl_0
          obtain ⟨v_5, m_v_5, r_v_5⟩ := ((hp_v_4.2.1 c9_v_4).1)
          refine lv_if_ne (tgt := 36) hx hb dX10_readAnd_31 (by decide) (fun c_31 => ?_) (fun c_31 => ?_)
          · exact absurd (r_v_4.eq.trans rl_0.eq.symm) ((ti_ne c_31))
          · refine lv_iconst (v := 0) hx hb dX10_readAnd_34 (by decide) ?_
            subst hQ
            exact W.zret (v := 0) hx hb hr (rfl) (fun t ht hW => ⟨⟨0, ws, rfl, ⟨⟨rl_0.to (by decide), (fun h0 => ⟨⟨_, m_v_5, r_v_5⟩, trivial⟩), (fun h0 => absurd rfl h0)⟩, hw.1, hw.2.2.2.2.1⟩, by rw [ht]; exact hw.2.1, va_K.moved hW.alike hK, hw.2.2.1⟩, hw.2.2.2.1.F ht⟩) hw.2.2.2.1.2.2 dX10_readAnd_35
        · have r_v_4 : RI v_4 1 1 := rc_neL r_v_4 rl_0 (ti_ne c9_v_4) (by decide)
          obtain ⟨v_6, m_v_6, r_v_6⟩ := ((hp_v_4.2.2 c9_v_4).1)
          obtain ⟨v_7, m_v_7, r_v_7⟩ := ((hp_v_4.2.2 c9_v_4).2.1)
          obtain ⟨v_8, m_v_8, r_v_8⟩ := ((hp_v_4.2.2 c9_v_4).2.2.1)
          have x_SNT_p0_gd_2_gz_1_max_gg__Int32_toInt_x1___1_ := ((hp_v_4.2.2 c9_v_4).2.2.2.1)
          refine lv_if_ne (tgt := 36) hx hb dX10_readAnd_31 (by decide) (fun c_31 => ?_) (fun c_31 => ?_)
          · refine lv_aload_n hx hb dX10_readAnd_36 rfl (lv_at hl 0 rfl) ?_
            refine lv_iconst (v := 2) hx hb dX10_readAnd_37 (by decide) ?_
            refine lv_iload_n hx hb dX10_readAnd_38 rfl (lv_at hl 1 rfl) ?_
            refine lv_aload_n hx hb dX10_readAnd_39 rfl (lv_at hl 0 rfl) ?_
            refine tg_mem (ci := 10) (C := RX10) (T := TX10) (N := 49) hx hb hts inX10 hown hK hw 48 m_v_7 rfl (by decide) (hts _ tw_1185) (fun _ h9 => h9) dX10_readAnd_40 ?_
            refine lv_iconst (v := 0) hx hb dX10_readAnd_43 (by decide) ?_
            have l9 := SNT.top hw x_SNT_p0_gd_2_gz_1_max_gg__Int32_toInt_x1___1_ m_v_7
            have l8 := SNT.sn x_SNT_p0_gd_2_gz_1_max_gg__Int32_toInt_x1___1_
            have x_SNI_p0_gd_1_gz_1_gg : SNI ws p0 (gd+1) (gz+1) (gg) := SNp.sni l8 (by have d_8 := SNp.le x_SN_p0_gd_gh_gg; omega)
            have x_LTN_p0_x1 : LTN ws p0 (x1) := SNp.ltn l8 f8
            have x_LTN_p0_v_7 : LTN ws p0 (v_7) := l9.ltn
            refine tk_i (va_runV (As := [.int 2, .int x1, .int v_7, .int 0]) (rest := []) ⟨hx, hb, hml, hown, hts⟩ (c_X10_saysOne__1 l D cy z H.size Ps ws hw.1 p0 2 x1 v_7 0 (gd+1) (gz+1) (gg) h_p0 (rl_2.to (by decide)) (r_x1.to (by decide)) (r_v_7.to (by decide)) (rl_0.to (by decide)) x_SNI_p0_gd_1_gz_1_gg x_LTN_p0_x1 x_LTN_p0_v_7) (cwV 4 hts (gV tw_1771 tw_1773 ts_116 tw_15 tw_1774) rfl rfl rfl (by decide +kernel) ⟨Nat.le_of_ble_eq_true rfl, Nat.le_of_ble_eq_true rfl⟩) (tg_preV hw hK hSD hA (ci := 10) (q := (RX10, TX10, 49)) rfl h_p0 rfl) rfl rfl hl.1 rfl (lv_room (Nat.le_of_ble_eq_true rfl)) dX10_readAnd_44 ⟨Nat.le_of_ble_eq_true rfl, Nat.le_of_ble_eq_true rfl⟩) hw hA ⟨by decide, by decide⟩ (fun v_9 ws H locs hp_v_9 hw hF9 => ?_)
            have m_v_6 := FLD.over hF9 m_v_6 (by decide)
            have m_v_7 := FLD.over hF9 m_v_7 (by decide)
            have m_v_8 := FLD.over hF9 m_v_8 (by decide)
            have r_v_9 : RI v_9 0 39 := hp_v_9.1
            have x_SNL_p0_gd_1_gz_1_gg_v_9 := hp_v_9.2.2.2.1.1
            refine lv_istore_n (lv' := [(1, .int v_9), (0, .ref p0)]) hx hb dX10_readAnd_47 rfl hl (by decide) rfl (fun ls hl => ?_)
            refine lv_goto (tgt := 14) hx hb dX10_readAnd_48 (by decide) ?_
            have x_SNW_p0_gd_1_gz_1_gg_v_9 : (SNL ws p0 (gd+1) (gz+1) (gg) v_9 ∧ gh + 1 ≤ gz+1) := ⟨x_SNL_p0_gd_1_gz_1_gg_v_9, by omega⟩
            exact ih14 v_9 v_6 v_8 v_7 (gz+1) ws _ _ ls (by have d_8 := SNp.le x_SN_p0_gd_gh_gg; omega) r_v_9 r_v_6 m_v_6 r_v_8 m_v_8 r_v_7 m_v_7 x_SNW_p0_gd_1_gz_1_gg_v_9 hw (lv_sub hl [1, 0] rfl)
          · have r_v_4 : RI v_4 1 0 := rc_eq1 r_v_4 rl_0 (ti_eq c_31) (by decide)
            exact (r_v_4.no (by decide)).elim
  refine lv_aload_n hx hb dX10_readAnd_0 rfl (lv_at hl 0 rfl) ?_
  refine tk_i (va_runV (As := []) (rest := []) ⟨hx, hb, hml, hown, hts⟩ (c_X10_readSaid__5 l D cy z s.heap.size Ps w0 hw.1 p0 f0_47 (gd) (gh) (gg) h_p0 r_f0_47 m_f0_47 x_SN_p0_gd_gh_gg) (cwV 0 hts (gV tw_1759 tw_1761 ts_113 tw_15 tw_1762) rfl rfl rfl (by decide +kernel) ⟨Nat.le_of_ble_eq_true rfl, Nat.le_of_ble_eq_true rfl⟩) (tg_preV hw hK hSD hA (ci := 10) (q := (RX10, TX10, 49)) rfl h_p0 rfl) rfl rfl hl.1 rfl (lv_room (Nat.le_of_ble_eq_true rfl)) dX10_readAnd_1 ⟨Nat.le_of_ble_eq_true rfl, Nat.le_of_ble_eq_true rfl⟩) hw hA ⟨by decide, by decide⟩ (fun v_10 ws H locs hp_v_10 hw hF9 => ?_)
  have r_v_10 : RI v_10 0 1 := hp_v_10.1
  by_cases c9_v_10 : v_10 = 0
  · have r_v_10 : RI v_10 0 0 := by rw [c9_v_10]; exact rl_0
    obtain ⟨v_11, m_v_11, r_v_11⟩ := ((hp_v_10.2.1 c9_v_10).1)
    refine lv_if_ne (tgt := 9) hx hb dX10_readAnd_4 (by decide) (fun c_4 => ?_) (fun c_4 => ?_)
    · exact absurd (r_v_10.eq.trans rl_0.eq.symm) ((ti_ne c_4))
    · refine lv_iconst (v := 0) hx hb dX10_readAnd_7 (by decide) ?_
      subst hQ
      exact W.zret (v := 0) hx hb hr (rfl) (fun t ht hW => ⟨⟨0, ws, rfl, ⟨⟨rl_0.to (by decide), (fun h0 => ⟨⟨_, m_v_11, r_v_11⟩, trivial⟩), (fun h0 => absurd rfl h0)⟩, hw.1, hw.2.2.2.2.1⟩, by rw [ht]; exact hw.2.1, va_K.moved hW.alike hK, hw.2.2.1⟩, hw.2.2.2.1.F ht⟩) hw.2.2.2.1.2.2 dX10_readAnd_8
  · have r_v_10 : RI v_10 1 1 := rc_neL r_v_10 rl_0 (ti_ne c9_v_10) (by decide)
    obtain ⟨v_12, m_v_12, r_v_12⟩ := ((hp_v_10.2.2 c9_v_10).1)
    obtain ⟨v_13, m_v_13, r_v_13⟩ := ((hp_v_10.2.2 c9_v_10).2.1)
    obtain ⟨v_14, m_v_14, r_v_14⟩ := ((hp_v_10.2.2 c9_v_10).2.2.1)
    have x_SNT_p0_gd_1_gh_1_gg := ((hp_v_10.2.2 c9_v_10).2.2.2.1)
    refine lv_if_ne (tgt := 9) hx hb dX10_readAnd_4 (by decide) (fun c_4 => ?_) (fun c_4 => ?_)
    · refine lv_aload_n hx hb dX10_readAnd_9 rfl (lv_at hl 0 rfl) ?_
      refine tg_mem (ci := 10) (C := RX10) (T := TX10) (N := 49) hx hb hts inX10 hown hK hw 48 m_v_13 rfl (by decide) (hts _ tw_1185) (fun _ h9 => h9) dX10_readAnd_10 ?_
      refine lv_istore_n (lv' := [(1, .int v_13), (0, .ref p0)]) hx hb dX10_readAnd_13 rfl hl (by decide) rfl (fun ls hl => ?_)
      have x_SNW_p0_gd_1_gh_1_gg_v_13 : (SNL ws p0 (gd+1) (gh+1) (gg) v_13 ∧ gh + 1 ≤ gh+1) := ⟨SNT.top hw x_SNT_p0_gd_1_gh_1_gg m_v_13, by omega⟩
      exact B14 4294967298 v_13 v_12 v_14 v_13 (gh+1) ws _ _ ls (by have d_8 := SNp.le x_SN_p0_gd_gh_gg; omega) r_v_13 r_v_12 m_v_12 r_v_14 m_v_14 r_v_13 m_v_13 x_SNW_p0_gd_1_gh_1_gg_v_13 hw (lv_sub hl [1, 0] rfl)
    · have r_v_10 : RI v_10 1 0 := rc_eq1 r_v_10 rl_0 (ti_eq c_4) (by decide)
      exact (r_v_10.no (by decide)).elim
abbrev wr_X10_readOr__5 : List (Nat × Nat) := [(10, 5), (10, 6), (10, 7), (10, 8), (10, 9), (10, 10), (10, 11), (10, 12), (10, 13), (10, 45), (10, 46), (10, 47), (10, 48)]
abbrev wa_X10_readOr__5 : List Nat := [54]
set_option maxHeartbeats 4000000 in
set_option maxRecDepth 100000 in
theorem c_X10_readOr__5 (l : Launch) (D : va_G) (cy : Nat → ClassId) (z : Nat → Nat) (sz : Nat) (Ps : PSI) (w0 : va_W) (hT : HT cy GG Ps w0) (p0 : Nat) (f0_47 : Int32) (gd : Int) (gh : Int) (gg : Int) (h_p0 : (p0, 55) ∈ Ps) (r_f0_47 : RI f0_47 5 5) (m_f0_47 : FLD w0 p0 10 47 (.int f0_47)) (x_SN_p0_gd_gh_gg : SNp w0 p0 (gd) (gh) (gg)) : Met l yX10_readOr (Cond.code yX10_readOr cX10_readOr 2 (some .boolean) :: gT) ({ frames := 18, cells := 0, slots := 0, locals := 3600 } : Room) (va_Pc [.ref p0] (PRE D cy z w0 sz)) (va_Qi (fun (r : Int32) (u : va_W) => (RI r 0 1 ∧ (r = 0 → (∃ v9 : Int32, FLD u p0 10 47 (.int v9) ∧ RI v9 5 5) ∧ True) ∧ (¬ r = 0 → (∃ v9 : Int32, FLD u p0 10 46 (.int v9) ∧ RI v9 1 20) ∧ (∃ v9 : Int32, FLD u p0 10 47 (.int v9) ∧ RI v9 5 5) ∧ (∃ v9 : Int32, FLD u p0 10 48 (.int v9) ∧ RI v9 0 39) ∧ SNT u p0 (gd+1) (gh+1) (gg) ∧ True)) ∧ HT cy GG Ps u ∧ FR wr_X10_readOr__5 wa_X10_readOr__5 Ps w0 u) (BB D cy (va_A w0 sz) (fun (u : va_W) => u)) (va_A w0 sz)) 0 0 (va_A w0 sz) := by
  refine Met.ofW (cc := cX10_readOr) (maxL := 2) (ret := (some .boolean)) (by decide) rfl ?_
  intro p e s m args below meth c s₁ B hml hv
  obtain ⟨rfl, hsz, hP, hK, hD0, hSD⟩ := hv
  have hx := B.exec
  have hb := B.bytes
  have hr := B.returns
  have hlocks := B.notSynchronized
  have hts : ∀ w ∈ gT, w.before _ s = true := fun w h => atoms_spec (ws := Cond.code yX10_readOr cX10_readOr 2 (some .boolean) :: gT) B.pre w (List.mem_cons_of_mem _ h)
  have hown : s.vm.findClass RX10 = some m.cls := findClass_of_methodNamed B.named
  subst hsz
  have hD := hD0.self (sz := s.heap.size)
  generalize hAe : va_A w0 s.heap.size = A at hD hSD ⊢
  have hA : ∀ q : Nat, s.heap.size ≤ q → A q := fun q h => by rw [← hAe]; exact Or.inr h
  have hl := lv_entry ([.ref p0]) (n := 2) (Nat.le_of_ble_eq_true rfl)
  rw [lg_entry_eq]
  generalize (lg_sl ([.ref p0]) ++ List.replicate (2 - (lg_sl ([.ref p0])).length) Slot.unset).toArray = ls at hl ⊢
  have hl : lv_has ls 2 [(0, .ref p0)] := hl
  refine nameQ (fun Q hQ => ?_)
  have hw : WD D cy GG A s wr_X10_readOr__5 wa_X10_readOr__5 Ps w0 Ps w0 s.heap [] := ⟨hT, hP, hD, va_S.rf, FR.rf, hT.1, [], (List.append_nil _).symm⟩
  have B14 : ∀ (nf : Nat) (x1 : Int32) (z0_46 : Int32) (z0_47 : Int32) (z0_48 : Int32) (gz : Int) (ws : va_W) (H : Heap) (locs : List Loc) (ls : Array Slot), 21 - gz < (nf : Int) → RI x1 0 39 → RI z0_46 1 20 → FLD ws p0 10 46 (.int z0_46) → RI z0_47 5 5 → FLD ws p0 10 47 (.int z0_47) → RI z0_48 0 39 → FLD ws p0 10 48 (.int z0_48) → (SNL ws p0 (gd+1) (gz) (gg) x1 ∧ gh + 1 ≤ gz) → WD D cy GG A s wr_X10_readOr__5 wa_X10_readOr__5 Ps w0 Ps ws H locs → lv_has ls 2 [(0, .ref p0), (1, .int x1)] → W p l e (headSpec (Cond.code yX10_readOr cX10_readOr 2 (some .boolean) :: gT) ({ frames := 18, cells := 0, slots := 0, locals := 3600 } : Room)).room s m ([.ref p0] : List Value).toArray below meth c H locs 0 0 Q (F0 m 14 ls []) := by
    intro nf14
    induction nf14 with
    | zero =>
      intro x1 z0_46 z0_47 z0_48 gz ws H locs ls hn14 r_x1 r_z0_46 m_z0_46 r_z0_47 m_z0_47 r_z0_48 m_z0_48 x_SNW_p0_gd_1_gz_gg__1 hw hl
      exact absurd hn14 (by have q9 := SNL.le x_SNW_p0_gd_1_gz_gg__1.1; omega)
    | succ nf14 ih14 =>
      intro x1 z0_46 z0_47 z0_48 gz ws H locs ls hn14 r_x1 r_z0_46 m_z0_46 r_z0_47 m_z0_47 r_z0_48 m_z0_48 x_SNW_p0_gd_1_gz_gg__1 hw hl
      refine lv_aload_n hx hb dX10_readOr_14 rfl (lv_at hl 0 rfl) ?_
      refine lv_bipush (v := 16) hx hb dX10_readOr_15 (by decide) ?_
      refine tk_ir (va_runV (As := [.int 16]) (rest := []) ⟨hx, hb, hml, hown, hts⟩ (c_X10_isWord l D cy z H.size Ps ws hw.1 p0 16 h_p0 (rl_16.to (by decide))) (cwV 1 hts (gV tw_1318 tw_1320 ts_43 tw_15 tw_1321) rfl rfl rfl (by decide +kernel) ⟨Nat.le_of_ble_eq_true rfl, Nat.le_of_ble_eq_true rfl⟩) (tg_preV hw hK hSD hA (ci := 10) (q := (RX10, TX10, 49)) rfl h_p0 rfl) rfl rfl hl.1 rfl (lv_room (Nat.le_of_ble_eq_true rfl)) dX10_readOr_17 ⟨Nat.le_of_ble_eq_true rfl, Nat.le_of_ble_eq_true rfl⟩) hw hA (fun v_1  H locs hp_v_1 hw => ?_)
      have r_v_1 : RI v_1 0 1 := hp_v_1.1
      refine lv_if_eq (tgt := 51) hx hb dX10_readOr_20 (by decide) (fun c_20 => ?_) (fun c_20 => ?_)
      · have r_v_1 : RI v_1 0 0 := rc_eq1 r_v_1 rl_0 (ti_eq c_20) (by decide)
        refine lv_aload_n hx hb dX10_readOr_51 rfl (lv_at hl 0 rfl) ?_
        refine lv_iload_n hx hb dX10_readOr_52 rfl (lv_at hl 1 rfl) ?_
        refine tg_put (ci := 10) (ts := ty_MODEL) (v := .int x1) (ty := .int) (C := RX10) (T := TX10) (N := 49) hx hb hts inX10 tyX10 tyX10_ok nmX10 hown hK hw h_p0 rfl rfl 48 (by decide) (hts _ tw_1185) (fun _ h9 => h9) rfl (by decide +kernel) rfl rfl (ft := vI (-2147483648) 2147483647) rfl ⟨_, rfl, (r_x1.to (by decide))⟩ (by decide) dX10_readOr_53 (fun ws H locs hw n_k_2 hF9 => ?_)
        have m_z0_46 := FLD.over hF9 m_z0_46 (by decide)
        have m_z0_47 := FLD.over hF9 m_z0_47 (by decide)
        have x_SNW_p0_gd_1_gz_gg__1 := SNW.over hF9 x_SNW_p0_gd_1_gz_gg__1 (by decide)
        have f6 := SNL.le x_SNW_p0_gd_1_gz_gg__1.1
        have f7 := x_SNW_p0_gd_1_gz_gg__1.2
        have x_SNT_p0_gd_1_gh_1_gg : SNT ws p0 (gd+1) (gh+1) (gg) := (SNL.snt x_SNW_p0_gd_1_gz_gg__1.1 n_k_2).weak (by have d_8 := SNp.le x_SN_p0_gd_gh_gg; omega)
        refine lv_iconst (v := 1) hx hb dX10_readOr_56 (by decide) ?_
        subst hQ
        exact W.zret (v := 1) hx hb hr (rfl) (fun t ht hW => ⟨⟨1, ws, rfl, ⟨⟨rl_1.to (by decide), (fun h0 => absurd h0 (by decide)), (fun h0 => ⟨⟨_, m_z0_46, r_z0_46⟩, ⟨_, m_z0_47, r_z0_47⟩, ⟨_, n_k_2, r_x1⟩, x_SNT_p0_gd_1_gh_1_gg, trivial⟩)⟩, hw.1, hw.2.2.2.2.1⟩, by rw [ht]; exact hw.2.1, va_K.moved hW.alike hK, hw.2.2.1⟩, hw.2.2.2.1.F ht⟩) hw.2.2.2.1.2.2 dX10_readOr_57
      · have r_v_1 : RI v_1 1 1 := rc_neL r_v_1 rl_0 (ti_ne c_20) (by decide)
        refine lv_aload_n hx hb dX10_readOr_23 rfl (lv_at hl 0 rfl) ?_
        refine tk_v (va_runV (As := []) (rest := []) ⟨hx, hb, hml, hown, hts⟩ (c_X10_go l D cy z H.size Ps ws hw.1 p0 h_p0) (cwV 0 hts (gV tw_1298 tw_1300 ts_40 tw_15 tw_1301) rfl rfl rfl (by decide +kernel) ⟨Nat.le_of_ble_eq_true rfl, Nat.le_of_ble_eq_true rfl⟩) (tg_preV hw hK hSD hA (ci := 10) (q := (RX10, TX10, 49)) rfl h_p0 rfl) rfl rfl hl.1 rfl (lv_room (Nat.le_of_ble_eq_true rfl)) dX10_readOr_24 ⟨Nat.le_of_ble_eq_true rfl, Nat.le_of_ble_eq_true rfl⟩) hw hA ⟨by decide, by decide⟩ (fun ws H locs hp_v_3 hw hF9 => ?_)
        have m_z0_46 := FLD.over hF9 m_z0_46 (by decide)
        have m_z0_47 := FLD.over hF9 m_z0_47 (by decide)
        have m_z0_48 := FLD.over hF9 m_z0_48 (by decide)
        have x_SNW_p0_gd_1_gz_gg__1 := SNW.over hF9 x_SNW_p0_gd_1_gz_gg__1 (by decide)
        refine lv_aload_n hx hb dX10_readOr_27 rfl (lv_at hl 0 rfl) ?_
        have f9 := SNL.sn x_SNW_p0_gd_1_gz_gg__1.1
        have f8 := f9.2
        have f7 := x_SNW_p0_gd_1_gz_gg__1.2
        have f6 := SNL.le x_SNW_p0_gd_1_gz_gg__1.1
        have x_SN_p0_gd_1_gz_max_gg__Int32_toInt_x1___1_ : SNp ws p0 (gd+1) (gz) (max gg (Int32.toInt x1 + 1)) := f9.1
        refine tk_i (va_runV (As := []) (rest := []) ⟨hx, hb, hml, hown, hts⟩ (c_X10_readAnd__5 l D cy z H.size Ps ws hw.1 p0 z0_47 (gd+1) (gz) (max gg (Int32.toInt x1 + 1)) h_p0 r_z0_47 m_z0_47 x_SN_p0_gd_1_gz_max_gg__Int32_toInt_x1___1_) (cwV 0 hts (gV tw_1755 tw_1757 ts_112 tw_15 tw_1758) rfl rfl rfl (by decide +kernel) ⟨Nat.le_of_ble_eq_true rfl, Nat.le_of_ble_eq_true rfl⟩) (tg_preV hw hK hSD hA (ci := 10) (q := (RX10, TX10, 49)) rfl h_p0 rfl) rfl rfl hl.1 rfl (lv_room (Nat.le_of_ble_eq_true rfl)) dX10_readOr_28 ⟨Nat.le_of_ble_eq_true rfl, Nat.le_of_ble_eq_true rfl⟩) hw hA ⟨by decide, by decide⟩ (fun v_4 ws H locs hp_v_4 hw hF9 => ?_)
        have r_v_4 : RI v_4 0 1 := hp_v_4.1
        by_cases c9_v_4 : v_4 = 0
        · have r_v_4 : RI v_4 0 0 := by rw [c9_v_4]; exact rl_0
          obtain ⟨v_5, m_v_5, r_v_5⟩ := ((hp_v_4.2.1 c9_v_4).1)
          refine lv_if_ne (tgt := 36) hx hb dX10_readOr_31 (by decide) (fun c_31 => ?_) (fun c_31 => ?_)
          · exact absurd (r_v_4.eq.trans rl_0.eq.symm) ((ti_ne c_31))
          · refine lv_iconst (v := 0) hx hb dX10_readOr_34 (by decide) ?_
            subst hQ
            exact W.zret (v := 0) hx hb hr (rfl) (fun t ht hW => ⟨⟨0, ws, rfl, ⟨⟨rl_0.to (by decide), (fun h0 => ⟨⟨_, m_v_5, r_v_5⟩, trivial⟩), (fun h0 => absurd rfl h0)⟩, hw.1, hw.2.2.2.2.1⟩, by rw [ht]; exact hw.2.1, va_K.moved hW.alike hK, hw.2.2.1⟩, hw.2.2.2.1.F ht⟩) hw.2.2.2.1.2.2 dX10_readOr_35
        · have r_v_4 : RI v_4 1 1 := rc_neL r_v_4 rl_0 (ti_ne c9_v_4) (by decide)
          obtain ⟨v_6, m_v_6, r_v_6⟩ := ((hp_v_4.2.2 c9_v_4).1)
          obtain ⟨v_7, m_v_7, r_v_7⟩ := ((hp_v_4.2.2 c9_v_4).2.1)
          obtain ⟨v_8, m_v_8, r_v_8⟩ := ((hp_v_4.2.2 c9_v_4).2.2.1)
          have x_SNT_p0_gd_2_gz_1_max_gg__Int32_toInt_x1___1_ := ((hp_v_4.2.2 c9_v_4).2.2.2.1)
          refine lv_if_ne (tgt := 36) hx hb dX10_readOr_31 (by decide) (fun c_31 => ?_) (fun c_31 => ?_)
          · refine lv_aload_n hx hb dX10_readOr_36 rfl (lv_at hl 0 rfl) ?_
            refine lv_iconst (v := 3) hx hb dX10_readOr_37 (by decide) ?_
            refine lv_iload_n hx hb dX10_readOr_38 rfl (lv_at hl 1 rfl) ?_
            refine lv_aload_n hx hb dX10_readOr_39 rfl (lv_at hl 0 rfl) ?_
            refine tg_mem (ci := 10) (C := RX10) (T := TX10) (N := 49) hx hb hts inX10 hown hK hw 48 m_v_8 rfl (by decide) (hts _ tw_1185) (fun _ h9 => h9) dX10_readOr_40 ?_
            refine lv_iconst (v := 0) hx hb dX10_readOr_43 (by decide) ?_
            have l9 := SNT.top hw x_SNT_p0_gd_2_gz_1_max_gg__Int32_toInt_x1___1_ m_v_8
            have l8 := SNT.sn x_SNT_p0_gd_2_gz_1_max_gg__Int32_toInt_x1___1_
            have x_SNI_p0_gd_1_gz_1_gg : SNI ws p0 (gd+1) (gz+1) (gg) := SNp.sni l8 (by have d_8 := SNp.le x_SN_p0_gd_gh_gg; omega)
            have x_LTN_p0_x1 : LTN ws p0 (x1) := SNp.ltn l8 f8
            have x_LTN_p0_v_8 : LTN ws p0 (v_8) := l9.ltn
            refine tk_i (va_runV (As := [.int 3, .int x1, .int v_8, .int 0]) (rest := []) ⟨hx, hb, hml, hown, hts⟩ (c_X10_saysOne__1 l D cy z H.size Ps ws hw.1 p0 3 x1 v_8 0 (gd+1) (gz+1) (gg) h_p0 (rl_3.to (by decide)) (r_x1.to (by decide)) (r_v_8.to (by decide)) (rl_0.to (by decide)) x_SNI_p0_gd_1_gz_1_gg x_LTN_p0_x1 x_LTN_p0_v_8) (cwV 4 hts (gV tw_1771 tw_1773 ts_116 tw_15 tw_1774) rfl rfl rfl (by decide +kernel) ⟨Nat.le_of_ble_eq_true rfl, Nat.le_of_ble_eq_true rfl⟩) (tg_preV hw hK hSD hA (ci := 10) (q := (RX10, TX10, 49)) rfl h_p0 rfl) rfl rfl hl.1 rfl (lv_room (Nat.le_of_ble_eq_true rfl)) dX10_readOr_44 ⟨Nat.le_of_ble_eq_true rfl, Nat.le_of_ble_eq_true rfl⟩) hw hA ⟨by decide, by decide⟩ (fun v_9 ws H locs hp_v_9 hw hF9 => ?_)
            have m_v_6 := FLD.over hF9 m_v_6 (by decide)
            have m_v_7 := FLD.over hF9 m_v_7 (by decide)
            have m_v_8 := FLD.over hF9 m_v_8 (by decide)
            have r_v_9 : RI v_9 0 39 := hp_v_9.1
            have x_SNL_p0_gd_1_gz_1_gg_v_9 := hp_v_9.2.2.2.1.1
            refine lv_istore_n (lv' := [(1, .int v_9), (0, .ref p0)]) hx hb dX10_readOr_47 rfl hl (by decide) rfl (fun ls hl => ?_)
            refine lv_goto (tgt := 14) hx hb dX10_readOr_48 (by decide) ?_
            have x_SNW_p0_gd_1_gz_1_gg_v_9 : (SNL ws p0 (gd+1) (gz+1) (gg) v_9 ∧ gh + 1 ≤ gz+1) := ⟨x_SNL_p0_gd_1_gz_1_gg_v_9, by omega⟩
            exact ih14 v_9 v_6 v_7 v_8 (gz+1) ws _ _ ls (by have d_8 := SNp.le x_SN_p0_gd_gh_gg; omega) r_v_9 r_v_6 m_v_6 r_v_7 m_v_7 r_v_8 m_v_8 x_SNW_p0_gd_1_gz_1_gg_v_9 hw (lv_sub hl [1, 0] rfl)
          · have r_v_4 : RI v_4 1 0 := rc_eq1 r_v_4 rl_0 (ti_eq c_31) (by decide)
            exact (r_v_4.no (by decide)).elim
  refine lv_aload_n hx hb dX10_readOr_0 rfl (lv_at hl 0 rfl) ?_
  refine tk_i (va_runV (As := []) (rest := []) ⟨hx, hb, hml, hown, hts⟩ (c_X10_readAnd__5 l D cy z s.heap.size Ps w0 hw.1 p0 f0_47 (gd) (gh) (gg) h_p0 r_f0_47 m_f0_47 x_SN_p0_gd_gh_gg) (cwV 0 hts (gV tw_1755 tw_1757 ts_112 tw_15 tw_1758) rfl rfl rfl (by decide +kernel) ⟨Nat.le_of_ble_eq_true rfl, Nat.le_of_ble_eq_true rfl⟩) (tg_preV hw hK hSD hA (ci := 10) (q := (RX10, TX10, 49)) rfl h_p0 rfl) rfl rfl hl.1 rfl (lv_room (Nat.le_of_ble_eq_true rfl)) dX10_readOr_1 ⟨Nat.le_of_ble_eq_true rfl, Nat.le_of_ble_eq_true rfl⟩) hw hA ⟨by decide, by decide⟩ (fun v_10 ws H locs hp_v_10 hw hF9 => ?_)
  have r_v_10 : RI v_10 0 1 := hp_v_10.1
  by_cases c9_v_10 : v_10 = 0
  · have r_v_10 : RI v_10 0 0 := by rw [c9_v_10]; exact rl_0
    obtain ⟨v_11, m_v_11, r_v_11⟩ := ((hp_v_10.2.1 c9_v_10).1)
    refine lv_if_ne (tgt := 9) hx hb dX10_readOr_4 (by decide) (fun c_4 => ?_) (fun c_4 => ?_)
    · exact absurd (r_v_10.eq.trans rl_0.eq.symm) ((ti_ne c_4))
    · refine lv_iconst (v := 0) hx hb dX10_readOr_7 (by decide) ?_
      subst hQ
      exact W.zret (v := 0) hx hb hr (rfl) (fun t ht hW => ⟨⟨0, ws, rfl, ⟨⟨rl_0.to (by decide), (fun h0 => ⟨⟨_, m_v_11, r_v_11⟩, trivial⟩), (fun h0 => absurd rfl h0)⟩, hw.1, hw.2.2.2.2.1⟩, by rw [ht]; exact hw.2.1, va_K.moved hW.alike hK, hw.2.2.1⟩, hw.2.2.2.1.F ht⟩) hw.2.2.2.1.2.2 dX10_readOr_8
  · have r_v_10 : RI v_10 1 1 := rc_neL r_v_10 rl_0 (ti_ne c9_v_10) (by decide)
    obtain ⟨v_12, m_v_12, r_v_12⟩ := ((hp_v_10.2.2 c9_v_10).1)
    obtain ⟨v_13, m_v_13, r_v_13⟩ := ((hp_v_10.2.2 c9_v_10).2.1)
    obtain ⟨v_14, m_v_14, r_v_14⟩ := ((hp_v_10.2.2 c9_v_10).2.2.1)
    have x_SNT_p0_gd_1_gh_1_gg := ((hp_v_10.2.2 c9_v_10).2.2.2.1)
    refine lv_if_ne (tgt := 9) hx hb dX10_readOr_4 (by decide) (fun c_4 => ?_) (fun c_4 => ?_)
    · refine lv_aload_n hx hb dX10_readOr_9 rfl (lv_at hl 0 rfl) ?_
      refine tg_mem (ci := 10) (C := RX10) (T := TX10) (N := 49) hx hb hts inX10 hown hK hw 48 m_v_14 rfl (by decide) (hts _ tw_1185) (fun _ h9 => h9) dX10_readOr_10 ?_
      refine lv_istore_n (lv' := [(1, .int v_14), (0, .ref p0)]) hx hb dX10_readOr_13 rfl hl (by decide) rfl (fun ls hl => ?_)
      have x_SNW_p0_gd_1_gh_1_gg_v_14 : (SNL ws p0 (gd+1) (gh+1) (gg) v_14 ∧ gh + 1 ≤ gh+1) := ⟨SNT.top hw x_SNT_p0_gd_1_gh_1_gg m_v_14, by omega⟩
      exact B14 4294967298 v_14 v_12 v_13 v_14 (gh+1) ws _ _ ls (by have d_8 := SNp.le x_SN_p0_gd_gh_gg; omega) r_v_14 r_v_12 m_v_12 r_v_13 m_v_13 r_v_14 m_v_14 x_SNW_p0_gd_1_gh_1_gg_v_14 hw (lv_sub hl [1, 0] rfl)
    · have r_v_10 : RI v_10 1 0 := rc_eq1 r_v_10 rl_0 (ti_eq c_4) (by decide)
      exact (r_v_10.no (by decide)).elim
abbrev wr_X10_readBracket__4 : List (Nat × Nat) := [(10, 5), (10, 6), (10, 7), (10, 8), (10, 9), (10, 10), (10, 11), (10, 12), (10, 13), (10, 45), (10, 46), (10, 47), (10, 48)]
abbrev wa_X10_readBracket__4 : List Nat := [54]
set_option maxHeartbeats 4000000 in
set_option maxRecDepth 100000 in
theorem c_X10_readBracket__4 (l : Launch) (D : va_G) (cy : Nat → ClassId) (z : Nat → Nat) (sz : Nat) (Ps : PSI) (w0 : va_W) (hT : HT cy GG Ps w0) (p0 : Nat) (f0_47 : Int32) (gd : Int) (gh : Int) (gg : Int) (h_p0 : (p0, 55) ∈ Ps) (r_f0_47 : RI f0_47 5 5) (m_f0_47 : FLD w0 p0 10 47 (.int f0_47)) (x_SNI_p0_gd_gh_gg : SNI w0 p0 (gd) (gh) (gg)) : Met l yX10_readBracket (Cond.code yX10_readBracket cX10_readBracket 1 (some .boolean) :: gT) ({ frames := 19, cells := 0, slots := 0, locals := 3800 } : Room) (va_Pc [.ref p0] (PRE D cy z w0 sz)) (va_Qi (fun (r : Int32) (u : va_W) => (RI r 0 1 ∧ (r = 0 → (∃ v9 : Int32, FLD u p0 10 47 (.int v9) ∧ RI v9 5 5) ∧ True) ∧ (¬ r = 0 → (∃ v9 : Int32, FLD u p0 10 46 (.int v9) ∧ RI v9 1 20) ∧ (∃ v9 : Int32, FLD u p0 10 47 (.int v9) ∧ RI v9 5 5) ∧ (∃ v9 : Int32, FLD u p0 10 48 (.int v9) ∧ RI v9 0 39) ∧ SNT u p0 (gd) (gh) (gg) ∧ True)) ∧ HT cy GG Ps u ∧ FR wr_X10_readBracket__4 wa_X10_readBracket__4 Ps w0 u) (BB D cy (va_A w0 sz) (fun (u : va_W) => u)) (va_A w0 sz)) 0 0 (va_A w0 sz) := by
  refine Met.ofW (cc := cX10_readBracket) (maxL := 1) (ret := (some .boolean)) (by decide) rfl ?_
  intro p e s m args below meth c s₁ B hml hv
  obtain ⟨rfl, hsz, hP, hK, hD0, hSD⟩ := hv
  have hx := B.exec
  have hb := B.bytes
  have hr := B.returns
  have hlocks := B.notSynchronized
  have hts : ∀ w ∈ gT, w.before _ s = true := fun w h => atoms_spec (ws := Cond.code yX10_readBracket cX10_readBracket 1 (some .boolean) :: gT) B.pre w (List.mem_cons_of_mem _ h)
  have hown : s.vm.findClass RX10 = some m.cls := findClass_of_methodNamed B.named
  subst hsz
  have hD := hD0.self (sz := s.heap.size)
  generalize hAe : va_A w0 s.heap.size = A at hD hSD ⊢
  have hA : ∀ q : Nat, s.heap.size ≤ q → A q := fun q h => by rw [← hAe]; exact Or.inr h
  have hl := lv_entry ([.ref p0]) (n := 1) (Nat.le_of_ble_eq_true rfl)
  rw [lg_entry_eq]
  generalize (lg_sl ([.ref p0]) ++ List.replicate (1 - (lg_sl ([.ref p0])).length) Slot.unset).toArray = ls at hl ⊢
  have hl : lv_has ls 1 [(0, .ref p0)] := hl
  refine nameQ (fun Q hQ => ?_)
  have hw : WD D cy GG A s wr_X10_readBracket__4 wa_X10_readBracket__4 Ps w0 Ps w0 s.heap [] := ⟨hT, hP, hD, va_S.rf, FR.rf, hT.1, [], (List.append_nil _).symm⟩
  refine lv_aload_n hx hb dX10_readBracket_0 rfl (lv_at hl 0 rfl) ?_
  have d_8 := x_SNI_p0_gd_gh_gg.1
  have x_SN_p0_gd_1_gh_gg : SNp w0 p0 (gd+1) (gh) (gg) := x_SNI_p0_gd_gh_gg.2
  refine tk_i (va_runV (As := []) (rest := []) ⟨hx, hb, hml, hown, hts⟩ (c_X10_readOr__5 l D cy z s.heap.size Ps w0 hw.1 p0 f0_47 (gd+1) (gh) (gg) h_p0 r_f0_47 m_f0_47 x_SN_p0_gd_1_gh_gg) (cwV 0 hts (gV tw_1751 tw_1753 ts_111 tw_15 tw_1754) rfl rfl rfl (by decide +kernel) ⟨Nat.le_of_ble_eq_true rfl, Nat.le_of_ble_eq_true rfl⟩) (tg_preV hw hK hSD hA (ci := 10) (q := (RX10, TX10, 49)) rfl h_p0 rfl) rfl rfl hl.1 rfl (lv_room (Nat.le_of_ble_eq_true rfl)) dX10_readBracket_1 ⟨Nat.le_of_ble_eq_true rfl, Nat.le_of_ble_eq_true rfl⟩) hw hA ⟨by decide, by decide⟩ (fun v_1 ws H locs hp_v_1 hw hF9 => ?_)
  have r_v_1 : RI v_1 0 1 := hp_v_1.1
  by_cases c9_v_1 : v_1 = 0
  · have r_v_1 : RI v_1 0 0 := by rw [c9_v_1]; exact rl_0
    obtain ⟨v_2, m_v_2, r_v_2⟩ := ((hp_v_1.2.1 c9_v_1).1)
    refine lv_if_ne (tgt := 9) hx hb dX10_readBracket_4 (by decide) (fun c_4 => ?_) (fun c_4 => ?_)
    · exact absurd (r_v_1.eq.trans rl_0.eq.symm) ((ti_ne c_4))
    · refine lv_iconst (v := 0) hx hb dX10_readBracket_7 (by decide) ?_
      subst hQ
      exact W.zret (v := 0) hx hb hr (rfl) (fun t ht hW => ⟨⟨0, ws, rfl, ⟨⟨rl_0.to (by decide), (fun h0 => ⟨⟨_, m_v_2, r_v_2⟩, trivial⟩), (fun h0 => absurd rfl h0)⟩, hw.1, hw.2.2.2.2.1⟩, by rw [ht]; exact hw.2.1, va_K.moved hW.alike hK, hw.2.2.1⟩, hw.2.2.2.1.F ht⟩) hw.2.2.2.1.2.2 dX10_readBracket_8
  · have r_v_1 : RI v_1 1 1 := rc_neL r_v_1 rl_0 (ti_ne c9_v_1) (by decide)
    obtain ⟨v_3, m_v_3, r_v_3⟩ := ((hp_v_1.2.2 c9_v_1).1)
    obtain ⟨v_4, m_v_4, r_v_4⟩ := ((hp_v_1.2.2 c9_v_1).2.1)
    obtain ⟨v_5, m_v_5, r_v_5⟩ := ((hp_v_1.2.2 c9_v_1).2.2.1)
    have x_SNT_p0_gd_2_gh_1_gg := ((hp_v_1.2.2 c9_v_1).2.2.2.1)
    refine lv_if_ne (tgt := 9) hx hb dX10_readBracket_4 (by decide) (fun c_4 => ?_) (fun c_4 => ?_)
    · refine lv_aload_n hx hb dX10_readBracket_9 rfl (lv_at hl 0 rfl) ?_
      refine lv_bipush (v := 41) hx hb dX10_readBracket_10 (by decide) ?_
      refine tk_ir (va_runV (As := [.int 41]) (rest := []) ⟨hx, hb, hml, hown, hts⟩ (c_X10_isSign l D cy z H.size Ps ws hw.1 p0 41 h_p0 (rl_41.to (by decide))) (cwV 1 hts (gV tw_1413 tw_1415 ts_63 tw_15 tw_1416) rfl rfl rfl (by decide +kernel) ⟨Nat.le_of_ble_eq_true rfl, Nat.le_of_ble_eq_true rfl⟩) (tg_preV hw hK hSD hA (ci := 10) (q := (RX10, TX10, 49)) rfl h_p0 rfl) rfl rfl hl.1 rfl (lv_room (Nat.le_of_ble_eq_true rfl)) dX10_readBracket_12 ⟨Nat.le_of_ble_eq_true rfl, Nat.le_of_ble_eq_true rfl⟩) hw hA (fun v_6  H locs hp_v_6 hw => ?_)
      have r_v_6 : RI v_6 0 1 := hp_v_6.1
      by_cases c9_v_6 : v_6 = 0
      · have r_v_6 : RI v_6 0 0 := by rw [c9_v_6]; exact rl_0
        refine lv_if_ne (tgt := 24) hx hb dX10_readBracket_15 (by decide) (fun c_15 => ?_) (fun c_15 => ?_)
        · exact absurd (r_v_6.eq.trans rl_0.eq.symm) ((ti_ne c_15))
        · refine lv_aload_n hx hb dX10_readBracket_18 rfl (lv_at hl 0 rfl) ?_
          refine lv_iconst (v := 1) hx hb dX10_readBracket_19 (by decide) ?_
          refine tk_i (va_runV (As := [.int 1]) (rest := []) ⟨hx, hb, hml, hown, hts⟩ (c_X10_bad l D cy z H.size Ps ws hw.1 p0 1 h_p0 (rl_1.to (by decide))) (cwV 1 hts (gV tw_1336 tw_1338 ts_46 tw_15 tw_1339) rfl rfl rfl (by decide +kernel) ⟨Nat.le_of_ble_eq_true rfl, Nat.le_of_ble_eq_true rfl⟩) (tg_preV hw hK hSD hA (ci := 10) (q := (RX10, TX10, 49)) rfl h_p0 rfl) rfl rfl hl.1 rfl (lv_room (Nat.le_of_ble_eq_true rfl)) dX10_readBracket_20 ⟨Nat.le_of_ble_eq_true rfl, Nat.le_of_ble_eq_true rfl⟩) hw hA ⟨by decide, by decide⟩ (fun v_7 ws H locs hp_v_7 hw hF9 => ?_)
          have m_v_3 := FLD.over hF9 m_v_3 (by decide)
          have m_v_4 := FLD.over hF9 m_v_4 (by decide)
          have m_v_5 := FLD.over hF9 m_v_5 (by decide)
          have x_SNT_p0_gd_2_gh_1_gg := SNT.over hF9 x_SNT_p0_gd_2_gh_1_gg (by decide)
          have r_v_7 : RI v_7 0 0 := hp_v_7.1
          subst hQ
          exact W.zret (v := v_7) hx hb hr (tq_nz (r_v_7.to (by decide))) (fun t ht hW => ⟨⟨v_7, ws, rfl, ⟨⟨r_v_7.to (by decide), (fun h0 => ⟨⟨_, m_v_4, r_v_4⟩, trivial⟩), (fun h0 => absurd (Int32.toInt_inj.mp (by have h8 := r_v_7; unfold RI at h8; rw [Int32.toInt_zero]; omega)) h0)⟩, hw.1, hw.2.2.2.2.1⟩, by rw [ht]; exact hw.2.1, va_K.moved hW.alike hK, hw.2.2.1⟩, hw.2.2.2.1.F ht⟩) hw.2.2.2.1.2.2 dX10_readBracket_23
      · have r_v_6 : RI v_6 1 1 := rc_neL r_v_6 rl_0 (ti_ne c9_v_6) (by decide)
        obtain ⟨v_8, m_v_8, r_v_8⟩ := ((hp_v_6.2.2 c9_v_6).1)
        refine lv_if_ne (tgt := 24) hx hb dX10_readBracket_15 (by decide) (fun c_15 => ?_) (fun c_15 => ?_)
        · refine lv_aload_n hx hb dX10_readBracket_24 rfl (lv_at hl 0 rfl) ?_
          refine tk_v (va_runV (As := []) (rest := []) ⟨hx, hb, hml, hown, hts⟩ (c_X10_go l D cy z H.size Ps ws hw.1 p0 h_p0) (cwV 0 hts (gV tw_1298 tw_1300 ts_40 tw_15 tw_1301) rfl rfl rfl (by decide +kernel) ⟨Nat.le_of_ble_eq_true rfl, Nat.le_of_ble_eq_true rfl⟩) (tg_preV hw hK hSD hA (ci := 10) (q := (RX10, TX10, 49)) rfl h_p0 rfl) rfl rfl hl.1 rfl (lv_room (Nat.le_of_ble_eq_true rfl)) dX10_readBracket_25 ⟨Nat.le_of_ble_eq_true rfl, Nat.le_of_ble_eq_true rfl⟩) hw hA ⟨by decide, by decide⟩ (fun ws H locs hp_v_9 hw hF9 => ?_)
          have m_v_3 := FLD.over hF9 m_v_3 (by decide)
          have m_v_4 := FLD.over hF9 m_v_4 (by decide)
          have m_v_5 := FLD.over hF9 m_v_5 (by decide)
          have x_SNT_p0_gd_2_gh_1_gg := SNT.over hF9 x_SNT_p0_gd_2_gh_1_gg (by decide)
          have x_SNT_p0_gd_gh_gg : SNT ws p0 (gd) (gh) (gg) := x_SNT_p0_gd_2_gh_1_gg.weak (by have d_8 := SNp.le x_SNI_p0_gd_gh_gg.2; have d_7 := x_SNI_p0_gd_gh_gg.1; omega)
          refine lv_iconst (v := 1) hx hb dX10_readBracket_28 (by decide) ?_
          subst hQ
          exact W.zret (v := 1) hx hb hr (rfl) (fun t ht hW => ⟨⟨1, ws, rfl, ⟨⟨rl_1.to (by decide), (fun h0 => absurd h0 (by decide)), (fun h0 => ⟨⟨_, m_v_3, r_v_3⟩, ⟨_, m_v_4, r_v_4⟩, ⟨_, m_v_5, r_v_5⟩, x_SNT_p0_gd_gh_gg, trivial⟩)⟩, hw.1, hw.2.2.2.2.1⟩, by rw [ht]; exact hw.2.1, va_K.moved hW.alike hK, hw.2.2.1⟩, hw.2.2.2.1.F ht⟩) hw.2.2.2.1.2.2 dX10_readBracket_29
        · have r_v_6 : RI v_6 1 0 := rc_eq1 r_v_6 rl_0 (ti_eq c_15) (by decide)
          exact (r_v_6.no (by decide)).elim
    · have r_v_1 : RI v_1 1 0 := rc_eq1 r_v_1 rl_0 (ti_eq c_4) (by decide)
      exact (r_v_1.no (by decide)).elim
abbrev wr_X10_readNot__3 : List (Nat × Nat) := [(10, 5), (10, 6), (10, 7), (10, 8), (10, 9), (10, 10), (10, 11), (10, 12), (10, 13), (10, 45), (10, 46), (10, 47), (10, 48)]
abbrev wa_X10_readNot__3 : List Nat := [54]
set_option maxHeartbeats 4000000 in
set_option maxRecDepth 100000 in
theorem c_X10_readNot__3 (l : Launch) (D : va_G) (cy : Nat → ClassId) (z : Nat → Nat) (sz : Nat) (Ps : PSI) (w0 : va_W) (hT : HT cy GG Ps w0) (p0 : Nat) (f0_47 : Int32) (gd : Int) (gh : Int) (gg : Int) (h_p0 : (p0, 55) ∈ Ps) (r_f0_47 : RI f0_47 5 5) (m_f0_47 : FLD w0 p0 10 47 (.int f0_47)) (x_SNI_p0_gd_gh_gg : SNI w0 p0 (gd) (gh) (gg)) : Met l yX10_readNot (Cond.code yX10_readNot cX10_readNot 1 (some .boolean) :: gT) ({ frames := 17, cells := 0, slots := 0, locals := 3400 } : Room) (va_Pc [.ref p0] (PRE D cy z w0 sz)) (va_Qi (fun (r : Int32) (u : va_W) => (RI r 0 1 ∧ (r = 0 → (∃ v9 : Int32, FLD u p0 10 47 (.int v9) ∧ RI v9 5 5) ∧ True) ∧ (¬ r = 0 → (∃ v9 : Int32, FLD u p0 10 46 (.int v9) ∧ RI v9 1 20) ∧ (∃ v9 : Int32, FLD u p0 10 47 (.int v9) ∧ RI v9 5 5) ∧ (∃ v9 : Int32, FLD u p0 10 48 (.int v9) ∧ RI v9 0 39) ∧ SNT u p0 (gd) (gh) (gg) ∧ True)) ∧ HT cy GG Ps u ∧ FR wr_X10_readNot__3 wa_X10_readNot__3 Ps w0 u) (BB D cy (va_A w0 sz) (fun (u : va_W) => u)) (va_A w0 sz)) 0 0 (va_A w0 sz) := by
  refine Met.ofW (cc := cX10_readNot) (maxL := 1) (ret := (some .boolean)) (by decide) rfl ?_
  intro p e s m args below meth c s₁ B hml hv
  obtain ⟨rfl, hsz, hP, hK, hD0, hSD⟩ := hv
  have hx := B.exec
  have hb := B.bytes
  have hr := B.returns
  have hlocks := B.notSynchronized
  have hts : ∀ w ∈ gT, w.before _ s = true := fun w h => atoms_spec (ws := Cond.code yX10_readNot cX10_readNot 1 (some .boolean) :: gT) B.pre w (List.mem_cons_of_mem _ h)
  have hown : s.vm.findClass RX10 = some m.cls := findClass_of_methodNamed B.named
  subst hsz
  have hD := hD0.self (sz := s.heap.size)
  generalize hAe : va_A w0 s.heap.size = A at hD hSD ⊢
  have hA : ∀ q : Nat, s.heap.size ≤ q → A q := fun q h => by rw [← hAe]; exact Or.inr h
  have hl := lv_entry ([.ref p0]) (n := 1) (Nat.le_of_ble_eq_true rfl)
  rw [lg_entry_eq]
  generalize (lg_sl ([.ref p0]) ++ List.replicate (1 - (lg_sl ([.ref p0])).length) Slot.unset).toArray = ls at hl ⊢
  have hl : lv_has ls 1 [(0, .ref p0)] := hl
  refine nameQ (fun Q hQ => ?_)
  have hw : WD D cy GG A s wr_X10_readNot__3 wa_X10_readNot__3 Ps w0 Ps w0 s.heap [] := ⟨hT, hP, hD, va_S.rf, FR.rf, hT.1, [], (List.append_nil _).symm⟩
  refine lv_aload_n hx hb dX10_readNot_0 rfl (lv_at hl 0 rfl) ?_
  have x_SN_p0_gd_1_gh_gg : SNp w0 p0 (gd+1) (gh) (gg) := x_SNI_p0_gd_gh_gg.2
  refine tk_i (va_runV (As := []) (rest := []) ⟨hx, hb, hml, hown, hts⟩ (c_X10_readSaid__5 l D cy z s.heap.size Ps w0 hw.1 p0 f0_47 (gd+1) (gh) (gg) h_p0 r_f0_47 m_f0_47 x_SN_p0_gd_1_gh_gg) (cwV 0 hts (gV tw_1759 tw_1761 ts_113 tw_15 tw_1762) rfl rfl rfl (by decide +kernel) ⟨Nat.le_of_ble_eq_true rfl, Nat.le_of_ble_eq_true rfl⟩) (tg_preV hw hK hSD hA (ci := 10) (q := (RX10, TX10, 49)) rfl h_p0 rfl) rfl rfl hl.1 rfl (lv_room (Nat.le_of_ble_eq_true rfl)) dX10_readNot_1 ⟨Nat.le_of_ble_eq_true rfl, Nat.le_of_ble_eq_true rfl⟩) hw hA ⟨by decide, by decide⟩ (fun v_1 ws H locs hp_v_1 hw hF9 => ?_)
  have r_v_1 : RI v_1 0 1 := hp_v_1.1
  by_cases c9_v_1 : v_1 = 0
  · have r_v_1 : RI v_1 0 0 := by rw [c9_v_1]; exact rl_0
    obtain ⟨v_2, m_v_2, r_v_2⟩ := ((hp_v_1.2.1 c9_v_1).1)
    refine lv_if_ne (tgt := 9) hx hb dX10_readNot_4 (by decide) (fun c_4 => ?_) (fun c_4 => ?_)
    · exact absurd (r_v_1.eq.trans rl_0.eq.symm) ((ti_ne c_4))
    · refine lv_iconst (v := 0) hx hb dX10_readNot_7 (by decide) ?_
      subst hQ
      exact W.zret (v := 0) hx hb hr (rfl) (fun t ht hW => ⟨⟨0, ws, rfl, ⟨⟨rl_0.to (by decide), (fun h0 => ⟨⟨_, m_v_2, r_v_2⟩, trivial⟩), (fun h0 => absurd rfl h0)⟩, hw.1, hw.2.2.2.2.1⟩, by rw [ht]; exact hw.2.1, va_K.moved hW.alike hK, hw.2.2.1⟩, hw.2.2.2.1.F ht⟩) hw.2.2.2.1.2.2 dX10_readNot_8
  · have r_v_1 : RI v_1 1 1 := rc_neL r_v_1 rl_0 (ti_ne c9_v_1) (by decide)
    obtain ⟨v_3, m_v_3, r_v_3⟩ := ((hp_v_1.2.2 c9_v_1).1)
    obtain ⟨v_4, m_v_4, r_v_4⟩ := ((hp_v_1.2.2 c9_v_1).2.1)
    obtain ⟨v_5, m_v_5, r_v_5⟩ := ((hp_v_1.2.2 c9_v_1).2.2.1)
    have x_SNT_p0_gd_2_gh_1_gg := ((hp_v_1.2.2 c9_v_1).2.2.2.1)
    refine lv_if_ne (tgt := 9) hx hb dX10_readNot_4 (by decide) (fun c_4 => ?_) (fun c_4 => ?_)
    · refine lv_aload_n hx hb dX10_readNot_9 rfl (lv_at hl 0 rfl) ?_
      refine lv_aload_n hx hb dX10_readNot_10 rfl (lv_at hl 0 rfl) ?_
      refine lv_iconst (v := 1) hx hb dX10_readNot_11 (by decide) ?_
      refine lv_aload_n hx hb dX10_readNot_12 rfl (lv_at hl 0 rfl) ?_
      refine tg_mem (ci := 10) (C := RX10) (T := TX10) (N := 49) hx hb hts inX10 hown hK hw 48 m_v_4 rfl (by decide) (hts _ tw_1185) (fun _ h9 => h9) dX10_readNot_13 ?_
      refine lv_iconst (v := 0) hx hb dX10_readNot_16 (by decide) ?_
      refine lv_iconst (v := 0) hx hb dX10_readNot_17 (by decide) ?_
      have l9 := SNT.top hw x_SNT_p0_gd_2_gh_1_gg m_v_4
      have l8 := l9.le
      have x_SNI_p0_gd_1_gh_1_gg : SNI ws p0 (gd+1) (gh+1) (gg) := SNp.sni (SNT.sn x_SNT_p0_gd_2_gh_1_gg) (by have d_8 := SNp.le x_SNI_p0_gd_gh_gg.2; have d_7 := x_SNI_p0_gd_gh_gg.1; omega)
      have x_LTN_p0_v_4 : LTN ws p0 (v_4) := l9.ltn
      refine tk_i (va_runV (As := [.int 1, .int v_4, .int 0, .int 0]) (rest := [.ref p0]) ⟨hx, hb, hml, hown, hts⟩ (c_X10_saysOne__2 l D cy z H.size Ps ws hw.1 p0 1 v_4 0 0 (gd+1) (gh+1) (gg) h_p0 rl_1 (r_v_4.to (by decide)) (rl_0.to (by decide)) (rl_0.to (by decide)) x_SNI_p0_gd_1_gh_1_gg x_LTN_p0_v_4) (cwV 4 hts (gV tw_1771 tw_1773 ts_116 tw_15 tw_1774) rfl rfl rfl (by decide +kernel) ⟨Nat.le_of_ble_eq_true rfl, Nat.le_of_ble_eq_true rfl⟩) (tg_preV hw hK hSD hA (ci := 10) (q := (RX10, TX10, 49)) rfl h_p0 rfl) rfl rfl hl.1 rfl (lv_room (Nat.le_of_ble_eq_true rfl)) dX10_readNot_18 ⟨Nat.le_of_ble_eq_true rfl, Nat.le_of_ble_eq_true rfl⟩) hw hA ⟨by decide, by decide⟩ (fun v_6 ws H locs hp_v_6 hw hF9 => ?_)
      have m_v_3 := FLD.over hF9 m_v_3 (by decide)
      have m_v_4 := FLD.over hF9 m_v_4 (by decide)
      have m_v_5 := FLD.over hF9 m_v_5 (by decide)
      have r_v_6 : RI v_6 0 39 := hp_v_6.1
      have x_SNL_p0_gd_1_gh_1_gg_v_6 := hp_v_6.2.2.2.1.1
      refine tg_put (ci := 10) (ts := ty_MODEL) (v := .int v_6) (ty := .int) (C := RX10) (T := TX10) (N := 49) hx hb hts inX10 tyX10 tyX10_ok nmX10 hown hK hw h_p0 rfl rfl 48 (by decide) (hts _ tw_1185) (fun _ h9 => h9) rfl (by decide +kernel) rfl rfl (ft := vI (-2147483648) 2147483647) rfl ⟨_, rfl, (r_v_6.to (by decide))⟩ (by decide) dX10_readNot_21 (fun ws H locs hw n_k_7 hF9 => ?_)
      have m_v_3 := FLD.over hF9 m_v_3 (by decide)
      have m_v_5 := FLD.over hF9 m_v_5 (by decide)
      have x_SNL_p0_gd_1_gh_1_gg_v_6 := SNL.over hF9 x_SNL_p0_gd_1_gh_1_gg_v_6 (by decide)
      have x_SNT_p0_gd_gh_gg : SNT ws p0 (gd) (gh) (gg) := (x_SNL_p0_gd_1_gh_1_gg_v_6.weak (d' := gd) (h' := gh) (g' := gg) (by have k1 := x_SNL_p0_gd_1_gh_1_gg_v_6.le; have d_8 := SNp.le x_SNI_p0_gd_gh_gg.2; have d_7 := x_SNI_p0_gd_gh_gg.1; omega)).snt n_k_7
      refine lv_iconst (v := 1) hx hb dX10_readNot_24 (by decide) ?_
      subst hQ
      exact W.zret (v := 1) hx hb hr (rfl) (fun t ht hW => ⟨⟨1, ws, rfl, ⟨⟨rl_1.to (by decide), (fun h0 => absurd h0 (by decide)), (fun h0 => ⟨⟨_, m_v_3, r_v_3⟩, ⟨_, m_v_5, r_v_5⟩, ⟨_, n_k_7, r_v_6⟩, x_SNT_p0_gd_gh_gg, trivial⟩)⟩, hw.1, hw.2.2.2.2.1⟩, by rw [ht]; exact hw.2.1, va_K.moved hW.alike hK, hw.2.2.1⟩, hw.2.2.2.1.F ht⟩) hw.2.2.2.1.2.2 dX10_readNot_25
    · have r_v_1 : RI v_1 1 0 := rc_eq1 r_v_1 rl_0 (ti_eq c_4) (by decide)
      exact (r_v_1.no (by decide)).elim
abbrev wr_X10_readSaid__4 : List (Nat × Nat) := [(10, 5), (10, 6), (10, 7), (10, 8), (10, 9), (10, 10), (10, 11), (10, 12), (10, 13), (10, 45), (10, 46), (10, 47), (10, 48)]
abbrev wa_X10_readSaid__4 : List Nat := [54]
set_option maxHeartbeats 4000000 in
set_option maxRecDepth 100000 in
theorem c_X10_readSaid__4 (l : Launch) (D : va_G) (cy : Nat → ClassId) (z : Nat → Nat) (sz : Nat) (Ps : PSI) (w0 : va_W) (hT : HT cy GG Ps w0) (p0 : Nat) (f0_47 : Int32) (gd : Int) (gh : Int) (gg : Int) (h_p0 : (p0, 55) ∈ Ps) (r_f0_47 : RI f0_47 4 4) (m_f0_47 : FLD w0 p0 10 47 (.int f0_47)) (x_SN_p0_gd_gh_gg : SNp w0 p0 (gd) (gh) (gg)) : Met l yX10_readSaid (Cond.code yX10_readSaid cX10_readSaid 4 (some .boolean) :: gT) ({ frames := 20, cells := 0, slots := 0, locals := 4000 } : Room) (va_Pc [.ref p0] (PRE D cy z w0 sz)) (va_Qi (fun (r : Int32) (u : va_W) => (RI r 0 1 ∧ (r = 0 → (∃ v9 : Int32, FLD u p0 10 47 (.int v9) ∧ RI v9 4 4) ∧ True) ∧ (¬ r = 0 → (∃ v9 : Int32, FLD u p0 10 46 (.int v9) ∧ RI v9 1 20) ∧ (∃ v9 : Int32, FLD u p0 10 48 (.int v9) ∧ RI v9 0 39) ∧ (∃ v9 : Int32, FLD u p0 10 47 (.int v9) ∧ RI v9 4 4) ∧ SNT u p0 (gd+1) (gh+1) (gg) ∧ True)) ∧ HT cy GG Ps u ∧ FR wr_X10_readSaid__4 wa_X10_readSaid__4 Ps w0 u) (BB D cy (va_A w0 sz) (fun (u : va_W) => u)) (va_A w0 sz)) 0 0 (va_A w0 sz) := by
  refine Met.ofW (cc := cX10_readSaid) (maxL := 4) (ret := (some .boolean)) (by decide) rfl ?_
  intro p e s m args below meth c s₁ B hml hv
  obtain ⟨rfl, hsz, hP, hK, hD0, hSD⟩ := hv
  have hx := B.exec
  have hb := B.bytes
  have hr := B.returns
  have hlocks := B.notSynchronized
  have hts : ∀ w ∈ gT, w.before _ s = true := fun w h => atoms_spec (ws := Cond.code yX10_readSaid cX10_readSaid 4 (some .boolean) :: gT) B.pre w (List.mem_cons_of_mem _ h)
  have hown : s.vm.findClass RX10 = some m.cls := findClass_of_methodNamed B.named
  subst hsz
  have hD := hD0.self (sz := s.heap.size)
  generalize hAe : va_A w0 s.heap.size = A at hD hSD ⊢
  have hA : ∀ q : Nat, s.heap.size ≤ q → A q := fun q h => by rw [← hAe]; exact Or.inr h
  have hl := lv_entry ([.ref p0]) (n := 4) (Nat.le_of_ble_eq_true rfl)
  rw [lg_entry_eq]
  generalize (lg_sl ([.ref p0]) ++ List.replicate (4 - (lg_sl ([.ref p0])).length) Slot.unset).toArray = ls at hl ⊢
  have hl : lv_has ls 4 [(0, .ref p0)] := hl
  refine nameQ (fun Q hQ => ?_)
  have hw : WD D cy GG A s wr_X10_readSaid__4 wa_X10_readSaid__4 Ps w0 Ps w0 s.heap [] := ⟨hT, hP, hD, va_S.rf, FR.rf, hT.1, [], (List.append_nil _).symm⟩
  have B30 : ∀ (x1 : Int32) (x2 : Int32) (z0_47 : Int32) (ws : va_W) (H : Heap) (locs : List Loc) (ls : Array Slot), RI x1 0 1 → RI x2 18 28 → RI z0_47 4 4 → FLD ws p0 10 47 (.int z0_47) → SNp ws p0 (gd) (gh) (gg) → WD D cy GG A s wr_X10_readSaid__4 wa_X10_readSaid__4 Ps w0 Ps ws H locs → lv_has ls 4 [(0, .ref p0), (1, .int x1), (2, .int x2)] → W p l e (headSpec (Cond.code yX10_readSaid cX10_readSaid 4 (some .boolean) :: gT) ({ frames := 20, cells := 0, slots := 0, locals := 4000 } : Room)).room s m ([.ref p0] : List Value).toArray below meth c H locs 0 0 Q (F0 m 30 ls []) := by
    intro x1 x2 z0_47 ws H locs ls r_x1 r_x2 r_z0_47 m_z0_47 x_SN_p0_gd_gh_gg hw hl
    refine lv_iload_n hx hb dX10_readSaid_30 rfl (lv_at hl 1 rfl) ?_
    refine lv_if_ne (tgt := 46) hx hb dX10_readSaid_31 (by decide) (fun c_31 => ?_) (fun c_31 => ?_)
    · have r_x1 : RI x1 1 1 := rc_neL r_x1 rl_0 (ti_ne c_31) (by decide)
      refine lv_aload_n hx hb dX10_readSaid_46 rfl (lv_at hl 0 rfl) ?_
      refine tg_get (ci := 10) (ts := ty_MODEL) (C := RX10) (T := TX10) (N := 49) hx hb hts inX10 hown hK hw h_p0 rfl rfl 46 (by decide) (hts _ tw_1183) (fun _ h9 => h9) (ft := vI (-2147483648) 2147483647) rfl dX10_readSaid_47 (fun u_1 hv_u_1 m_u_1 => ?_)
      obtain ⟨vu_1, rfl, r_vu_1⟩ := hv_u_1
      obtain ⟨n9, hn9, rn9, r_vu_1, b9⟩ := SNp.getO hw x_SN_p0_gd_gh_gg m_u_1
      refine lv_bipush (v := 20) hx hb dX10_readSaid_50 (by decide) ?_
      refine lv_icmp_eq (tgt := 64) hx hb dX10_readSaid_52 (by decide) (fun c_52 => ?_) (fun c_52 => ?_)
      · have r_vu_1 : RI vu_1 20 20 := rc_eq1 r_vu_1 rl_20 (ti_eq c_52) (by decide)
        refine lv_aload_n hx hb dX10_readSaid_64 rfl (lv_at hl 0 rfl) ?_
        refine lv_iconst (v := 4) hx hb dX10_readSaid_65 (by decide) ?_
        refine tk_i (va_runV (As := [.int 4]) (rest := []) ⟨hx, hb, hml, hown, hts⟩ (c_X10_bad l D cy z H.size Ps ws hw.1 p0 4 h_p0 (rl_4.to (by decide))) (cwV 1 hts (gV tw_1336 tw_1338 ts_46 tw_15 tw_1339) rfl rfl rfl (by decide +kernel) ⟨Nat.le_of_ble_eq_true rfl, Nat.le_of_ble_eq_true rfl⟩) (tg_preV hw hK hSD hA (ci := 10) (q := (RX10, TX10, 49)) rfl h_p0 rfl) rfl rfl hl.1 rfl (lv_room (Nat.le_of_ble_eq_true rfl)) dX10_readSaid_66 ⟨Nat.le_of_ble_eq_true rfl, Nat.le_of_ble_eq_true rfl⟩) hw hA ⟨by decide, by decide⟩ (fun v_2 ws H locs hp_v_2 hw hF9 => ?_)
        have m_z0_47 := FLD.over hF9 m_z0_47 (by decide)
        have m_u_1 := FLD.over hF9 m_u_1 (by decide)
        have hn9 := FLD.over hF9 hn9 (by decide)
        have x_SN_p0_gd_gh_gg := SNp.over hF9 x_SN_p0_gd_gh_gg (by decide)
        have r_v_2 : RI v_2 0 0 := hp_v_2.1
        subst hQ
        exact W.zret (v := v_2) hx hb hr (tq_nz (r_v_2.to (by decide))) (fun t ht hW => ⟨⟨v_2, ws, rfl, ⟨⟨r_v_2.to (by decide), (fun h0 => ⟨⟨_, m_z0_47, r_z0_47⟩, trivial⟩), (fun h0 => absurd (Int32.toInt_inj.mp (by have h8 := r_v_2; unfold RI at h8; rw [Int32.toInt_zero]; omega)) h0)⟩, hw.1, hw.2.2.2.2.1⟩, by rw [ht]; exact hw.2.1, va_K.moved hW.alike hK, hw.2.2.1⟩, hw.2.2.2.1.F ht⟩) hw.2.2.2.1.2.2 dX10_readSaid_69
      · have r_vu_1 : RI vu_1 0 19 := rc_neU r_vu_1 rl_20 (ti_ne c_52) (by decide)
        refine lv_aload_n hx hb dX10_readSaid_55 rfl (lv_at hl 0 rfl) ?_
        refine tg_mem (ci := 10) (C := RX10) (T := TX10) (N := 49) hx hb hts inX10 hown hK hw 47 m_z0_47 rfl (by decide) (hts _ tw_1184) (fun _ h9 => h9) dX10_readSaid_56 ?_
        refine lv_bipush (v := 8) hx hb dX10_readSaid_59 (by decide) ?_
        refine lv_icmp_ne (tgt := 70) hx hb dX10_readSaid_61 (by decide) (fun c_61 => ?_) (fun c_61 => ?_)
        · refine lv_aload_n hx hb dX10_readSaid_70 rfl (lv_at hl 0 rfl) ?_
          refine lv_dup hx hb dX10_readSaid_71 rfl ?_
          refine tg_mem (ci := 10) (C := RX10) (T := TX10) (N := 49) hx hb hts inX10 hown hK hw 46 m_u_1 rfl (by decide) (hts _ tw_1183) (fun _ h9 => h9) dX10_readSaid_72 ?_
          refine lv_iconst (v := 1) hx hb dX10_readSaid_75 (by decide) ?_
          refine lv_iadd hx hb dX10_readSaid_76 (lv_topi (fun v_3 e_v_3 => ?_))
          obtain ⟨t_v_3, r_v_3⟩ := tq_add (lo := 1) (hi := 20) r_vu_1 rl_1 (by decide +kernel) e_v_3
          have t_v_3 : v_3.toInt = vu_1.toInt + 1 := t_v_3
          refine tg_put (ci := 10) (ts := ty_MODEL) (v := .int v_3) (ty := .int) (C := RX10) (T := TX10) (N := 49) hx hb hts inX10 tyX10 tyX10_ok nmX10 hown hK hw h_p0 rfl rfl 46 (by decide) (hts _ tw_1183) (fun _ h9 => h9) rfl (by decide +kernel) rfl rfl (ft := vI (-2147483648) 2147483647) rfl ⟨_, rfl, (r_v_3.to (by decide))⟩ (by decide) dX10_readSaid_77 (fun ws H locs hw n_k_4 hF9 => ?_)
          have m_z0_47 := FLD.over hF9 m_z0_47 (by decide)
          have hn9 := FLD.over hF9 hn9 (by decide)
          have x_SNI_p0_gd_1_gh_1_gg : SNI ws p0 (gd+1) (gh+1) (gg) := ⟨by omega, _, _, hn9, n_k_4, by have k1 := rn9.1; have k2 := r_v_3.2; omega⟩
          refine lv_aload_n hx hb dX10_readSaid_80 rfl (lv_at hl 0 rfl) ?_
          refine lv_dup hx hb dX10_readSaid_81 rfl ?_
          refine tg_mem (ci := 10) (C := RX10) (T := TX10) (N := 49) hx hb hts inX10 hown hK hw 47 m_z0_47 rfl (by decide) (hts _ tw_1184) (fun _ h9 => h9) dX10_readSaid_82 ?_
          refine lv_iconst (v := 1) hx hb dX10_readSaid_85 (by decide) ?_
          refine lv_iadd hx hb dX10_readSaid_86 (lv_topi (fun v_5 e_v_5 => ?_))
          obtain ⟨t_v_5, r_v_5⟩ := tq_add (lo := 5) (hi := 5) r_z0_47 rl_1 (by decide +kernel) e_v_5
          have t_v_5 : v_5.toInt = z0_47.toInt + 1 := t_v_5
          refine tg_put (ci := 10) (ts := ty_MODEL) (v := .int v_5) (ty := .int) (C := RX10) (T := TX10) (N := 49) hx hb hts inX10 tyX10 tyX10_ok nmX10 hown hK hw h_p0 rfl rfl 47 (by decide) (hts _ tw_1184) (fun _ h9 => h9) rfl (by decide +kernel) rfl rfl (ft := vI (-2147483648) 2147483647) rfl ⟨_, rfl, (r_v_5.to (by decide))⟩ (by decide) dX10_readSaid_87 (fun ws H locs hw n_k_6 hF9 => ?_)
          have hn9 := FLD.over hF9 hn9 (by decide)
          have n_k_4 := FLD.over hF9 n_k_4 (by decide)
          have x_SNI_p0_gd_1_gh_1_gg := SNI.over hF9 x_SNI_p0_gd_1_gh_1_gg (by decide)
          refine lv_aload_n hx hb dX10_readSaid_90 rfl (lv_at hl 0 rfl) ?_
          refine tk_v (va_runV (As := []) (rest := []) ⟨hx, hb, hml, hown, hts⟩ (c_X10_go l D cy z H.size Ps ws hw.1 p0 h_p0) (cwV 0 hts (gV tw_1298 tw_1300 ts_40 tw_15 tw_1301) rfl rfl rfl (by decide +kernel) ⟨Nat.le_of_ble_eq_true rfl, Nat.le_of_ble_eq_true rfl⟩) (tg_preV hw hK hSD hA (ci := 10) (q := (RX10, TX10, 49)) rfl h_p0 rfl) rfl rfl hl.1 rfl (lv_room (Nat.le_of_ble_eq_true rfl)) dX10_readSaid_91 ⟨Nat.le_of_ble_eq_true rfl, Nat.le_of_ble_eq_true rfl⟩) hw hA ⟨by decide, by decide⟩ (fun ws H locs hp_v_7 hw hF9 => ?_)
          have hn9 := FLD.over hF9 hn9 (by decide)
          have n_k_4 := FLD.over hF9 n_k_4 (by decide)
          have n_k_6 := FLD.over hF9 n_k_6 (by decide)
          have x_SNI_p0_gd_1_gh_1_gg := SNI.over hF9 x_SNI_p0_gd_1_gh_1_gg (by decide)
          refine lv_iconst (v := 1) hx hb dX10_readSaid_94 (by decide) ?_
          refine lv_istore_n (lv' := [(3, .int 1), (0, .ref p0), (1, .int x1), (2, .int x2)]) hx hb dX10_readSaid_95 rfl hl (by decide) rfl (fun ls hl => ?_)
          refine lv_iload_n hx hb dX10_readSaid_96 rfl (lv_at hl 2 rfl) ?_
          refine lv_if_eq (tgt := 108) hx hb dX10_readSaid_97 (by decide) (fun c_97 => ?_) (fun c_97 => ?_)
          · have r_x1 : RI x1 1 0 := rc_eq1 r_x1 rl_0 (ti_eq c_97) (by decide)
            exact (r_x1.no (by decide)).elim
          · refine lv_aload_n hx hb dX10_readSaid_100 rfl (lv_at hl 1 rfl) ?_
            refine tk_i (va_runV (As := []) (rest := []) ⟨hx, hb, hml, hown, hts⟩ (c_X10_readBracket__4 l D cy z H.size Ps ws hw.1 p0 v_5 (gd+1) (gh+1) (gg) h_p0 r_v_5 n_k_6 x_SNI_p0_gd_1_gh_1_gg) (cwV 0 hts (gV tw_1763 tw_1765 ts_114 tw_15 tw_1766) rfl rfl rfl (by decide +kernel) ⟨Nat.le_of_ble_eq_true rfl, Nat.le_of_ble_eq_true rfl⟩) (tg_preV hw hK hSD hA (ci := 10) (q := (RX10, TX10, 49)) rfl h_p0 rfl) rfl rfl hl.1 rfl (lv_room (Nat.le_of_ble_eq_true rfl)) dX10_readSaid_101 ⟨Nat.le_of_ble_eq_true rfl, Nat.le_of_ble_eq_true rfl⟩) hw hA ⟨by decide, by decide⟩ (fun v_8 ws H locs hp_v_8 hw hF9 => ?_)
            have r_v_8 : RI v_8 0 1 := hp_v_8.1
            by_cases c9_v_8 : v_8 = 0
            · have r_v_8 : RI v_8 0 0 := by rw [c9_v_8]; exact rl_0
              obtain ⟨v_9, m_v_9, r_v_9⟩ := ((hp_v_8.2.1 c9_v_8).1)
              refine lv_istore_n (lv' := [(3, .int v_8), (0, .ref p0), (1, .int x1), (2, .int x2)]) hx hb dX10_readSaid_104 rfl hl (by decide) rfl (fun ls hl => ?_)
              refine lv_goto (tgt := 166) hx hb dX10_readSaid_105 (by decide) ?_
              refine lv_aload_n hx hb dX10_readSaid_166 rfl (lv_at hl 1 rfl) ?_
              refine lv_dup hx hb dX10_readSaid_167 rfl ?_
              refine tg_mem (ci := 10) (C := RX10) (T := TX10) (N := 49) hx hb hts inX10 hown hK hw 47 m_v_9 rfl (by decide) (hts _ tw_1184) (fun _ h9 => h9) dX10_readSaid_168 ?_
              refine lv_iconst (v := 1) hx hb dX10_readSaid_171 (by decide) ?_
              refine lv_isub hx hb dX10_readSaid_172 (lv_topi (fun v_10 e_v_10 => ?_))
              obtain ⟨t_v_10, r_v_10⟩ := tq_sub (lo := 4) (hi := 4) r_v_9 rl_1 (by decide +kernel) e_v_10
              have t_v_10 : v_10.toInt = v_9.toInt - 1 := t_v_10
              refine tg_put (ci := 10) (ts := ty_MODEL) (v := .int v_10) (ty := .int) (C := RX10) (T := TX10) (N := 49) hx hb hts inX10 tyX10 tyX10_ok nmX10 hown hK hw h_p0 rfl rfl 47 (by decide) (hts _ tw_1184) (fun _ h9 => h9) rfl (by decide +kernel) rfl rfl (ft := vI (-2147483648) 2147483647) rfl ⟨_, rfl, (r_v_10.to (by decide))⟩ (by decide) dX10_readSaid_173 (fun ws H locs hw n_k_11 hF9 => ?_)
              refine lv_iload_n hx hb dX10_readSaid_176 rfl (lv_at hl 0 rfl) ?_
              subst hQ
              exact W.zret (v := v_8) hx hb hr (tq_nz (r_v_8.to (by decide))) (fun t ht hW => ⟨⟨v_8, ws, rfl, ⟨⟨r_v_8.to (by decide), (fun h0 => ⟨⟨_, n_k_11, r_v_10⟩, trivial⟩), (fun h0 => absurd (Int32.toInt_inj.mp (by have h8 := r_v_8; unfold RI at h8; rw [Int32.toInt_zero]; omega)) h0)⟩, hw.1, hw.2.2.2.2.1⟩, by rw [ht]; exact hw.2.1, va_K.moved hW.alike hK, hw.2.2.1⟩, hw.2.2.2.1.F ht⟩) hw.2.2.2.1.2.2 dX10_readSaid_177
            · have r_v_8 : RI v_8 1 1 := rc_neL r_v_8 rl_0 (ti_ne c9_v_8) (by decide)
              obtain ⟨v_12, m_v_12, r_v_12⟩ := ((hp_v_8.2.2 c9_v_8).1)
              obtain ⟨v_13, m_v_13, r_v_13⟩ := ((hp_v_8.2.2 c9_v_8).2.1)
              obtain ⟨v_14, m_v_14, r_v_14⟩ := ((hp_v_8.2.2 c9_v_8).2.2.1)
              have x_SNT_p0_gd_1_gh_1_gg := ((hp_v_8.2.2 c9_v_8).2.2.2.1)
              refine lv_istore_n (lv' := [(3, .int v_8), (0, .ref p0), (1, .int x1), (2, .int x2)]) hx hb dX10_readSaid_104 rfl hl (by decide) rfl (fun ls hl => ?_)
              refine lv_goto (tgt := 166) hx hb dX10_readSaid_105 (by decide) ?_
              refine lv_aload_n hx hb dX10_readSaid_166 rfl (lv_at hl 1 rfl) ?_
              refine lv_dup hx hb dX10_readSaid_167 rfl ?_
              refine tg_mem (ci := 10) (C := RX10) (T := TX10) (N := 49) hx hb hts inX10 hown hK hw 47 m_v_13 rfl (by decide) (hts _ tw_1184) (fun _ h9 => h9) dX10_readSaid_168 ?_
              refine lv_iconst (v := 1) hx hb dX10_readSaid_171 (by decide) ?_
              refine lv_isub hx hb dX10_readSaid_172 (lv_topi (fun v_15 e_v_15 => ?_))
              obtain ⟨t_v_15, r_v_15⟩ := tq_sub (lo := 4) (hi := 4) r_v_13 rl_1 (by decide +kernel) e_v_15
              have t_v_15 : v_15.toInt = v_13.toInt - 1 := t_v_15
              refine tg_put (ci := 10) (ts := ty_MODEL) (v := .int v_15) (ty := .int) (C := RX10) (T := TX10) (N := 49) hx hb hts inX10 tyX10 tyX10_ok nmX10 hown hK hw h_p0 rfl rfl 47 (by decide) (hts _ tw_1184) (fun _ h9 => h9) rfl (by decide +kernel) rfl rfl (ft := vI (-2147483648) 2147483647) rfl ⟨_, rfl, (r_v_15.to (by decide))⟩ (by decide) dX10_readSaid_173 (fun ws H locs hw n_k_16 hF9 => ?_)
              have m_v_12 := FLD.over hF9 m_v_12 (by decide)
              have m_v_14 := FLD.over hF9 m_v_14 (by decide)
              have x_SNT_p0_gd_1_gh_1_gg := SNT.over hF9 x_SNT_p0_gd_1_gh_1_gg (by decide)
              refine lv_iload_n hx hb dX10_readSaid_176 rfl (lv_at hl 0 rfl) ?_
              subst hQ
              exact W.zret (v := v_8) hx hb hr (tq_nz (r_v_8.to (by decide))) (fun t ht hW => ⟨⟨v_8, ws, rfl, ⟨⟨r_v_8.to (by decide), (fun h0 => absurd (ti_eq h0) (by have h8 := r_v_8; unfold RI at h8; rw [Int32.toInt_zero]; omega)), (fun h0 => ⟨⟨_, m_v_12, r_v_12⟩, ⟨_, m_v_14, r_v_14⟩, ⟨_, n_k_16, r_v_15⟩, x_SNT_p0_gd_1_gh_1_gg, trivial⟩)⟩, hw.1, hw.2.2.2.2.1⟩, by rw [ht]; exact hw.2.1, va_K.moved hW.alike hK, hw.2.2.1⟩, hw.2.2.2.1.F ht⟩) hw.2.2.2.1.2.2 dX10_readSaid_177
        · have r_z0_47 : RI z0_47 8 4 := rc_eq1 r_z0_47 rl_8 (ti_eq c_61) (by decide)
          exact (r_z0_47.no (by decide)).elim
    · have r_x1 : RI x1 0 0 := rc_eq1 r_x1 rl_0 (ti_eq c_31) (by decide)
      refine lv_iload_n hx hb dX10_readSaid_34 rfl (lv_at hl 2 rfl) ?_
      refine lv_bipush (v := 27) hx hb dX10_readSaid_35 (by decide) ?_
      refine lv_icmp_le (tgt := 46) hx hb dX10_readSaid_37 (by decide) (fun c_37 => ?_) (fun c_37 => ?_)
      · have r_x2 : RI x2 18 27 := rc_le1 r_x2 rl_27 (ti_le c_37) (by decide)
        refine lv_aload_n hx hb dX10_readSaid_46 rfl (lv_at hl 0 rfl) ?_
        refine tg_get (ci := 10) (ts := ty_MODEL) (C := RX10) (T := TX10) (N := 49) hx hb hts inX10 hown hK hw h_p0 rfl rfl 46 (by decide) (hts _ tw_1183) (fun _ h9 => h9) (ft := vI (-2147483648) 2147483647) rfl dX10_readSaid_47 (fun u_17 hv_u_17 m_u_17 => ?_)
        obtain ⟨vu_17, rfl, r_vu_17⟩ := hv_u_17
        obtain ⟨n9, hn9, rn9, r_vu_17, b9⟩ := SNp.getO hw x_SN_p0_gd_gh_gg m_u_17
        refine lv_bipush (v := 20) hx hb dX10_readSaid_50 (by decide) ?_
        refine lv_icmp_eq (tgt := 64) hx hb dX10_readSaid_52 (by decide) (fun c_52 => ?_) (fun c_52 => ?_)
        · have r_vu_17 : RI vu_17 20 20 := rc_eq1 r_vu_17 rl_20 (ti_eq c_52) (by decide)
          refine lv_aload_n hx hb dX10_readSaid_64 rfl (lv_at hl 0 rfl) ?_
          refine lv_iconst (v := 4) hx hb dX10_readSaid_65 (by decide) ?_
          refine tk_i (va_runV (As := [.int 4]) (rest := []) ⟨hx, hb, hml, hown, hts⟩ (c_X10_bad l D cy z H.size Ps ws hw.1 p0 4 h_p0 (rl_4.to (by decide))) (cwV 1 hts (gV tw_1336 tw_1338 ts_46 tw_15 tw_1339) rfl rfl rfl (by decide +kernel) ⟨Nat.le_of_ble_eq_true rfl, Nat.le_of_ble_eq_true rfl⟩) (tg_preV hw hK hSD hA (ci := 10) (q := (RX10, TX10, 49)) rfl h_p0 rfl) rfl rfl hl.1 rfl (lv_room (Nat.le_of_ble_eq_true rfl)) dX10_readSaid_66 ⟨Nat.le_of_ble_eq_true rfl, Nat.le_of_ble_eq_true rfl⟩) hw hA ⟨by decide, by decide⟩ (fun v_18 ws H locs hp_v_18 hw hF9 => ?_)
          have m_z0_47 := FLD.over hF9 m_z0_47 (by decide)
          have m_u_17 := FLD.over hF9 m_u_17 (by decide)
          have hn9 := FLD.over hF9 hn9 (by decide)
          have x_SN_p0_gd_gh_gg := SNp.over hF9 x_SN_p0_gd_gh_gg (by decide)
          have r_v_18 : RI v_18 0 0 := hp_v_18.1
          subst hQ
          exact W.zret (v := v_18) hx hb hr (tq_nz (r_v_18.to (by decide))) (fun t ht hW => ⟨⟨v_18, ws, rfl, ⟨⟨r_v_18.to (by decide), (fun h0 => ⟨⟨_, m_z0_47, r_z0_47⟩, trivial⟩), (fun h0 => absurd (Int32.toInt_inj.mp (by have h8 := r_v_18; unfold RI at h8; rw [Int32.toInt_zero]; omega)) h0)⟩, hw.1, hw.2.2.2.2.1⟩, by rw [ht]; exact hw.2.1, va_K.moved hW.alike hK, hw.2.2.1⟩, hw.2.2.2.1.F ht⟩) hw.2.2.2.1.2.2 dX10_readSaid_69
        · have r_vu_17 : RI vu_17 0 19 := rc_neU r_vu_17 rl_20 (ti_ne c_52) (by decide)
          refine lv_aload_n hx hb dX10_readSaid_55 rfl (lv_at hl 0 rfl) ?_
          refine tg_mem (ci := 10) (C := RX10) (T := TX10) (N := 49) hx hb hts inX10 hown hK hw 47 m_z0_47 rfl (by decide) (hts _ tw_1184) (fun _ h9 => h9) dX10_readSaid_56 ?_
          refine lv_bipush (v := 8) hx hb dX10_readSaid_59 (by decide) ?_
          refine lv_icmp_ne (tgt := 70) hx hb dX10_readSaid_61 (by decide) (fun c_61 => ?_) (fun c_61 => ?_)
          · refine lv_aload_n hx hb dX10_readSaid_70 rfl (lv_at hl 0 rfl) ?_
            refine lv_dup hx hb dX10_readSaid_71 rfl ?_
            refine tg_mem (ci := 10) (C := RX10) (T := TX10) (N := 49) hx hb hts inX10 hown hK hw 46 m_u_17 rfl (by decide) (hts _ tw_1183) (fun _ h9 => h9) dX10_readSaid_72 ?_
            refine lv_iconst (v := 1) hx hb dX10_readSaid_75 (by decide) ?_
            refine lv_iadd hx hb dX10_readSaid_76 (lv_topi (fun v_19 e_v_19 => ?_))
            obtain ⟨t_v_19, r_v_19⟩ := tq_add (lo := 1) (hi := 20) r_vu_17 rl_1 (by decide +kernel) e_v_19
            have t_v_19 : v_19.toInt = vu_17.toInt + 1 := t_v_19
            refine tg_put (ci := 10) (ts := ty_MODEL) (v := .int v_19) (ty := .int) (C := RX10) (T := TX10) (N := 49) hx hb hts inX10 tyX10 tyX10_ok nmX10 hown hK hw h_p0 rfl rfl 46 (by decide) (hts _ tw_1183) (fun _ h9 => h9) rfl (by decide +kernel) rfl rfl (ft := vI (-2147483648) 2147483647) rfl ⟨_, rfl, (r_v_19.to (by decide))⟩ (by decide) dX10_readSaid_77 (fun ws H locs hw n_k_20 hF9 => ?_)
            have m_z0_47 := FLD.over hF9 m_z0_47 (by decide)
            have hn9 := FLD.over hF9 hn9 (by decide)
            have x_SNI_p0_gd_1_gh_1_gg : SNI ws p0 (gd+1) (gh+1) (gg) := ⟨by omega, _, _, hn9, n_k_20, by have k1 := rn9.1; have k2 := r_v_19.2; omega⟩
            refine lv_aload_n hx hb dX10_readSaid_80 rfl (lv_at hl 0 rfl) ?_
            refine lv_dup hx hb dX10_readSaid_81 rfl ?_
            refine tg_mem (ci := 10) (C := RX10) (T := TX10) (N := 49) hx hb hts inX10 hown hK hw 47 m_z0_47 rfl (by decide) (hts _ tw_1184) (fun _ h9 => h9) dX10_readSaid_82 ?_
            refine lv_iconst (v := 1) hx hb dX10_readSaid_85 (by decide) ?_
            refine lv_iadd hx hb dX10_readSaid_86 (lv_topi (fun v_21 e_v_21 => ?_))
            obtain ⟨t_v_21, r_v_21⟩ := tq_add (lo := 5) (hi := 5) r_z0_47 rl_1 (by decide +kernel) e_v_21
            have t_v_21 : v_21.toInt = z0_47.toInt + 1 := t_v_21
            refine tg_put (ci := 10) (ts := ty_MODEL) (v := .int v_21) (ty := .int) (C := RX10) (T := TX10) (N := 49) hx hb hts inX10 tyX10 tyX10_ok nmX10 hown hK hw h_p0 rfl rfl 47 (by decide) (hts _ tw_1184) (fun _ h9 => h9) rfl (by decide +kernel) rfl rfl (ft := vI (-2147483648) 2147483647) rfl ⟨_, rfl, (r_v_21.to (by decide))⟩ (by decide) dX10_readSaid_87 (fun ws H locs hw n_k_22 hF9 => ?_)
            have hn9 := FLD.over hF9 hn9 (by decide)
            have n_k_20 := FLD.over hF9 n_k_20 (by decide)
            have x_SNI_p0_gd_1_gh_1_gg := SNI.over hF9 x_SNI_p0_gd_1_gh_1_gg (by decide)
            refine lv_aload_n hx hb dX10_readSaid_90 rfl (lv_at hl 0 rfl) ?_
            refine tk_v (va_runV (As := []) (rest := []) ⟨hx, hb, hml, hown, hts⟩ (c_X10_go l D cy z H.size Ps ws hw.1 p0 h_p0) (cwV 0 hts (gV tw_1298 tw_1300 ts_40 tw_15 tw_1301) rfl rfl rfl (by decide +kernel) ⟨Nat.le_of_ble_eq_true rfl, Nat.le_of_ble_eq_true rfl⟩) (tg_preV hw hK hSD hA (ci := 10) (q := (RX10, TX10, 49)) rfl h_p0 rfl) rfl rfl hl.1 rfl (lv_room (Nat.le_of_ble_eq_true rfl)) dX10_readSaid_91 ⟨Nat.le_of_ble_eq_true rfl, Nat.le_of_ble_eq_true rfl⟩) hw hA ⟨by decide, by decide⟩ (fun ws H locs hp_v_23 hw hF9 => ?_)
            have hn9 := FLD.over hF9 hn9 (by decide)
            have n_k_20 := FLD.over hF9 n_k_20 (by decide)
            have n_k_22 := FLD.over hF9 n_k_22 (by decide)
            have x_SNI_p0_gd_1_gh_1_gg := SNI.over hF9 x_SNI_p0_gd_1_gh_1_gg (by decide)
            refine lv_iconst (v := 1) hx hb dX10_readSaid_94 (by decide) ?_
            refine lv_istore_n (lv' := [(3, .int 1), (0, .ref p0), (1, .int x1), (2, .int x2)]) hx hb dX10_readSaid_95 rfl hl (by decide) rfl (fun ls hl => ?_)
            refine lv_iload_n hx hb dX10_readSaid_96 rfl (lv_at hl 2 rfl) ?_
            refine lv_if_eq (tgt := 108) hx hb dX10_readSaid_97 (by decide) (fun c_97 => ?_) (fun c_97 => ?_)
            · refine lv_iload_n hx hb dX10_readSaid_108 rfl (lv_at hl 3 rfl) ?_
              refine lv_bipush (v := 18) hx hb dX10_readSaid_109 (by decide) ?_
              refine lv_icmp_ne (tgt := 122) hx hb dX10_readSaid_111 (by decide) (fun c_111 => ?_) (fun c_111 => ?_)
              · have r_x2 : RI x2 19 27 := rc_neL r_x2 rl_18 (ti_ne c_111) (by decide)
                refine lv_iload_n hx hb dX10_readSaid_122 rfl (lv_at hl 3 rfl) ?_
                refine lv_bipush (v := 22) hx hb dX10_readSaid_123 (by decide) ?_
                refine lv_icmp_ge (tgt := 146) hx hb dX10_readSaid_125 (by decide) (fun c_125 => ?_) (fun c_125 => ?_)
                · have r_x2 : RI x2 22 27 := rc_le2 rl_22 r_x2 (ti_le c_125) (by decide)
                  refine lv_iload_n hx hb dX10_readSaid_146 rfl (lv_at hl 3 rfl) ?_
                  refine lv_bipush (v := 24) hx hb dX10_readSaid_147 (by decide) ?_
                  refine lv_icmp_ge (tgt := 160) hx hb dX10_readSaid_149 (by decide) (fun c_149 => ?_) (fun c_149 => ?_)
                  · have r_x2 : RI x2 24 27 := rc_le2 rl_24 r_x2 (ti_le c_149) (by decide)
                    refine lv_aload_n hx hb dX10_readSaid_160 rfl (lv_at hl 1 rfl) ?_
                    refine lv_iload_n hx hb dX10_readSaid_161 rfl (lv_at hl 3 rfl) ?_
                    refine tk_i (va_runV (As := [.int x2]) (rest := []) ⟨hx, hb, hml, hown, hts⟩ (c_X10_readCompare l D cy z H.size Ps ws hw.1 p0 x2 (gd+1) (gh+1) (gg) h_p0 r_x2 x_SNI_p0_gd_1_gh_1_gg) (cwV 1 hts (gV tw_1779 tw_1781 ts_118 tw_15 tw_1782) rfl rfl rfl (by decide +kernel) ⟨Nat.le_of_ble_eq_true rfl, Nat.le_of_ble_eq_true rfl⟩) (tg_preV hw hK hSD hA (ci := 10) (q := (RX10, TX10, 49)) rfl h_p0 rfl) rfl rfl hl.1 rfl (lv_room (Nat.le_of_ble_eq_true rfl)) dX10_readSaid_162 ⟨Nat.le_of_ble_eq_true rfl, Nat.le_of_ble_eq_true rfl⟩) hw hA ⟨by decide, by decide⟩ (fun v_24 ws H locs hp_v_24 hw hF9 => ?_)
                    have n_k_20 := FLD.over hF9 n_k_20 (by decide)
                    have n_k_22 := FLD.over hF9 n_k_22 (by decide)
                    have r_v_24 : RI v_24 0 1 := hp_v_24.1
                    by_cases c9_v_24 : v_24 = 0
                    · have r_v_24 : RI v_24 0 0 := by rw [c9_v_24]; exact rl_0
                      refine lv_istore_n (lv' := [(3, .int v_24), (0, .ref p0), (1, .int x1), (2, .int x2)]) hx hb dX10_readSaid_165 rfl hl (by decide) rfl (fun ls hl => ?_)
                      refine lv_aload_n hx hb dX10_readSaid_166 rfl (lv_at hl 1 rfl) ?_
                      refine lv_dup hx hb dX10_readSaid_167 rfl ?_
                      refine tg_mem (ci := 10) (C := RX10) (T := TX10) (N := 49) hx hb hts inX10 hown hK hw 47 n_k_22 rfl (by decide) (hts _ tw_1184) (fun _ h9 => h9) dX10_readSaid_168 ?_
                      refine lv_iconst (v := 1) hx hb dX10_readSaid_171 (by decide) ?_
                      refine lv_isub hx hb dX10_readSaid_172 (lv_topi (fun v_25 e_v_25 => ?_))
                      obtain ⟨t_v_25, r_v_25⟩ := tq_sub (lo := 4) (hi := 4) r_v_21 rl_1 (by decide +kernel) e_v_25
                      have t_v_25 : v_25.toInt = v_21.toInt - 1 := t_v_25
                      refine tg_put (ci := 10) (ts := ty_MODEL) (v := .int v_25) (ty := .int) (C := RX10) (T := TX10) (N := 49) hx hb hts inX10 tyX10 tyX10_ok nmX10 hown hK hw h_p0 rfl rfl 47 (by decide) (hts _ tw_1184) (fun _ h9 => h9) rfl (by decide +kernel) rfl rfl (ft := vI (-2147483648) 2147483647) rfl ⟨_, rfl, (r_v_25.to (by decide))⟩ (by decide) dX10_readSaid_173 (fun ws H locs hw n_k_26 hF9 => ?_)
                      have n_k_20 := FLD.over hF9 n_k_20 (by decide)
                      refine lv_iload_n hx hb dX10_readSaid_176 rfl (lv_at hl 0 rfl) ?_
                      subst hQ
                      exact W.zret (v := v_24) hx hb hr (tq_nz (r_v_24.to (by decide))) (fun t ht hW => ⟨⟨v_24, ws, rfl, ⟨⟨r_v_24.to (by decide), (fun h0 => ⟨⟨_, n_k_26, r_v_25⟩, trivial⟩), (fun h0 => absurd (Int32.toInt_inj.mp (by have h8 := r_v_24; unfold RI at h8; rw [Int32.toInt_zero]; omega)) h0)⟩, hw.1, hw.2.2.2.2.1⟩, by rw [ht]; exact hw.2.1, va_K.moved hW.alike hK, hw.2.2.1⟩, hw.2.2.2.1.F ht⟩) hw.2.2.2.1.2.2 dX10_readSaid_177
                    · have r_v_24 : RI v_24 1 1 := rc_neL r_v_24 rl_0 (ti_ne c9_v_24) (by decide)
                      obtain ⟨v_27, m_v_27, r_v_27⟩ := ((hp_v_24.2.2 c9_v_24).1)
                      obtain ⟨v_28, m_v_28, r_v_28⟩ := ((hp_v_24.2.2 c9_v_24).2.1)
                      have x_SNT_p0_gd_1_gh_1_gg := ((hp_v_24.2.2 c9_v_24).2.2.1)
                      refine lv_istore_n (lv' := [(3, .int v_24), (0, .ref p0), (1, .int x1), (2, .int x2)]) hx hb dX10_readSaid_165 rfl hl (by decide) rfl (fun ls hl => ?_)
                      refine lv_aload_n hx hb dX10_readSaid_166 rfl (lv_at hl 1 rfl) ?_
                      refine lv_dup hx hb dX10_readSaid_167 rfl ?_
                      refine tg_mem (ci := 10) (C := RX10) (T := TX10) (N := 49) hx hb hts inX10 hown hK hw 47 n_k_22 rfl (by decide) (hts _ tw_1184) (fun _ h9 => h9) dX10_readSaid_168 ?_
                      refine lv_iconst (v := 1) hx hb dX10_readSaid_171 (by decide) ?_
                      refine lv_isub hx hb dX10_readSaid_172 (lv_topi (fun v_29 e_v_29 => ?_))
                      obtain ⟨t_v_29, r_v_29⟩ := tq_sub (lo := 4) (hi := 4) r_v_21 rl_1 (by decide +kernel) e_v_29
                      have t_v_29 : v_29.toInt = v_21.toInt - 1 := t_v_29
                      refine tg_put (ci := 10) (ts := ty_MODEL) (v := .int v_29) (ty := .int) (C := RX10) (T := TX10) (N := 49) hx hb hts inX10 tyX10 tyX10_ok nmX10 hown hK hw h_p0 rfl rfl 47 (by decide) (hts _ tw_1184) (fun _ h9 => h9) rfl (by decide +kernel) rfl rfl (ft := vI (-2147483648) 2147483647) rfl ⟨_, rfl, (r_v_29.to (by decide))⟩ (by decide) dX10_readSaid_173 (fun ws H locs hw n_k_30 hF9 => ?_)
                      have n_k_20 := FLD.over hF9 n_k_20 (by decide)
                      have m_v_27 := FLD.over hF9 m_v_27 (by decide)
                      have m_v_28 := FLD.over hF9 m_v_28 (by decide)
                      have x_SNT_p0_gd_1_gh_1_gg := SNT.over hF9 x_SNT_p0_gd_1_gh_1_gg (by decide)
                      refine lv_iload_n hx hb dX10_readSaid_176 rfl (lv_at hl 0 rfl) ?_
                      subst hQ
                      exact W.zret (v := v_24) hx hb hr (tq_nz (r_v_24.to (by decide))) (fun t ht hW => ⟨⟨v_24, ws, rfl, ⟨⟨r_v_24.to (by decide), (fun h0 => absurd (ti_eq h0) (by have h8 := r_v_24; unfold RI at h8; rw [Int32.toInt_zero]; omega)), (fun h0 => ⟨⟨_, n_k_20, r_v_19⟩, ⟨_, m_v_28, r_v_28⟩, ⟨_, n_k_30, r_v_29⟩, x_SNT_p0_gd_1_gh_1_gg, trivial⟩)⟩, hw.1, hw.2.2.2.2.1⟩, by rw [ht]; exact hw.2.1, va_K.moved hW.alike hK, hw.2.2.1⟩, hw.2.2.2.1.F ht⟩) hw.2.2.2.1.2.2 dX10_readSaid_177
                  · have r_x2 : RI x2 22 23 := rc_lt1 r_x2 rl_24 (ti_nle c_149) (by decide)
                    refine lv_aload_n hx hb dX10_readSaid_152 rfl (lv_at hl 1 rfl) ?_
                    refine lv_iload_n hx hb dX10_readSaid_153 rfl (lv_at hl 3 rfl) ?_
                    refine tk_i (va_runV (As := [.int x2]) (rest := []) ⟨hx, hb, hml, hown, hts⟩ (c_X10_readOf l D cy z H.size Ps ws hw.1 p0 x2 (gd+1) (gh+1) (gg) h_p0 r_x2 x_SNI_p0_gd_1_gh_1_gg) (cwV 1 hts (gV tw_1775 tw_1777 ts_117 tw_15 tw_1778) rfl rfl rfl (by decide +kernel) ⟨Nat.le_of_ble_eq_true rfl, Nat.le_of_ble_eq_true rfl⟩) (tg_preV hw hK hSD hA (ci := 10) (q := (RX10, TX10, 49)) rfl h_p0 rfl) rfl rfl hl.1 rfl (lv_room (Nat.le_of_ble_eq_true rfl)) dX10_readSaid_154 ⟨Nat.le_of_ble_eq_true rfl, Nat.le_of_ble_eq_true rfl⟩) hw hA ⟨by decide, by decide⟩ (fun v_31 ws H locs hp_v_31 hw hF9 => ?_)
                    have n_k_20 := FLD.over hF9 n_k_20 (by decide)
                    have n_k_22 := FLD.over hF9 n_k_22 (by decide)
                    have r_v_31 : RI v_31 0 1 := hp_v_31.1
                    by_cases c9_v_31 : v_31 = 0
                    · have r_v_31 : RI v_31 0 0 := by rw [c9_v_31]; exact rl_0
                      refine lv_goto (tgt := 165) hx hb dX10_readSaid_157 (by decide) ?_
                      refine lv_istore_n (lv' := [(3, .int v_31), (0, .ref p0), (1, .int x1), (2, .int x2)]) hx hb dX10_readSaid_165 rfl hl (by decide) rfl (fun ls hl => ?_)
                      refine lv_aload_n hx hb dX10_readSaid_166 rfl (lv_at hl 1 rfl) ?_
                      refine lv_dup hx hb dX10_readSaid_167 rfl ?_
                      refine tg_mem (ci := 10) (C := RX10) (T := TX10) (N := 49) hx hb hts inX10 hown hK hw 47 n_k_22 rfl (by decide) (hts _ tw_1184) (fun _ h9 => h9) dX10_readSaid_168 ?_
                      refine lv_iconst (v := 1) hx hb dX10_readSaid_171 (by decide) ?_
                      refine lv_isub hx hb dX10_readSaid_172 (lv_topi (fun v_32 e_v_32 => ?_))
                      obtain ⟨t_v_32, r_v_32⟩ := tq_sub (lo := 4) (hi := 4) r_v_21 rl_1 (by decide +kernel) e_v_32
                      have t_v_32 : v_32.toInt = v_21.toInt - 1 := t_v_32
                      refine tg_put (ci := 10) (ts := ty_MODEL) (v := .int v_32) (ty := .int) (C := RX10) (T := TX10) (N := 49) hx hb hts inX10 tyX10 tyX10_ok nmX10 hown hK hw h_p0 rfl rfl 47 (by decide) (hts _ tw_1184) (fun _ h9 => h9) rfl (by decide +kernel) rfl rfl (ft := vI (-2147483648) 2147483647) rfl ⟨_, rfl, (r_v_32.to (by decide))⟩ (by decide) dX10_readSaid_173 (fun ws H locs hw n_k_33 hF9 => ?_)
                      have n_k_20 := FLD.over hF9 n_k_20 (by decide)
                      refine lv_iload_n hx hb dX10_readSaid_176 rfl (lv_at hl 0 rfl) ?_
                      subst hQ
                      exact W.zret (v := v_31) hx hb hr (tq_nz (r_v_31.to (by decide))) (fun t ht hW => ⟨⟨v_31, ws, rfl, ⟨⟨r_v_31.to (by decide), (fun h0 => ⟨⟨_, n_k_33, r_v_32⟩, trivial⟩), (fun h0 => absurd (Int32.toInt_inj.mp (by have h8 := r_v_31; unfold RI at h8; rw [Int32.toInt_zero]; omega)) h0)⟩, hw.1, hw.2.2.2.2.1⟩, by rw [ht]; exact hw.2.1, va_K.moved hW.alike hK, hw.2.2.1⟩, hw.2.2.2.1.F ht⟩) hw.2.2.2.1.2.2 dX10_readSaid_177
                    · have r_v_31 : RI v_31 1 1 := rc_neL r_v_31 rl_0 (ti_ne c9_v_31) (by decide)
                      obtain ⟨v_34, m_v_34, r_v_34⟩ := ((hp_v_31.2.2 c9_v_31).1)
                      obtain ⟨v_35, m_v_35, r_v_35⟩ := ((hp_v_31.2.2 c9_v_31).2.1)
                      have x_SNT_p0_gd_1_gh_1_gg := ((hp_v_31.2.2 c9_v_31).2.2.1)
                      refine lv_goto (tgt := 165) hx hb dX10_readSaid_157 (by decide) ?_
                      refine lv_istore_n (lv' := [(3, .int v_31), (0, .ref p0), (1, .int x1), (2, .int x2)]) hx hb dX10_readSaid_165 rfl hl (by decide) rfl (fun ls hl => ?_)
                      refine lv_aload_n hx hb dX10_readSaid_166 rfl (lv_at hl 1 rfl) ?_
                      refine lv_dup hx hb dX10_readSaid_167 rfl ?_
                      refine tg_mem (ci := 10) (C := RX10) (T := TX10) (N := 49) hx hb hts inX10 hown hK hw 47 n_k_22 rfl (by decide) (hts _ tw_1184) (fun _ h9 => h9) dX10_readSaid_168 ?_
                      refine lv_iconst (v := 1) hx hb dX10_readSaid_171 (by decide) ?_
                      refine lv_isub hx hb dX10_readSaid_172 (lv_topi (fun v_36 e_v_36 => ?_))
                      obtain ⟨t_v_36, r_v_36⟩ := tq_sub (lo := 4) (hi := 4) r_v_21 rl_1 (by decide +kernel) e_v_36
                      have t_v_36 : v_36.toInt = v_21.toInt - 1 := t_v_36
                      refine tg_put (ci := 10) (ts := ty_MODEL) (v := .int v_36) (ty := .int) (C := RX10) (T := TX10) (N := 49) hx hb hts inX10 tyX10 tyX10_ok nmX10 hown hK hw h_p0 rfl rfl 47 (by decide) (hts _ tw_1184) (fun _ h9 => h9) rfl (by decide +kernel) rfl rfl (ft := vI (-2147483648) 2147483647) rfl ⟨_, rfl, (r_v_36.to (by decide))⟩ (by decide) dX10_readSaid_173 (fun ws H locs hw n_k_37 hF9 => ?_)
                      have n_k_20 := FLD.over hF9 n_k_20 (by decide)
                      have m_v_34 := FLD.over hF9 m_v_34 (by decide)
                      have m_v_35 := FLD.over hF9 m_v_35 (by decide)
                      have x_SNT_p0_gd_1_gh_1_gg := SNT.over hF9 x_SNT_p0_gd_1_gh_1_gg (by decide)
                      refine lv_iload_n hx hb dX10_readSaid_176 rfl (lv_at hl 0 rfl) ?_
                      subst hQ
                      exact W.zret (v := v_31) hx hb hr (tq_nz (r_v_31.to (by decide))) (fun t ht hW => ⟨⟨v_31, ws, rfl, ⟨⟨r_v_31.to (by decide), (fun h0 => absurd (ti_eq h0) (by have h8 := r_v_31; unfold RI at h8; rw [Int32.toInt_zero]; omega)), (fun h0 => ⟨⟨_, n_k_20, r_v_19⟩, ⟨_, m_v_35, r_v_35⟩, ⟨_, n_k_37, r_v_36⟩, x_SNT_p0_gd_1_gh_1_gg, trivial⟩)⟩, hw.1, hw.2.2.2.2.1⟩, by rw [ht]; exact hw.2.1, va_K.moved hW.alike hK, hw.2.2.1⟩, hw.2.2.2.1.F ht⟩) hw.2.2.2.1.2.2 dX10_readSaid_177
                · have r_x2 : RI x2 19 21 := rc_lt1 r_x2 rl_22 (ti_nle c_125) (by decide)
                  refine lv_aload_n hx hb dX10_readSaid_128 rfl (lv_at hl 1 rfl) ?_
                  refine lv_aload_n hx hb dX10_readSaid_129 rfl (lv_at hl 1 rfl) ?_
                  refine lv_bipush (v := 50) hx hb dX10_readSaid_130 (by decide) ?_
                  refine lv_iload_n hx hb dX10_readSaid_132 rfl (lv_at hl 3 rfl) ?_
                  refine lv_iadd hx hb dX10_readSaid_133 (lv_topi (fun v_38 e_v_38 => ?_))
                  obtain ⟨t_v_38, r_v_38⟩ := tq_add (lo := 69) (hi := 71) rl_50 r_x2 (by decide +kernel) e_v_38
                  have t_v_38 : v_38.toInt = 50 + x2.toInt := t_v_38
                  refine lv_iconst (v := 0) hx hb dX10_readSaid_134 (by decide) ?_
                  refine lv_iconst (v := 0) hx hb dX10_readSaid_135 (by decide) ?_
                  refine lv_iconst (v := 0) hx hb dX10_readSaid_136 (by decide) ?_
                  refine tk_i (va_runV (As := [.int v_38, .int 0, .int 0, .int 0]) (rest := [.ref p0]) ⟨hx, hb, hml, hown, hts⟩ (c_X10_saysOne l D cy z H.size Ps ws hw.1 p0 v_38 0 0 0 (gd+1) (gh+1) (gg) h_p0 (r_v_38.to (by decide)) (rl_0.to (by decide)) (rl_0.to (by decide)) (rl_0.to (by decide)) x_SNI_p0_gd_1_gh_1_gg) (cwV 4 hts (gV tw_1771 tw_1773 ts_116 tw_15 tw_1774) rfl rfl rfl (by decide +kernel) ⟨Nat.le_of_ble_eq_true rfl, Nat.le_of_ble_eq_true rfl⟩) (tg_preV hw hK hSD hA (ci := 10) (q := (RX10, TX10, 49)) rfl h_p0 rfl) rfl rfl hl.1 rfl (lv_room (Nat.le_of_ble_eq_true rfl)) dX10_readSaid_137 ⟨Nat.le_of_ble_eq_true rfl, Nat.le_of_ble_eq_true rfl⟩) hw hA ⟨by decide, by decide⟩ (fun v_39 ws H locs hp_v_39 hw hF9 => ?_)
                  have n_k_20 := FLD.over hF9 n_k_20 (by decide)
                  have n_k_22 := FLD.over hF9 n_k_22 (by decide)
                  have r_v_39 : RI v_39 0 39 := hp_v_39.1
                  have x_SNL_p0_gd_1_gh_1_gg_v_39 := hp_v_39.2.2.2.1.1
                  refine tg_put (ci := 10) (ts := ty_MODEL) (v := .int v_39) (ty := .int) (C := RX10) (T := TX10) (N := 49) hx hb hts inX10 tyX10 tyX10_ok nmX10 hown hK hw h_p0 rfl rfl 48 (by decide) (hts _ tw_1185) (fun _ h9 => h9) rfl (by decide +kernel) rfl rfl (ft := vI (-2147483648) 2147483647) rfl ⟨_, rfl, (r_v_39.to (by decide))⟩ (by decide) dX10_readSaid_140 (fun ws H locs hw n_k_40 hF9 => ?_)
                  have n_k_20 := FLD.over hF9 n_k_20 (by decide)
                  have n_k_22 := FLD.over hF9 n_k_22 (by decide)
                  have x_SNL_p0_gd_1_gh_1_gg_v_39 := SNL.over hF9 x_SNL_p0_gd_1_gh_1_gg_v_39 (by decide)
                  have x_SNT_p0_gd_1_gh_1_gg : SNT ws p0 (gd+1) (gh+1) (gg) := (x_SNL_p0_gd_1_gh_1_gg_v_39.weak (d' := gd+1) (h' := gh+1) (g' := gg) (by have k1 := x_SNL_p0_gd_1_gh_1_gg_v_39.le; have d_8 := SNp.le x_SN_p0_gd_gh_gg; omega)).snt n_k_40
                  refine lv_goto (tgt := 166) hx hb dX10_readSaid_143 (by decide) ?_
                  refine lv_aload_n hx hb dX10_readSaid_166 rfl (lv_at hl 1 rfl) ?_
                  refine lv_dup hx hb dX10_readSaid_167 rfl ?_
                  refine tg_mem (ci := 10) (C := RX10) (T := TX10) (N := 49) hx hb hts inX10 hown hK hw 47 n_k_22 rfl (by decide) (hts _ tw_1184) (fun _ h9 => h9) dX10_readSaid_168 ?_
                  refine lv_iconst (v := 1) hx hb dX10_readSaid_171 (by decide) ?_
                  refine lv_isub hx hb dX10_readSaid_172 (lv_topi (fun v_41 e_v_41 => ?_))
                  obtain ⟨t_v_41, r_v_41⟩ := tq_sub (lo := 4) (hi := 4) r_v_21 rl_1 (by decide +kernel) e_v_41
                  have t_v_41 : v_41.toInt = v_21.toInt - 1 := t_v_41
                  refine tg_put (ci := 10) (ts := ty_MODEL) (v := .int v_41) (ty := .int) (C := RX10) (T := TX10) (N := 49) hx hb hts inX10 tyX10 tyX10_ok nmX10 hown hK hw h_p0 rfl rfl 47 (by decide) (hts _ tw_1184) (fun _ h9 => h9) rfl (by decide +kernel) rfl rfl (ft := vI (-2147483648) 2147483647) rfl ⟨_, rfl, (r_v_41.to (by decide))⟩ (by decide) dX10_readSaid_173 (fun ws H locs hw n_k_42 hF9 => ?_)
                  have n_k_20 := FLD.over hF9 n_k_20 (by decide)
                  have n_k_40 := FLD.over hF9 n_k_40 (by decide)
                  have x_SNL_p0_gd_1_gh_1_gg_v_39 := SNL.over hF9 x_SNL_p0_gd_1_gh_1_gg_v_39 (by decide)
                  have x_SNT_p0_gd_1_gh_1_gg := SNT.over hF9 x_SNT_p0_gd_1_gh_1_gg (by decide)
                  refine lv_iload_n hx hb dX10_readSaid_176 rfl (lv_at hl 0 rfl) ?_
                  subst hQ
                  exact W.zret (v := 1) hx hb hr (rfl) (fun t ht hW => ⟨⟨1, ws, rfl, ⟨⟨rl_1.to (by decide), (fun h0 => absurd h0 (by decide)), (fun h0 => ⟨⟨_, n_k_20, r_v_19⟩, ⟨_, n_k_40, r_v_39⟩, ⟨_, n_k_42, r_v_41⟩, x_SNT_p0_gd_1_gh_1_gg, trivial⟩)⟩, hw.1, hw.2.2.2.2.1⟩, by rw [ht]; exact hw.2.1, va_K.moved hW.alike hK, hw.2.2.1⟩, hw.2.2.2.1.F ht⟩) hw.2.2.2.1.2.2 dX10_readSaid_177
              · have r_x2 : RI x2 18 18 := rc_eq1 r_x2 rl_18 (ti_eq c_111) (by decide)
                refine lv_aload_n hx hb dX10_readSaid_114 rfl (lv_at hl 1 rfl) ?_
                refine tk_i (va_runV (As := []) (rest := []) ⟨hx, hb, hml, hown, hts⟩ (c_X10_readNot__3 l D cy z H.size Ps ws hw.1 p0 v_21 (gd+1) (gh+1) (gg) h_p0 r_v_21 n_k_22 x_SNI_p0_gd_1_gh_1_gg) (cwV 0 hts (gV tw_1767 tw_1769 ts_115 tw_15 tw_1770) rfl rfl rfl (by decide +kernel) ⟨Nat.le_of_ble_eq_true rfl, Nat.le_of_ble_eq_true rfl⟩) (tg_preV hw hK hSD hA (ci := 10) (q := (RX10, TX10, 49)) rfl h_p0 rfl) rfl rfl hl.1 rfl (lv_room (Nat.le_of_ble_eq_true rfl)) dX10_readSaid_115 ⟨Nat.le_of_ble_eq_true rfl, Nat.le_of_ble_eq_true rfl⟩) hw hA ⟨by decide, by decide⟩ (fun v_43 ws H locs hp_v_43 hw hF9 => ?_)
                have r_v_43 : RI v_43 0 1 := hp_v_43.1
                by_cases c9_v_43 : v_43 = 0
                · have r_v_43 : RI v_43 0 0 := by rw [c9_v_43]; exact rl_0
                  obtain ⟨v_44, m_v_44, r_v_44⟩ := ((hp_v_43.2.1 c9_v_43).1)
                  refine lv_istore_n (lv' := [(3, .int v_43), (0, .ref p0), (1, .int x1), (2, .int x2)]) hx hb dX10_readSaid_118 rfl hl (by decide) rfl (fun ls hl => ?_)
                  refine lv_goto (tgt := 166) hx hb dX10_readSaid_119 (by decide) ?_
                  refine lv_aload_n hx hb dX10_readSaid_166 rfl (lv_at hl 1 rfl) ?_
                  refine lv_dup hx hb dX10_readSaid_167 rfl ?_
                  refine tg_mem (ci := 10) (C := RX10) (T := TX10) (N := 49) hx hb hts inX10 hown hK hw 47 m_v_44 rfl (by decide) (hts _ tw_1184) (fun _ h9 => h9) dX10_readSaid_168 ?_
                  refine lv_iconst (v := 1) hx hb dX10_readSaid_171 (by decide) ?_
                  refine lv_isub hx hb dX10_readSaid_172 (lv_topi (fun v_45 e_v_45 => ?_))
                  obtain ⟨t_v_45, r_v_45⟩ := tq_sub (lo := 4) (hi := 4) r_v_44 rl_1 (by decide +kernel) e_v_45
                  have t_v_45 : v_45.toInt = v_44.toInt - 1 := t_v_45
                  refine tg_put (ci := 10) (ts := ty_MODEL) (v := .int v_45) (ty := .int) (C := RX10) (T := TX10) (N := 49) hx hb hts inX10 tyX10 tyX10_ok nmX10 hown hK hw h_p0 rfl rfl 47 (by decide) (hts _ tw_1184) (fun _ h9 => h9) rfl (by decide +kernel) rfl rfl (ft := vI (-2147483648) 2147483647) rfl ⟨_, rfl, (r_v_45.to (by decide))⟩ (by decide) dX10_readSaid_173 (fun ws H locs hw n_k_46 hF9 => ?_)
                  refine lv_iload_n hx hb dX10_readSaid_176 rfl (lv_at hl 0 rfl) ?_
                  subst hQ
                  exact W.zret (v := v_43) hx hb hr (tq_nz (r_v_43.to (by decide))) (fun t ht hW => ⟨⟨v_43, ws, rfl, ⟨⟨r_v_43.to (by decide), (fun h0 => ⟨⟨_, n_k_46, r_v_45⟩, trivial⟩), (fun h0 => absurd (Int32.toInt_inj.mp (by have h8 := r_v_43; unfold RI at h8; rw [Int32.toInt_zero]; omega)) h0)⟩, hw.1, hw.2.2.2.2.1⟩, by rw [ht]; exact hw.2.1, va_K.moved hW.alike hK, hw.2.2.1⟩, hw.2.2.2.1.F ht⟩) hw.2.2.2.1.2.2 dX10_readSaid_177
                · have r_v_43 : RI v_43 1 1 := rc_neL r_v_43 rl_0 (ti_ne c9_v_43) (by decide)
                  obtain ⟨v_47, m_v_47, r_v_47⟩ := ((hp_v_43.2.2 c9_v_43).1)
                  obtain ⟨v_48, m_v_48, r_v_48⟩ := ((hp_v_43.2.2 c9_v_43).2.1)
                  obtain ⟨v_49, m_v_49, r_v_49⟩ := ((hp_v_43.2.2 c9_v_43).2.2.1)
                  have x_SNT_p0_gd_1_gh_1_gg := ((hp_v_43.2.2 c9_v_43).2.2.2.1)
                  refine lv_istore_n (lv' := [(3, .int v_43), (0, .ref p0), (1, .int x1), (2, .int x2)]) hx hb dX10_readSaid_118 rfl hl (by decide) rfl (fun ls hl => ?_)
                  refine lv_goto (tgt := 166) hx hb dX10_readSaid_119 (by decide) ?_
                  refine lv_aload_n hx hb dX10_readSaid_166 rfl (lv_at hl 1 rfl) ?_
                  refine lv_dup hx hb dX10_readSaid_167 rfl ?_
                  refine tg_mem (ci := 10) (C := RX10) (T := TX10) (N := 49) hx hb hts inX10 hown hK hw 47 m_v_48 rfl (by decide) (hts _ tw_1184) (fun _ h9 => h9) dX10_readSaid_168 ?_
                  refine lv_iconst (v := 1) hx hb dX10_readSaid_171 (by decide) ?_
                  refine lv_isub hx hb dX10_readSaid_172 (lv_topi (fun v_50 e_v_50 => ?_))
                  obtain ⟨t_v_50, r_v_50⟩ := tq_sub (lo := 4) (hi := 4) r_v_48 rl_1 (by decide +kernel) e_v_50
                  have t_v_50 : v_50.toInt = v_48.toInt - 1 := t_v_50
                  refine tg_put (ci := 10) (ts := ty_MODEL) (v := .int v_50) (ty := .int) (C := RX10) (T := TX10) (N := 49) hx hb hts inX10 tyX10 tyX10_ok nmX10 hown hK hw h_p0 rfl rfl 47 (by decide) (hts _ tw_1184) (fun _ h9 => h9) rfl (by decide +kernel) rfl rfl (ft := vI (-2147483648) 2147483647) rfl ⟨_, rfl, (r_v_50.to (by decide))⟩ (by decide) dX10_readSaid_173 (fun ws H locs hw n_k_51 hF9 => ?_)
                  have m_v_47 := FLD.over hF9 m_v_47 (by decide)
                  have m_v_49 := FLD.over hF9 m_v_49 (by decide)
                  have x_SNT_p0_gd_1_gh_1_gg := SNT.over hF9 x_SNT_p0_gd_1_gh_1_gg (by decide)
                  refine lv_iload_n hx hb dX10_readSaid_176 rfl (lv_at hl 0 rfl) ?_
                  subst hQ
                  exact W.zret (v := v_43) hx hb hr (tq_nz (r_v_43.to (by decide))) (fun t ht hW => ⟨⟨v_43, ws, rfl, ⟨⟨r_v_43.to (by decide), (fun h0 => absurd (ti_eq h0) (by have h8 := r_v_43; unfold RI at h8; rw [Int32.toInt_zero]; omega)), (fun h0 => ⟨⟨_, m_v_47, r_v_47⟩, ⟨_, m_v_49, r_v_49⟩, ⟨_, n_k_51, r_v_50⟩, x_SNT_p0_gd_1_gh_1_gg, trivial⟩)⟩, hw.1, hw.2.2.2.2.1⟩, by rw [ht]; exact hw.2.1, va_K.moved hW.alike hK, hw.2.2.1⟩, hw.2.2.2.1.F ht⟩) hw.2.2.2.1.2.2 dX10_readSaid_177
            · exact absurd (r_x1.eq.trans rl_0.eq.symm) ((ti_ne c_97))
          · have r_z0_47 : RI z0_47 8 4 := rc_eq1 r_z0_47 rl_8 (ti_eq c_61) (by decide)
            exact (r_z0_47.no (by decide)).elim
      · have r_x2 : RI x2 28 28 := rc_lt2 rl_27 r_x2 (ti_nle c_37) (by decide)
        refine lv_aload_n hx hb dX10_readSaid_40 rfl (lv_at hl 0 rfl) ?_
        refine lv_iconst (v := 1) hx hb dX10_readSaid_41 (by decide) ?_
        refine tk_i (va_runV (As := [.int 1]) (rest := []) ⟨hx, hb, hml, hown, hts⟩ (c_X10_bad l D cy z H.size Ps ws hw.1 p0 1 h_p0 (rl_1.to (by decide))) (cwV 1 hts (gV tw_1336 tw_1338 ts_46 tw_15 tw_1339) rfl rfl rfl (by decide +kernel) ⟨Nat.le_of_ble_eq_true rfl, Nat.le_of_ble_eq_true rfl⟩) (tg_preV hw hK hSD hA (ci := 10) (q := (RX10, TX10, 49)) rfl h_p0 rfl) rfl rfl hl.1 rfl (lv_room (Nat.le_of_ble_eq_true rfl)) dX10_readSaid_42 ⟨Nat.le_of_ble_eq_true rfl, Nat.le_of_ble_eq_true rfl⟩) hw hA ⟨by decide, by decide⟩ (fun v_52 ws H locs hp_v_52 hw hF9 => ?_)
        have m_z0_47 := FLD.over hF9 m_z0_47 (by decide)
        have x_SN_p0_gd_gh_gg := SNp.over hF9 x_SN_p0_gd_gh_gg (by decide)
        have r_v_52 : RI v_52 0 0 := hp_v_52.1
        subst hQ
        exact W.zret (v := v_52) hx hb hr (tq_nz (r_v_52.to (by decide))) (fun t ht hW => ⟨⟨v_52, ws, rfl, ⟨⟨r_v_52.to (by decide), (fun h0 => ⟨⟨_, m_z0_47, r_z0_47⟩, trivial⟩), (fun h0 => absurd (Int32.toInt_inj.mp (by have h8 := r_v_52; unfold RI at h8; rw [Int32.toInt_zero]; omega)) h0)⟩, hw.1, hw.2.2.2.2.1⟩, by rw [ht]; exact hw.2.1, va_K.moved hW.alike hK, hw.2.2.1⟩, hw.2.2.2.1.F ht⟩) hw.2.2.2.1.2.2 dX10_readSaid_45
  have B10 : ∀ (nf : Nat) (x1 : Int32) (x2 : Int32) (z0_47 : Int32) (ws : va_W) (H : Heap) (locs : List Loc) (ls : Array Slot), 28 - x2.toInt < (nf : Int) → RI x1 0 1 → RI x2 18 28 → RI z0_47 4 4 → FLD ws p0 10 47 (.int z0_47) → SNp ws p0 (gd) (gh) (gg) → WD D cy GG A s wr_X10_readSaid__4 wa_X10_readSaid__4 Ps w0 Ps ws H locs → lv_has ls 4 [(0, .ref p0), (1, .int x1), (2, .int x2)] → W p l e (headSpec (Cond.code yX10_readSaid cX10_readSaid 4 (some .boolean) :: gT) ({ frames := 20, cells := 0, slots := 0, locals := 4000 } : Room)).room s m ([.ref p0] : List Value).toArray below meth c H locs 0 0 Q (F0 m 10 ls []) := by
    intro nf10
    induction nf10 with
    | zero =>
      intro x1 x2 z0_47 ws H locs ls hn10 r_x1 r_x2 r_z0_47 m_z0_47 x_SN_p0_gd_gh_gg hw hl
      exact absurd hn10 (by have q0 := r_x2.1; have u0 := r_x2.2; omega)
    | succ nf10 ih10 =>
      intro x1 x2 z0_47 ws H locs ls hn10 r_x1 r_x2 r_z0_47 m_z0_47 x_SN_p0_gd_gh_gg hw hl
      refine lv_iload_n hx hb dX10_readSaid_10 rfl (lv_at hl 2 rfl) ?_
      refine lv_bipush (v := 27) hx hb dX10_readSaid_11 (by decide) ?_
      refine lv_icmp_gt (tgt := 30) hx hb dX10_readSaid_13 (by decide) (fun c_13 => ?_) (fun c_13 => ?_)
      · have r_x2 : RI x2 28 28 := rc_lt2 rl_27 r_x2 (ti_lt c_13) (by decide)
        exact B30 x1 x2 z0_47 ws _ _ ls r_x1 (r_x2.to (by decide)) r_z0_47 m_z0_47 x_SN_p0_gd_gh_gg hw hl
      · have r_x2 : RI x2 18 27 := rc_le1 r_x2 rl_27 (ti_nlt c_13) (by decide)
        refine lv_aload_n hx hb dX10_readSaid_16 rfl (lv_at hl 0 rfl) ?_
        refine lv_iload_n hx hb dX10_readSaid_17 rfl (lv_at hl 2 rfl) ?_
        refine tk_ir (va_runV (As := [.int x2]) (rest := []) ⟨hx, hb, hml, hown, hts⟩ (c_X10_isWord l D cy z H.size Ps ws hw.1 p0 x2 h_p0 (r_x2.to (by decide))) (cwV 1 hts (gV tw_1318 tw_1320 ts_43 tw_15 tw_1321) rfl rfl rfl (by decide +kernel) ⟨Nat.le_of_ble_eq_true rfl, Nat.le_of_ble_eq_true rfl⟩) (tg_preV hw hK hSD hA (ci := 10) (q := (RX10, TX10, 49)) rfl h_p0 rfl) rfl rfl hl.1 rfl (lv_room (Nat.le_of_ble_eq_true rfl)) dX10_readSaid_18 ⟨Nat.le_of_ble_eq_true rfl, Nat.le_of_ble_eq_true rfl⟩) hw hA (fun v_53  H locs hp_v_53 hw => ?_)
        have r_v_53 : RI v_53 0 1 := hp_v_53.1
        refine lv_if_ne (tgt := 30) hx hb dX10_readSaid_21 (by decide) (fun c_21 => ?_) (fun c_21 => ?_)
        · have r_v_53 : RI v_53 1 1 := rc_neL r_v_53 rl_0 (ti_ne c_21) (by decide)
          exact B30 x1 x2 z0_47 ws _ _ ls r_x1 (r_x2.to (by decide)) r_z0_47 m_z0_47 x_SN_p0_gd_gh_gg hw hl
        · have r_v_53 : RI v_53 0 0 := rc_eq1 r_v_53 rl_0 (ti_eq c_21) (by decide)
          obtain ⟨v_54, e_v_54⟩ : ∃ q9 : Int32, q9 = x2 + Int32.ofInt 1 := ⟨_, rfl⟩
          obtain ⟨t_v_54, r_v_54⟩ := tq_add (lo := 19) (hi := 28) r_x2 (show RI (Int32.ofInt 1) 1 1 by unfold RI; decide +kernel) (by decide +kernel) e_v_54
          have t_v_54 : v_54.toInt = x2.toInt + 1 := t_v_54
          refine lv_iinc (v := v_54) (lv' := [(2, .int v_54), (0, .ref p0), (1, .int x1)]) hx hb dX10_readSaid_24 hl (k := 2) rfl e_v_54.symm (by decide) rfl (fun ls hl => ?_)
          refine lv_goto (tgt := 10) hx hb dX10_readSaid_27 (by decide) ?_
          exact ih10 x1 v_54 z0_47 ws _ _ ls (by have q0 := r_v_54.1; have u0 := r_v_54.2; have o0 := r_x2.1; have p0 := r_x2.2; omega) r_x1 (r_v_54.to (by decide)) r_z0_47 m_z0_47 x_SN_p0_gd_gh_gg hw (lv_sub hl [1, 2, 0] rfl)
  refine lv_aload_n hx hb dX10_readSaid_0 rfl (lv_at hl 0 rfl) ?_
  refine lv_bipush (v := 40) hx hb dX10_readSaid_1 (by decide) ?_
  refine tk_ir (va_runV (As := [.int 40]) (rest := []) ⟨hx, hb, hml, hown, hts⟩ (c_X10_isSign l D cy z s.heap.size Ps w0 hw.1 p0 40 h_p0 (rl_40.to (by decide))) (cwV 1 hts (gV tw_1413 tw_1415 ts_63 tw_15 tw_1416) rfl rfl rfl (by decide +kernel) ⟨Nat.le_of_ble_eq_true rfl, Nat.le_of_ble_eq_true rfl⟩) (tg_preV hw hK hSD hA (ci := 10) (q := (RX10, TX10, 49)) rfl h_p0 rfl) rfl rfl hl.1 rfl (lv_room (Nat.le_of_ble_eq_true rfl)) dX10_readSaid_3 ⟨Nat.le_of_ble_eq_true rfl, Nat.le_of_ble_eq_true rfl⟩) hw hA (fun v_55  H locs hp_v_55 hw => ?_)
  have r_v_55 : RI v_55 0 1 := hp_v_55.1
  by_cases c9_v_55 : v_55 = 0
  · have r_v_55 : RI v_55 0 0 := by rw [c9_v_55]; exact rl_0
    refine lv_istore_n (lv' := [(1, .int v_55), (0, .ref p0)]) hx hb dX10_readSaid_6 rfl hl (by decide) rfl (fun ls hl => ?_)
    refine lv_bipush (v := 18) hx hb dX10_readSaid_7 (by decide) ?_
    refine lv_istore_n (lv' := [(2, .int 18), (1, .int v_55), (0, .ref p0)]) hx hb dX10_readSaid_9 rfl hl (by decide) rfl (fun ls hl => ?_)
    exact B10 4294967298 v_55 18 f0_47 w0 _ _ ls (by have q0 := rl_18.1; have u0 := rl_18.2; omega) (r_v_55.to (by decide)) (rl_18.to (by decide)) r_f0_47 m_f0_47 x_SN_p0_gd_gh_gg hw (lv_sub hl [2, 1, 0] rfl)
  · have r_v_55 : RI v_55 1 1 := rc_neL r_v_55 rl_0 (ti_ne c9_v_55) (by decide)
    obtain ⟨v_56, m_v_56, r_v_56⟩ := ((hp_v_55.2.2 c9_v_55).1)
    refine lv_istore_n (lv' := [(1, .int v_55), (0, .ref p0)]) hx hb dX10_readSaid_6 rfl hl (by decide) rfl (fun ls hl => ?_)
    refine lv_bipush (v := 18) hx hb dX10_readSaid_7 (by decide) ?_
    refine lv_istore_n (lv' := [(2, .int 18), (1, .int v_55), (0, .ref p0)]) hx hb dX10_readSaid_9 rfl hl (by decide) rfl (fun ls hl => ?_)
    exact B10 4294967298 v_55 18 f0_47 w0 _ _ ls (by have q0 := rl_18.1; have u0 := rl_18.2; omega) (r_v_55.to (by decide)) (rl_18.to (by decide)) r_f0_47 m_f0_47 x_SN_p0_gd_gh_gg hw (lv_sub hl [2, 1, 0] rfl)
abbrev wr_X10_readAnd__4 : List (Nat × Nat) := [(10, 5), (10, 6), (10, 7), (10, 8), (10, 9), (10, 10), (10, 11), (10, 12), (10, 13), (10, 45), (10, 46), (10, 47), (10, 48)]
abbrev wa_X10_readAnd__4 : List Nat := [54]
set_option maxHeartbeats 4000000 in
set_option maxRecDepth 100000 in
theorem c_X10_readAnd__4 (l : Launch) (D : va_G) (cy : Nat → ClassId) (z : Nat → Nat) (sz : Nat) (Ps : PSI) (w0 : va_W) (hT : HT cy GG Ps w0) (p0 : Nat) (f0_47 : Int32) (gd : Int) (gh : Int) (gg : Int) (h_p0 : (p0, 55) ∈ Ps) (r_f0_47 : RI f0_47 4 4) (m_f0_47 : FLD w0 p0 10 47 (.int f0_47)) (x_SN_p0_gd_gh_gg : SNp w0 p0 (gd) (gh) (gg)) : Met l yX10_readAnd (Cond.code yX10_readAnd cX10_readAnd 2 (some .boolean) :: gT) ({ frames := 21, cells := 0, slots := 0, locals := 4200 } : Room) (va_Pc [.ref p0] (PRE D cy z w0 sz)) (va_Qi (fun (r : Int32) (u : va_W) => (RI r 0 1 ∧ (r = 0 → (∃ v9 : Int32, FLD u p0 10 47 (.int v9) ∧ RI v9 4 4) ∧ True) ∧ (¬ r = 0 → (∃ v9 : Int32, FLD u p0 10 46 (.int v9) ∧ RI v9 1 20) ∧ (∃ v9 : Int32, FLD u p0 10 47 (.int v9) ∧ RI v9 4 4) ∧ (∃ v9 : Int32, FLD u p0 10 48 (.int v9) ∧ RI v9 0 39) ∧ SNT u p0 (gd+1) (gh+1) (gg) ∧ True)) ∧ HT cy GG Ps u ∧ FR wr_X10_readAnd__4 wa_X10_readAnd__4 Ps w0 u) (BB D cy (va_A w0 sz) (fun (u : va_W) => u)) (va_A w0 sz)) 0 0 (va_A w0 sz) := by
  refine Met.ofW (cc := cX10_readAnd) (maxL := 2) (ret := (some .boolean)) (by decide) rfl ?_
  intro p e s m args below meth c s₁ B hml hv
  obtain ⟨rfl, hsz, hP, hK, hD0, hSD⟩ := hv
  have hx := B.exec
  have hb := B.bytes
  have hr := B.returns
  have hlocks := B.notSynchronized
  have hts : ∀ w ∈ gT, w.before _ s = true := fun w h => atoms_spec (ws := Cond.code yX10_readAnd cX10_readAnd 2 (some .boolean) :: gT) B.pre w (List.mem_cons_of_mem _ h)
  have hown : s.vm.findClass RX10 = some m.cls := findClass_of_methodNamed B.named
  subst hsz
  have hD := hD0.self (sz := s.heap.size)
  generalize hAe : va_A w0 s.heap.size = A at hD hSD ⊢
  have hA : ∀ q : Nat, s.heap.size ≤ q → A q := fun q h => by rw [← hAe]; exact Or.inr h
  have hl := lv_entry ([.ref p0]) (n := 2) (Nat.le_of_ble_eq_true rfl)
  rw [lg_entry_eq]
  generalize (lg_sl ([.ref p0]) ++ List.replicate (2 - (lg_sl ([.ref p0])).length) Slot.unset).toArray = ls at hl ⊢
  have hl : lv_has ls 2 [(0, .ref p0)] := hl
  refine nameQ (fun Q hQ => ?_)
  have hw : WD D cy GG A s wr_X10_readAnd__4 wa_X10_readAnd__4 Ps w0 Ps w0 s.heap [] := ⟨hT, hP, hD, va_S.rf, FR.rf, hT.1, [], (List.append_nil _).symm⟩
  have B14 : ∀ (nf : Nat) (x1 : Int32) (z0_46 : Int32) (z0_47 : Int32) (z0_48 : Int32) (gz : Int) (ws : va_W) (H : Heap) (locs : List Loc) (ls : Array Slot), 21 - gz < (nf : Int) → RI x1 0 39 → RI z0_46 1 20 → FLD ws p0 10 46 (.int z0_46) → RI z0_47 4 4 → FLD ws p0 10 47 (.int z0_47) → RI z0_48 0 39 → FLD ws p0 10 48 (.int z0_48) → (SNL ws p0 (gd+1) (gz) (gg) x1 ∧ gh + 1 ≤ gz) → WD D cy GG A s wr_X10_readAnd__4 wa_X10_readAnd__4 Ps w0 Ps ws H locs → lv_has ls 2 [(0, .ref p0), (1, .int x1)] → W p l e (headSpec (Cond.code yX10_readAnd cX10_readAnd 2 (some .boolean) :: gT) ({ frames := 21, cells := 0, slots := 0, locals := 4200 } : Room)).room s m ([.ref p0] : List Value).toArray below meth c H locs 0 0 Q (F0 m 14 ls []) := by
    intro nf14
    induction nf14 with
    | zero =>
      intro x1 z0_46 z0_47 z0_48 gz ws H locs ls hn14 r_x1 r_z0_46 m_z0_46 r_z0_47 m_z0_47 r_z0_48 m_z0_48 x_SNW_p0_gd_1_gz_gg__1 hw hl
      exact absurd hn14 (by have q9 := SNL.le x_SNW_p0_gd_1_gz_gg__1.1; omega)
    | succ nf14 ih14 =>
      intro x1 z0_46 z0_47 z0_48 gz ws H locs ls hn14 r_x1 r_z0_46 m_z0_46 r_z0_47 m_z0_47 r_z0_48 m_z0_48 x_SNW_p0_gd_1_gz_gg__1 hw hl
      refine lv_aload_n hx hb dX10_readAnd_14 rfl (lv_at hl 0 rfl) ?_
      refine lv_bipush (v := 17) hx hb dX10_readAnd_15 (by decide) ?_
      refine tk_ir (va_runV (As := [.int 17]) (rest := []) ⟨hx, hb, hml, hown, hts⟩ (c_X10_isWord l D cy z H.size Ps ws hw.1 p0 17 h_p0 (rl_17.to (by decide))) (cwV 1 hts (gV tw_1318 tw_1320 ts_43 tw_15 tw_1321) rfl rfl rfl (by decide +kernel) ⟨Nat.le_of_ble_eq_true rfl, Nat.le_of_ble_eq_true rfl⟩) (tg_preV hw hK hSD hA (ci := 10) (q := (RX10, TX10, 49)) rfl h_p0 rfl) rfl rfl hl.1 rfl (lv_room (Nat.le_of_ble_eq_true rfl)) dX10_readAnd_17 ⟨Nat.le_of_ble_eq_true rfl, Nat.le_of_ble_eq_true rfl⟩) hw hA (fun v_1  H locs hp_v_1 hw => ?_)
      have r_v_1 : RI v_1 0 1 := hp_v_1.1
      refine lv_if_eq (tgt := 51) hx hb dX10_readAnd_20 (by decide) (fun c_20 => ?_) (fun c_20 => ?_)
      · have r_v_1 : RI v_1 0 0 := rc_eq1 r_v_1 rl_0 (ti_eq c_20) (by decide)
        refine lv_aload_n hx hb dX10_readAnd_51 rfl (lv_at hl 0 rfl) ?_
        refine lv_iload_n hx hb dX10_readAnd_52 rfl (lv_at hl 1 rfl) ?_
        refine tg_put (ci := 10) (ts := ty_MODEL) (v := .int x1) (ty := .int) (C := RX10) (T := TX10) (N := 49) hx hb hts inX10 tyX10 tyX10_ok nmX10 hown hK hw h_p0 rfl rfl 48 (by decide) (hts _ tw_1185) (fun _ h9 => h9) rfl (by decide +kernel) rfl rfl (ft := vI (-2147483648) 2147483647) rfl ⟨_, rfl, (r_x1.to (by decide))⟩ (by decide) dX10_readAnd_53 (fun ws H locs hw n_k_2 hF9 => ?_)
        have m_z0_46 := FLD.over hF9 m_z0_46 (by decide)
        have m_z0_47 := FLD.over hF9 m_z0_47 (by decide)
        have x_SNW_p0_gd_1_gz_gg__1 := SNW.over hF9 x_SNW_p0_gd_1_gz_gg__1 (by decide)
        have f6 := SNL.le x_SNW_p0_gd_1_gz_gg__1.1
        have f7 := x_SNW_p0_gd_1_gz_gg__1.2
        have x_SNT_p0_gd_1_gh_1_gg : SNT ws p0 (gd+1) (gh+1) (gg) := (SNL.snt x_SNW_p0_gd_1_gz_gg__1.1 n_k_2).weak (by have d_8 := SNp.le x_SN_p0_gd_gh_gg; omega)
        refine lv_iconst (v := 1) hx hb dX10_readAnd_56 (by decide) ?_
        subst hQ
        exact W.zret (v := 1) hx hb hr (rfl) (fun t ht hW => ⟨⟨1, ws, rfl, ⟨⟨rl_1.to (by decide), (fun h0 => absurd h0 (by decide)), (fun h0 => ⟨⟨_, m_z0_46, r_z0_46⟩, ⟨_, m_z0_47, r_z0_47⟩, ⟨_, n_k_2, r_x1⟩, x_SNT_p0_gd_1_gh_1_gg, trivial⟩)⟩, hw.1, hw.2.2.2.2.1⟩, by rw [ht]; exact hw.2.1, va_K.moved hW.alike hK, hw.2.2.1⟩, hw.2.2.2.1.F ht⟩) hw.2.2.2.1.2.2 dX10_readAnd_57
      · have r_v_1 : RI v_1 1 1 := rc_neL r_v_1 rl_0 (ti_ne c_20) (by decide)
        refine lv_aload_n hx hb dX10_readAnd_23 rfl (lv_at hl 0 rfl) ?_
        refine tk_v (va_runV (As := []) (rest := []) ⟨hx, hb, hml, hown, hts⟩ (c_X10_go l D cy z H.size Ps ws hw.1 p0 h_p0) (cwV 0 hts (gV tw_1298 tw_1300 ts_40 tw_15 tw_1301) rfl rfl rfl (by decide +kernel) ⟨Nat.le_of_ble_eq_true rfl, Nat.le_of_ble_eq_true rfl⟩) (tg_preV hw hK hSD hA (ci := 10) (q := (RX10, TX10, 49)) rfl h_p0 rfl) rfl rfl hl.1 rfl (lv_room (Nat.le_of_ble_eq_true rfl)) dX10_readAnd_24 ⟨Nat.le_of_ble_eq_true rfl, Nat.le_of_ble_eq_true rfl⟩) hw hA ⟨by decide, by decide⟩ (fun ws H locs hp_v_3 hw hF9 => ?_)
        have m_z0_46 := FLD.over hF9 m_z0_46 (by decide)
        have m_z0_47 := FLD.over hF9 m_z0_47 (by decide)
        have m_z0_48 := FLD.over hF9 m_z0_48 (by decide)
        have x_SNW_p0_gd_1_gz_gg__1 := SNW.over hF9 x_SNW_p0_gd_1_gz_gg__1 (by decide)
        refine lv_aload_n hx hb dX10_readAnd_27 rfl (lv_at hl 0 rfl) ?_
        have f9 := SNL.sn x_SNW_p0_gd_1_gz_gg__1.1
        have f8 := f9.2
        have f7 := x_SNW_p0_gd_1_gz_gg__1.2
        have f6 := SNL.le x_SNW_p0_gd_1_gz_gg__1.1
        have x_SN_p0_gd_1_gz_max_gg__Int32_toInt_x1___1_ : SNp ws p0 (gd+1) (gz) (max gg (Int32.toInt x1 + 1)) := f9.1
        refine tk_i (va_runV (As := []) (rest := []) ⟨hx, hb, hml, hown, hts⟩ (c_X10_readSaid__4 l D cy z H.size Ps ws hw.1 p0 z0_47 (gd+1) (gz) (max gg (Int32.toInt x1 + 1)) h_p0 r_z0_47 m_z0_47 x_SN_p0_gd_1_gz_max_gg__Int32_toInt_x1___1_) (cwV 0 hts (gV tw_1759 tw_1761 ts_113 tw_15 tw_1762) rfl rfl rfl (by decide +kernel) ⟨Nat.le_of_ble_eq_true rfl, Nat.le_of_ble_eq_true rfl⟩) (tg_preV hw hK hSD hA (ci := 10) (q := (RX10, TX10, 49)) rfl h_p0 rfl) rfl rfl hl.1 rfl (lv_room (Nat.le_of_ble_eq_true rfl)) dX10_readAnd_28 ⟨Nat.le_of_ble_eq_true rfl, Nat.le_of_ble_eq_true rfl⟩) hw hA ⟨by decide, by decide⟩ (fun v_4 ws H locs hp_v_4 hw hF9 => ?_)
        have r_v_4 : RI v_4 0 1 := hp_v_4.1
        by_cases c9_v_4 : v_4 = 0
        · have r_v_4 : RI v_4 0 0 := by rw [c9_v_4]; exact rl_0
          obtain ⟨v_5, m_v_5, r_v_5⟩ := ((hp_v_4.2.1 c9_v_4).1)
          refine lv_if_ne (tgt := 36) hx hb dX10_readAnd_31 (by decide) (fun c_31 => ?_) (fun c_31 => ?_)
          · exact absurd (r_v_4.eq.trans rl_0.eq.symm) ((ti_ne c_31))
          · refine lv_iconst (v := 0) hx hb dX10_readAnd_34 (by decide) ?_
            subst hQ
            exact W.zret (v := 0) hx hb hr (rfl) (fun t ht hW => ⟨⟨0, ws, rfl, ⟨⟨rl_0.to (by decide), (fun h0 => ⟨⟨_, m_v_5, r_v_5⟩, trivial⟩), (fun h0 => absurd rfl h0)⟩, hw.1, hw.2.2.2.2.1⟩, by rw [ht]; exact hw.2.1, va_K.moved hW.alike hK, hw.2.2.1⟩, hw.2.2.2.1.F ht⟩) hw.2.2.2.1.2.2 dX10_readAnd_35
        · have r_v_4 : RI v_4 1 1 := rc_neL r_v_4 rl_0 (ti_ne c9_v_4) (by decide)
          obtain ⟨v_6, m_v_6, r_v_6⟩ := ((hp_v_4.2.2 c9_v_4).1)
          obtain ⟨v_7, m_v_7, r_v_7⟩ := ((hp_v_4.2.2 c9_v_4).2.1)
          obtain ⟨v_8, m_v_8, r_v_8⟩ := ((hp_v_4.2.2 c9_v_4).2.2.1)
          have x_SNT_p0_gd_2_gz_1_max_gg__Int32_toInt_x1___1_ := ((hp_v_4.2.2 c9_v_4).2.2.2.1)
          refine lv_if_ne (tgt := 36) hx hb dX10_readAnd_31 (by decide) (fun c_31 => ?_) (fun c_31 => ?_)
          · refine lv_aload_n hx hb dX10_readAnd_36 rfl (lv_at hl 0 rfl) ?_
            refine lv_iconst (v := 2) hx hb dX10_readAnd_37 (by decide) ?_
            refine lv_iload_n hx hb dX10_readAnd_38 rfl (lv_at hl 1 rfl) ?_
            refine lv_aload_n hx hb dX10_readAnd_39 rfl (lv_at hl 0 rfl) ?_
            refine tg_mem (ci := 10) (C := RX10) (T := TX10) (N := 49) hx hb hts inX10 hown hK hw 48 m_v_7 rfl (by decide) (hts _ tw_1185) (fun _ h9 => h9) dX10_readAnd_40 ?_
            refine lv_iconst (v := 0) hx hb dX10_readAnd_43 (by decide) ?_
            have l9 := SNT.top hw x_SNT_p0_gd_2_gz_1_max_gg__Int32_toInt_x1___1_ m_v_7
            have l8 := SNT.sn x_SNT_p0_gd_2_gz_1_max_gg__Int32_toInt_x1___1_
            have x_SNI_p0_gd_1_gz_1_gg : SNI ws p0 (gd+1) (gz+1) (gg) := SNp.sni l8 (by have d_8 := SNp.le x_SN_p0_gd_gh_gg; omega)
            have x_LTN_p0_x1 : LTN ws p0 (x1) := SNp.ltn l8 f8
            have x_LTN_p0_v_7 : LTN ws p0 (v_7) := l9.ltn
            refine tk_i (va_runV (As := [.int 2, .int x1, .int v_7, .int 0]) (rest := []) ⟨hx, hb, hml, hown, hts⟩ (c_X10_saysOne__1 l D cy z H.size Ps ws hw.1 p0 2 x1 v_7 0 (gd+1) (gz+1) (gg) h_p0 (rl_2.to (by decide)) (r_x1.to (by decide)) (r_v_7.to (by decide)) (rl_0.to (by decide)) x_SNI_p0_gd_1_gz_1_gg x_LTN_p0_x1 x_LTN_p0_v_7) (cwV 4 hts (gV tw_1771 tw_1773 ts_116 tw_15 tw_1774) rfl rfl rfl (by decide +kernel) ⟨Nat.le_of_ble_eq_true rfl, Nat.le_of_ble_eq_true rfl⟩) (tg_preV hw hK hSD hA (ci := 10) (q := (RX10, TX10, 49)) rfl h_p0 rfl) rfl rfl hl.1 rfl (lv_room (Nat.le_of_ble_eq_true rfl)) dX10_readAnd_44 ⟨Nat.le_of_ble_eq_true rfl, Nat.le_of_ble_eq_true rfl⟩) hw hA ⟨by decide, by decide⟩ (fun v_9 ws H locs hp_v_9 hw hF9 => ?_)
            have m_v_6 := FLD.over hF9 m_v_6 (by decide)
            have m_v_7 := FLD.over hF9 m_v_7 (by decide)
            have m_v_8 := FLD.over hF9 m_v_8 (by decide)
            have r_v_9 : RI v_9 0 39 := hp_v_9.1
            have x_SNL_p0_gd_1_gz_1_gg_v_9 := hp_v_9.2.2.2.1.1
            refine lv_istore_n (lv' := [(1, .int v_9), (0, .ref p0)]) hx hb dX10_readAnd_47 rfl hl (by decide) rfl (fun ls hl => ?_)
            refine lv_goto (tgt := 14) hx hb dX10_readAnd_48 (by decide) ?_
            have x_SNW_p0_gd_1_gz_1_gg_v_9 : (SNL ws p0 (gd+1) (gz+1) (gg) v_9 ∧ gh + 1 ≤ gz+1) := ⟨x_SNL_p0_gd_1_gz_1_gg_v_9, by omega⟩
            exact ih14 v_9 v_6 v_8 v_7 (gz+1) ws _ _ ls (by have d_8 := SNp.le x_SN_p0_gd_gh_gg; omega) r_v_9 r_v_6 m_v_6 r_v_8 m_v_8 r_v_7 m_v_7 x_SNW_p0_gd_1_gz_1_gg_v_9 hw (lv_sub hl [1, 0] rfl)
          · have r_v_4 : RI v_4 1 0 := rc_eq1 r_v_4 rl_0 (ti_eq c_31) (by decide)
            exact (r_v_4.no (by decide)).elim
  refine lv_aload_n hx hb dX10_readAnd_0 rfl (lv_at hl 0 rfl) ?_
  refine tk_i (va_runV (As := []) (rest := []) ⟨hx, hb, hml, hown, hts⟩ (c_X10_readSaid__4 l D cy z s.heap.size Ps w0 hw.1 p0 f0_47 (gd) (gh) (gg) h_p0 r_f0_47 m_f0_47 x_SN_p0_gd_gh_gg) (cwV 0 hts (gV tw_1759 tw_1761 ts_113 tw_15 tw_1762) rfl rfl rfl (by decide +kernel) ⟨Nat.le_of_ble_eq_true rfl, Nat.le_of_ble_eq_true rfl⟩) (tg_preV hw hK hSD hA (ci := 10) (q := (RX10, TX10, 49)) rfl h_p0 rfl) rfl rfl hl.1 rfl (lv_room (Nat.le_of_ble_eq_true rfl)) dX10_readAnd_1 ⟨Nat.le_of_ble_eq_true rfl, Nat.le_of_ble_eq_true rfl⟩) hw hA ⟨by decide, by decide⟩ (fun v_10 ws H locs hp_v_10 hw hF9 => ?_)
  have r_v_10 : RI v_10 0 1 := hp_v_10.1
  by_cases c9_v_10 : v_10 = 0
  · have r_v_10 : RI v_10 0 0 := by rw [c9_v_10]; exact rl_0
    obtain ⟨v_11, m_v_11, r_v_11⟩ := ((hp_v_10.2.1 c9_v_10).1)
    refine lv_if_ne (tgt := 9) hx hb dX10_readAnd_4 (by decide) (fun c_4 => ?_) (fun c_4 => ?_)
    · exact absurd (r_v_10.eq.trans rl_0.eq.symm) ((ti_ne c_4))
    · refine lv_iconst (v := 0) hx hb dX10_readAnd_7 (by decide) ?_
      subst hQ
      exact W.zret (v := 0) hx hb hr (rfl) (fun t ht hW => ⟨⟨0, ws, rfl, ⟨⟨rl_0.to (by decide), (fun h0 => ⟨⟨_, m_v_11, r_v_11⟩, trivial⟩), (fun h0 => absurd rfl h0)⟩, hw.1, hw.2.2.2.2.1⟩, by rw [ht]; exact hw.2.1, va_K.moved hW.alike hK, hw.2.2.1⟩, hw.2.2.2.1.F ht⟩) hw.2.2.2.1.2.2 dX10_readAnd_8
  · have r_v_10 : RI v_10 1 1 := rc_neL r_v_10 rl_0 (ti_ne c9_v_10) (by decide)
    obtain ⟨v_12, m_v_12, r_v_12⟩ := ((hp_v_10.2.2 c9_v_10).1)
    obtain ⟨v_13, m_v_13, r_v_13⟩ := ((hp_v_10.2.2 c9_v_10).2.1)
    obtain ⟨v_14, m_v_14, r_v_14⟩ := ((hp_v_10.2.2 c9_v_10).2.2.1)
    have x_SNT_p0_gd_1_gh_1_gg := ((hp_v_10.2.2 c9_v_10).2.2.2.1)
    refine lv_if_ne (tgt := 9) hx hb dX10_readAnd_4 (by decide) (fun c_4 => ?_) (fun c_4 => ?_)
    · refine lv_aload_n hx hb dX10_readAnd_9 rfl (lv_at hl 0 rfl) ?_
      refine tg_mem (ci := 10) (C := RX10) (T := TX10) (N := 49) hx hb hts inX10 hown hK hw 48 m_v_13 rfl (by decide) (hts _ tw_1185) (fun _ h9 => h9) dX10_readAnd_10 ?_
      refine lv_istore_n (lv' := [(1, .int v_13), (0, .ref p0)]) hx hb dX10_readAnd_13 rfl hl (by decide) rfl (fun ls hl => ?_)
      have x_SNW_p0_gd_1_gh_1_gg_v_13 : (SNL ws p0 (gd+1) (gh+1) (gg) v_13 ∧ gh + 1 ≤ gh+1) := ⟨SNT.top hw x_SNT_p0_gd_1_gh_1_gg m_v_13, by omega⟩
      exact B14 4294967298 v_13 v_12 v_14 v_13 (gh+1) ws _ _ ls (by have d_8 := SNp.le x_SN_p0_gd_gh_gg; omega) r_v_13 r_v_12 m_v_12 r_v_14 m_v_14 r_v_13 m_v_13 x_SNW_p0_gd_1_gh_1_gg_v_13 hw (lv_sub hl [1, 0] rfl)
    · have r_v_10 : RI v_10 1 0 := rc_eq1 r_v_10 rl_0 (ti_eq c_4) (by decide)
      exact (r_v_10.no (by decide)).elim
abbrev wr_X10_readOr__4 : List (Nat × Nat) := [(10, 5), (10, 6), (10, 7), (10, 8), (10, 9), (10, 10), (10, 11), (10, 12), (10, 13), (10, 45), (10, 46), (10, 47), (10, 48)]
abbrev wa_X10_readOr__4 : List Nat := [54]
set_option maxHeartbeats 4000000 in
set_option maxRecDepth 100000 in
theorem c_X10_readOr__4 (l : Launch) (D : va_G) (cy : Nat → ClassId) (z : Nat → Nat) (sz : Nat) (Ps : PSI) (w0 : va_W) (hT : HT cy GG Ps w0) (p0 : Nat) (f0_47 : Int32) (gd : Int) (gh : Int) (gg : Int) (h_p0 : (p0, 55) ∈ Ps) (r_f0_47 : RI f0_47 4 4) (m_f0_47 : FLD w0 p0 10 47 (.int f0_47)) (x_SN_p0_gd_gh_gg : SNp w0 p0 (gd) (gh) (gg)) : Met l yX10_readOr (Cond.code yX10_readOr cX10_readOr 2 (some .boolean) :: gT) ({ frames := 22, cells := 0, slots := 0, locals := 4400 } : Room) (va_Pc [.ref p0] (PRE D cy z w0 sz)) (va_Qi (fun (r : Int32) (u : va_W) => (RI r 0 1 ∧ (r = 0 → (∃ v9 : Int32, FLD u p0 10 47 (.int v9) ∧ RI v9 4 4) ∧ True) ∧ (¬ r = 0 → (∃ v9 : Int32, FLD u p0 10 46 (.int v9) ∧ RI v9 1 20) ∧ (∃ v9 : Int32, FLD u p0 10 47 (.int v9) ∧ RI v9 4 4) ∧ (∃ v9 : Int32, FLD u p0 10 48 (.int v9) ∧ RI v9 0 39) ∧ SNT u p0 (gd+1) (gh+1) (gg) ∧ True)) ∧ HT cy GG Ps u ∧ FR wr_X10_readOr__4 wa_X10_readOr__4 Ps w0 u) (BB D cy (va_A w0 sz) (fun (u : va_W) => u)) (va_A w0 sz)) 0 0 (va_A w0 sz) := by
  refine Met.ofW (cc := cX10_readOr) (maxL := 2) (ret := (some .boolean)) (by decide) rfl ?_
  intro p e s m args below meth c s₁ B hml hv
  obtain ⟨rfl, hsz, hP, hK, hD0, hSD⟩ := hv
  have hx := B.exec
  have hb := B.bytes
  have hr := B.returns
  have hlocks := B.notSynchronized
  have hts : ∀ w ∈ gT, w.before _ s = true := fun w h => atoms_spec (ws := Cond.code yX10_readOr cX10_readOr 2 (some .boolean) :: gT) B.pre w (List.mem_cons_of_mem _ h)
  have hown : s.vm.findClass RX10 = some m.cls := findClass_of_methodNamed B.named
  subst hsz
  have hD := hD0.self (sz := s.heap.size)
  generalize hAe : va_A w0 s.heap.size = A at hD hSD ⊢
  have hA : ∀ q : Nat, s.heap.size ≤ q → A q := fun q h => by rw [← hAe]; exact Or.inr h
  have hl := lv_entry ([.ref p0]) (n := 2) (Nat.le_of_ble_eq_true rfl)
  rw [lg_entry_eq]
  generalize (lg_sl ([.ref p0]) ++ List.replicate (2 - (lg_sl ([.ref p0])).length) Slot.unset).toArray = ls at hl ⊢
  have hl : lv_has ls 2 [(0, .ref p0)] := hl
  refine nameQ (fun Q hQ => ?_)
  have hw : WD D cy GG A s wr_X10_readOr__4 wa_X10_readOr__4 Ps w0 Ps w0 s.heap [] := ⟨hT, hP, hD, va_S.rf, FR.rf, hT.1, [], (List.append_nil _).symm⟩
  have B14 : ∀ (nf : Nat) (x1 : Int32) (z0_46 : Int32) (z0_47 : Int32) (z0_48 : Int32) (gz : Int) (ws : va_W) (H : Heap) (locs : List Loc) (ls : Array Slot), 21 - gz < (nf : Int) → RI x1 0 39 → RI z0_46 1 20 → FLD ws p0 10 46 (.int z0_46) → RI z0_47 4 4 → FLD ws p0 10 47 (.int z0_47) → RI z0_48 0 39 → FLD ws p0 10 48 (.int z0_48) → (SNL ws p0 (gd+1) (gz) (gg) x1 ∧ gh + 1 ≤ gz) → WD D cy GG A s wr_X10_readOr__4 wa_X10_readOr__4 Ps w0 Ps ws H locs → lv_has ls 2 [(0, .ref p0), (1, .int x1)] → W p l e (headSpec (Cond.code yX10_readOr cX10_readOr 2 (some .boolean) :: gT) ({ frames := 22, cells := 0, slots := 0, locals := 4400 } : Room)).room s m ([.ref p0] : List Value).toArray below meth c H locs 0 0 Q (F0 m 14 ls []) := by
    intro nf14
    induction nf14 with
    | zero =>
      intro x1 z0_46 z0_47 z0_48 gz ws H locs ls hn14 r_x1 r_z0_46 m_z0_46 r_z0_47 m_z0_47 r_z0_48 m_z0_48 x_SNW_p0_gd_1_gz_gg__1 hw hl
      exact absurd hn14 (by have q9 := SNL.le x_SNW_p0_gd_1_gz_gg__1.1; omega)
    | succ nf14 ih14 =>
      intro x1 z0_46 z0_47 z0_48 gz ws H locs ls hn14 r_x1 r_z0_46 m_z0_46 r_z0_47 m_z0_47 r_z0_48 m_z0_48 x_SNW_p0_gd_1_gz_gg__1 hw hl
      refine lv_aload_n hx hb dX10_readOr_14 rfl (lv_at hl 0 rfl) ?_
      refine lv_bipush (v := 16) hx hb dX10_readOr_15 (by decide) ?_
      refine tk_ir (va_runV (As := [.int 16]) (rest := []) ⟨hx, hb, hml, hown, hts⟩ (c_X10_isWord l D cy z H.size Ps ws hw.1 p0 16 h_p0 (rl_16.to (by decide))) (cwV 1 hts (gV tw_1318 tw_1320 ts_43 tw_15 tw_1321) rfl rfl rfl (by decide +kernel) ⟨Nat.le_of_ble_eq_true rfl, Nat.le_of_ble_eq_true rfl⟩) (tg_preV hw hK hSD hA (ci := 10) (q := (RX10, TX10, 49)) rfl h_p0 rfl) rfl rfl hl.1 rfl (lv_room (Nat.le_of_ble_eq_true rfl)) dX10_readOr_17 ⟨Nat.le_of_ble_eq_true rfl, Nat.le_of_ble_eq_true rfl⟩) hw hA (fun v_1  H locs hp_v_1 hw => ?_)
      have r_v_1 : RI v_1 0 1 := hp_v_1.1
      refine lv_if_eq (tgt := 51) hx hb dX10_readOr_20 (by decide) (fun c_20 => ?_) (fun c_20 => ?_)
      · have r_v_1 : RI v_1 0 0 := rc_eq1 r_v_1 rl_0 (ti_eq c_20) (by decide)
        refine lv_aload_n hx hb dX10_readOr_51 rfl (lv_at hl 0 rfl) ?_
        refine lv_iload_n hx hb dX10_readOr_52 rfl (lv_at hl 1 rfl) ?_
        refine tg_put (ci := 10) (ts := ty_MODEL) (v := .int x1) (ty := .int) (C := RX10) (T := TX10) (N := 49) hx hb hts inX10 tyX10 tyX10_ok nmX10 hown hK hw h_p0 rfl rfl 48 (by decide) (hts _ tw_1185) (fun _ h9 => h9) rfl (by decide +kernel) rfl rfl (ft := vI (-2147483648) 2147483647) rfl ⟨_, rfl, (r_x1.to (by decide))⟩ (by decide) dX10_readOr_53 (fun ws H locs hw n_k_2 hF9 => ?_)
        have m_z0_46 := FLD.over hF9 m_z0_46 (by decide)
        have m_z0_47 := FLD.over hF9 m_z0_47 (by decide)
        have x_SNW_p0_gd_1_gz_gg__1 := SNW.over hF9 x_SNW_p0_gd_1_gz_gg__1 (by decide)
        have f6 := SNL.le x_SNW_p0_gd_1_gz_gg__1.1
        have f7 := x_SNW_p0_gd_1_gz_gg__1.2
        have x_SNT_p0_gd_1_gh_1_gg : SNT ws p0 (gd+1) (gh+1) (gg) := (SNL.snt x_SNW_p0_gd_1_gz_gg__1.1 n_k_2).weak (by have d_8 := SNp.le x_SN_p0_gd_gh_gg; omega)
        refine lv_iconst (v := 1) hx hb dX10_readOr_56 (by decide) ?_
        subst hQ
        exact W.zret (v := 1) hx hb hr (rfl) (fun t ht hW => ⟨⟨1, ws, rfl, ⟨⟨rl_1.to (by decide), (fun h0 => absurd h0 (by decide)), (fun h0 => ⟨⟨_, m_z0_46, r_z0_46⟩, ⟨_, m_z0_47, r_z0_47⟩, ⟨_, n_k_2, r_x1⟩, x_SNT_p0_gd_1_gh_1_gg, trivial⟩)⟩, hw.1, hw.2.2.2.2.1⟩, by rw [ht]; exact hw.2.1, va_K.moved hW.alike hK, hw.2.2.1⟩, hw.2.2.2.1.F ht⟩) hw.2.2.2.1.2.2 dX10_readOr_57
      · have r_v_1 : RI v_1 1 1 := rc_neL r_v_1 rl_0 (ti_ne c_20) (by decide)
        refine lv_aload_n hx hb dX10_readOr_23 rfl (lv_at hl 0 rfl) ?_
        refine tk_v (va_runV (As := []) (rest := []) ⟨hx, hb, hml, hown, hts⟩ (c_X10_go l D cy z H.size Ps ws hw.1 p0 h_p0) (cwV 0 hts (gV tw_1298 tw_1300 ts_40 tw_15 tw_1301) rfl rfl rfl (by decide +kernel) ⟨Nat.le_of_ble_eq_true rfl, Nat.le_of_ble_eq_true rfl⟩) (tg_preV hw hK hSD hA (ci := 10) (q := (RX10, TX10, 49)) rfl h_p0 rfl) rfl rfl hl.1 rfl (lv_room (Nat.le_of_ble_eq_true rfl)) dX10_readOr_24 ⟨Nat.le_of_ble_eq_true rfl, Nat.le_of_ble_eq_true rfl⟩) hw hA ⟨by decide, by decide⟩ (fun ws H locs hp_v_3 hw hF9 => ?_)
        have m_z0_46 := FLD.over hF9 m_z0_46 (by decide)
        have m_z0_47 := FLD.over hF9 m_z0_47 (by decide)
        have m_z0_48 := FLD.over hF9 m_z0_48 (by decide)
        have x_SNW_p0_gd_1_gz_gg__1 := SNW.over hF9 x_SNW_p0_gd_1_gz_gg__1 (by decide)
        refine lv_aload_n hx hb dX10_readOr_27 rfl (lv_at hl 0 rfl) ?_
        have f9 := SNL.sn x_SNW_p0_gd_1_gz_gg__1.1
        have f8 := f9.2
        have f7 := x_SNW_p0_gd_1_gz_gg__1.2
        have f6 := SNL.le x_SNW_p0_gd_1_gz_gg__1.1
        have x_SN_p0_gd_1_gz_max_gg__Int32_toInt_x1___1_ : SNp ws p0 (gd+1) (gz) (max gg (Int32.toInt x1 + 1)) := f9.1
        refine tk_i (va_runV (As := []) (rest := []) ⟨hx, hb, hml, hown, hts⟩ (c_X10_readAnd__4 l D cy z H.size Ps ws hw.1 p0 z0_47 (gd+1) (gz) (max gg (Int32.toInt x1 + 1)) h_p0 r_z0_47 m_z0_47 x_SN_p0_gd_1_gz_max_gg__Int32_toInt_x1___1_) (cwV 0 hts (gV tw_1755 tw_1757 ts_112 tw_15 tw_1758) rfl rfl rfl (by decide +kernel) ⟨Nat.le_of_ble_eq_true rfl, Nat.le_of_ble_eq_true rfl⟩) (tg_preV hw hK hSD hA (ci := 10) (q := (RX10, TX10, 49)) rfl h_p0 rfl) rfl rfl hl.1 rfl (lv_room (Nat.le_of_ble_eq_true rfl)) dX10_readOr_28 ⟨Nat.le_of_ble_eq_true rfl, Nat.le_of_ble_eq_true rfl⟩) hw hA ⟨by decide, by decide⟩ (fun v_4 ws H locs hp_v_4 hw hF9 => ?_)
        have r_v_4 : RI v_4 0 1 := hp_v_4.1
        by_cases c9_v_4 : v_4 = 0
        · have r_v_4 : RI v_4 0 0 := by rw [c9_v_4]; exact rl_0
          obtain ⟨v_5, m_v_5, r_v_5⟩ := ((hp_v_4.2.1 c9_v_4).1)
          refine lv_if_ne (tgt := 36) hx hb dX10_readOr_31 (by decide) (fun c_31 => ?_) (fun c_31 => ?_)
          · exact absurd (r_v_4.eq.trans rl_0.eq.symm) ((ti_ne c_31))
          · refine lv_iconst (v := 0) hx hb dX10_readOr_34 (by decide) ?_
            subst hQ
            exact W.zret (v := 0) hx hb hr (rfl) (fun t ht hW => ⟨⟨0, ws, rfl, ⟨⟨rl_0.to (by decide), (fun h0 => ⟨⟨_, m_v_5, r_v_5⟩, trivial⟩), (fun h0 => absurd rfl h0)⟩, hw.1, hw.2.2.2.2.1⟩, by rw [ht]; exact hw.2.1, va_K.moved hW.alike hK, hw.2.2.1⟩, hw.2.2.2.1.F ht⟩) hw.2.2.2.1.2.2 dX10_readOr_35
        · have r_v_4 : RI v_4 1 1 := rc_neL r_v_4 rl_0 (ti_ne c9_v_4) (by decide)
          obtain ⟨v_6, m_v_6, r_v_6⟩ := ((hp_v_4.2.2 c9_v_4).1)
          obtain ⟨v_7, m_v_7, r_v_7⟩ := ((hp_v_4.2.2 c9_v_4).2.1)
          obtain ⟨v_8, m_v_8, r_v_8⟩ := ((hp_v_4.2.2 c9_v_4).2.2.1)
          have x_SNT_p0_gd_2_gz_1_max_gg__Int32_toInt_x1___1_ := ((hp_v_4.2.2 c9_v_4).2.2.2.1)
          refine lv_if_ne (tgt := 36) hx hb dX10_readOr_31 (by decide) (fun c_31 => ?_) (fun c_31 => ?_)
          · refine lv_aload_n hx hb dX10_readOr_36 rfl (lv_at hl 0 rfl) ?_
            refine lv_iconst (v := 3) hx hb dX10_readOr_37 (by decide) ?_
            refine lv_iload_n hx hb dX10_readOr_38 rfl (lv_at hl 1 rfl) ?_
            refine lv_aload_n hx hb dX10_readOr_39 rfl (lv_at hl 0 rfl) ?_
            refine tg_mem (ci := 10) (C := RX10) (T := TX10) (N := 49) hx hb hts inX10 hown hK hw 48 m_v_8 rfl (by decide) (hts _ tw_1185) (fun _ h9 => h9) dX10_readOr_40 ?_
            refine lv_iconst (v := 0) hx hb dX10_readOr_43 (by decide) ?_
            have l9 := SNT.top hw x_SNT_p0_gd_2_gz_1_max_gg__Int32_toInt_x1___1_ m_v_8
            have l8 := SNT.sn x_SNT_p0_gd_2_gz_1_max_gg__Int32_toInt_x1___1_
            have x_SNI_p0_gd_1_gz_1_gg : SNI ws p0 (gd+1) (gz+1) (gg) := SNp.sni l8 (by have d_8 := SNp.le x_SN_p0_gd_gh_gg; omega)
            have x_LTN_p0_x1 : LTN ws p0 (x1) := SNp.ltn l8 f8
            have x_LTN_p0_v_8 : LTN ws p0 (v_8) := l9.ltn
            refine tk_i (va_runV (As := [.int 3, .int x1, .int v_8, .int 0]) (rest := []) ⟨hx, hb, hml, hown, hts⟩ (c_X10_saysOne__1 l D cy z H.size Ps ws hw.1 p0 3 x1 v_8 0 (gd+1) (gz+1) (gg) h_p0 (rl_3.to (by decide)) (r_x1.to (by decide)) (r_v_8.to (by decide)) (rl_0.to (by decide)) x_SNI_p0_gd_1_gz_1_gg x_LTN_p0_x1 x_LTN_p0_v_8) (cwV 4 hts (gV tw_1771 tw_1773 ts_116 tw_15 tw_1774) rfl rfl rfl (by decide +kernel) ⟨Nat.le_of_ble_eq_true rfl, Nat.le_of_ble_eq_true rfl⟩) (tg_preV hw hK hSD hA (ci := 10) (q := (RX10, TX10, 49)) rfl h_p0 rfl) rfl rfl hl.1 rfl (lv_room (Nat.le_of_ble_eq_true rfl)) dX10_readOr_44 ⟨Nat.le_of_ble_eq_true rfl, Nat.le_of_ble_eq_true rfl⟩) hw hA ⟨by decide, by decide⟩ (fun v_9 ws H locs hp_v_9 hw hF9 => ?_)
            have m_v_6 := FLD.over hF9 m_v_6 (by decide)
            have m_v_7 := FLD.over hF9 m_v_7 (by decide)
            have m_v_8 := FLD.over hF9 m_v_8 (by decide)
            have r_v_9 : RI v_9 0 39 := hp_v_9.1
            have x_SNL_p0_gd_1_gz_1_gg_v_9 := hp_v_9.2.2.2.1.1
            refine lv_istore_n (lv' := [(1, .int v_9), (0, .ref p0)]) hx hb dX10_readOr_47 rfl hl (by decide) rfl (fun ls hl => ?_)
            refine lv_goto (tgt := 14) hx hb dX10_readOr_48 (by decide) ?_
            have x_SNW_p0_gd_1_gz_1_gg_v_9 : (SNL ws p0 (gd+1) (gz+1) (gg) v_9 ∧ gh + 1 ≤ gz+1) := ⟨x_SNL_p0_gd_1_gz_1_gg_v_9, by omega⟩
            exact ih14 v_9 v_6 v_7 v_8 (gz+1) ws _ _ ls (by have d_8 := SNp.le x_SN_p0_gd_gh_gg; omega) r_v_9 r_v_6 m_v_6 r_v_7 m_v_7 r_v_8 m_v_8 x_SNW_p0_gd_1_gz_1_gg_v_9 hw (lv_sub hl [1, 0] rfl)
          · have r_v_4 : RI v_4 1 0 := rc_eq1 r_v_4 rl_0 (ti_eq c_31) (by decide)
            exact (r_v_4.no (by decide)).elim
  refine lv_aload_n hx hb dX10_readOr_0 rfl (lv_at hl 0 rfl) ?_
  refine tk_i (va_runV (As := []) (rest := []) ⟨hx, hb, hml, hown, hts⟩ (c_X10_readAnd__4 l D cy z s.heap.size Ps w0 hw.1 p0 f0_47 (gd) (gh) (gg) h_p0 r_f0_47 m_f0_47 x_SN_p0_gd_gh_gg) (cwV 0 hts (gV tw_1755 tw_1757 ts_112 tw_15 tw_1758) rfl rfl rfl (by decide +kernel) ⟨Nat.le_of_ble_eq_true rfl, Nat.le_of_ble_eq_true rfl⟩) (tg_preV hw hK hSD hA (ci := 10) (q := (RX10, TX10, 49)) rfl h_p0 rfl) rfl rfl hl.1 rfl (lv_room (Nat.le_of_ble_eq_true rfl)) dX10_readOr_1 ⟨Nat.le_of_ble_eq_true rfl, Nat.le_of_ble_eq_true rfl⟩) hw hA ⟨by decide, by decide⟩ (fun v_10 ws H locs hp_v_10 hw hF9 => ?_)
  have r_v_10 : RI v_10 0 1 := hp_v_10.1
  by_cases c9_v_10 : v_10 = 0
  · have r_v_10 : RI v_10 0 0 := by rw [c9_v_10]; exact rl_0
    obtain ⟨v_11, m_v_11, r_v_11⟩ := ((hp_v_10.2.1 c9_v_10).1)
    refine lv_if_ne (tgt := 9) hx hb dX10_readOr_4 (by decide) (fun c_4 => ?_) (fun c_4 => ?_)
    · exact absurd (r_v_10.eq.trans rl_0.eq.symm) ((ti_ne c_4))
    · refine lv_iconst (v := 0) hx hb dX10_readOr_7 (by decide) ?_
      subst hQ
      exact W.zret (v := 0) hx hb hr (rfl) (fun t ht hW => ⟨⟨0, ws, rfl, ⟨⟨rl_0.to (by decide), (fun h0 => ⟨⟨_, m_v_11, r_v_11⟩, trivial⟩), (fun h0 => absurd rfl h0)⟩, hw.1, hw.2.2.2.2.1⟩, by rw [ht]; exact hw.2.1, va_K.moved hW.alike hK, hw.2.2.1⟩, hw.2.2.2.1.F ht⟩) hw.2.2.2.1.2.2 dX10_readOr_8
  · have r_v_10 : RI v_10 1 1 := rc_neL r_v_10 rl_0 (ti_ne c9_v_10) (by decide)
    obtain ⟨v_12, m_v_12, r_v_12⟩ := ((hp_v_10.2.2 c9_v_10).1)
    obtain ⟨v_13, m_v_13, r_v_13⟩ := ((hp_v_10.2.2 c9_v_10).2.1)
    obtain ⟨v_14, m_v_14, r_v_14⟩ := ((hp_v_10.2.2 c9_v_10).2.2.1)
    have x_SNT_p0_gd_1_gh_1_gg := ((hp_v_10.2.2 c9_v_10).2.2.2.1)
    refine lv_if_ne (tgt := 9) hx hb dX10_readOr_4 (by decide) (fun c_4 => ?_) (fun c_4 => ?_)
    · refine lv_aload_n hx hb dX10_readOr_9 rfl (lv_at hl 0 rfl) ?_
      refine tg_mem (ci := 10) (C := RX10) (T := TX10) (N := 49) hx hb hts inX10 hown hK hw 48 m_v_14 rfl (by decide) (hts _ tw_1185) (fun _ h9 => h9) dX10_readOr_10 ?_
      refine lv_istore_n (lv' := [(1, .int v_14), (0, .ref p0)]) hx hb dX10_readOr_13 rfl hl (by decide) rfl (fun ls hl => ?_)
      have x_SNW_p0_gd_1_gh_1_gg_v_14 : (SNL ws p0 (gd+1) (gh+1) (gg) v_14 ∧ gh + 1 ≤ gh+1) := ⟨SNT.top hw x_SNT_p0_gd_1_gh_1_gg m_v_14, by omega⟩
      exact B14 4294967298 v_14 v_12 v_13 v_14 (gh+1) ws _ _ ls (by have d_8 := SNp.le x_SN_p0_gd_gh_gg; omega) r_v_14 r_v_12 m_v_12 r_v_13 m_v_13 r_v_14 m_v_14 x_SNW_p0_gd_1_gh_1_gg_v_14 hw (lv_sub hl [1, 0] rfl)
    · have r_v_10 : RI v_10 1 0 := rc_eq1 r_v_10 rl_0 (ti_eq c_4) (by decide)
      exact (r_v_10.no (by decide)).elim
abbrev wr_X10_readBracket__3 : List (Nat × Nat) := [(10, 5), (10, 6), (10, 7), (10, 8), (10, 9), (10, 10), (10, 11), (10, 12), (10, 13), (10, 45), (10, 46), (10, 47), (10, 48)]
abbrev wa_X10_readBracket__3 : List Nat := [54]
set_option maxHeartbeats 4000000 in
set_option maxRecDepth 100000 in
theorem c_X10_readBracket__3 (l : Launch) (D : va_G) (cy : Nat → ClassId) (z : Nat → Nat) (sz : Nat) (Ps : PSI) (w0 : va_W) (hT : HT cy GG Ps w0) (p0 : Nat) (f0_47 : Int32) (gd : Int) (gh : Int) (gg : Int) (h_p0 : (p0, 55) ∈ Ps) (r_f0_47 : RI f0_47 4 4) (m_f0_47 : FLD w0 p0 10 47 (.int f0_47)) (x_SNI_p0_gd_gh_gg : SNI w0 p0 (gd) (gh) (gg)) : Met l yX10_readBracket (Cond.code yX10_readBracket cX10_readBracket 1 (some .boolean) :: gT) ({ frames := 23, cells := 0, slots := 0, locals := 4600 } : Room) (va_Pc [.ref p0] (PRE D cy z w0 sz)) (va_Qi (fun (r : Int32) (u : va_W) => (RI r 0 1 ∧ (r = 0 → (∃ v9 : Int32, FLD u p0 10 47 (.int v9) ∧ RI v9 4 4) ∧ True) ∧ (¬ r = 0 → (∃ v9 : Int32, FLD u p0 10 46 (.int v9) ∧ RI v9 1 20) ∧ (∃ v9 : Int32, FLD u p0 10 47 (.int v9) ∧ RI v9 4 4) ∧ (∃ v9 : Int32, FLD u p0 10 48 (.int v9) ∧ RI v9 0 39) ∧ SNT u p0 (gd) (gh) (gg) ∧ True)) ∧ HT cy GG Ps u ∧ FR wr_X10_readBracket__3 wa_X10_readBracket__3 Ps w0 u) (BB D cy (va_A w0 sz) (fun (u : va_W) => u)) (va_A w0 sz)) 0 0 (va_A w0 sz) := by
  refine Met.ofW (cc := cX10_readBracket) (maxL := 1) (ret := (some .boolean)) (by decide) rfl ?_
  intro p e s m args below meth c s₁ B hml hv
  obtain ⟨rfl, hsz, hP, hK, hD0, hSD⟩ := hv
  have hx := B.exec
  have hb := B.bytes
  have hr := B.returns
  have hlocks := B.notSynchronized
  have hts : ∀ w ∈ gT, w.before _ s = true := fun w h => atoms_spec (ws := Cond.code yX10_readBracket cX10_readBracket 1 (some .boolean) :: gT) B.pre w (List.mem_cons_of_mem _ h)
  have hown : s.vm.findClass RX10 = some m.cls := findClass_of_methodNamed B.named
  subst hsz
  have hD := hD0.self (sz := s.heap.size)
  generalize hAe : va_A w0 s.heap.size = A at hD hSD ⊢
  have hA : ∀ q : Nat, s.heap.size ≤ q → A q := fun q h => by rw [← hAe]; exact Or.inr h
  have hl := lv_entry ([.ref p0]) (n := 1) (Nat.le_of_ble_eq_true rfl)
  rw [lg_entry_eq]
  generalize (lg_sl ([.ref p0]) ++ List.replicate (1 - (lg_sl ([.ref p0])).length) Slot.unset).toArray = ls at hl ⊢
  have hl : lv_has ls 1 [(0, .ref p0)] := hl
  refine nameQ (fun Q hQ => ?_)
  have hw : WD D cy GG A s wr_X10_readBracket__3 wa_X10_readBracket__3 Ps w0 Ps w0 s.heap [] := ⟨hT, hP, hD, va_S.rf, FR.rf, hT.1, [], (List.append_nil _).symm⟩
  refine lv_aload_n hx hb dX10_readBracket_0 rfl (lv_at hl 0 rfl) ?_
  have d_8 := x_SNI_p0_gd_gh_gg.1
  have x_SN_p0_gd_1_gh_gg : SNp w0 p0 (gd+1) (gh) (gg) := x_SNI_p0_gd_gh_gg.2
  refine tk_i (va_runV (As := []) (rest := []) ⟨hx, hb, hml, hown, hts⟩ (c_X10_readOr__4 l D cy z s.heap.size Ps w0 hw.1 p0 f0_47 (gd+1) (gh) (gg) h_p0 r_f0_47 m_f0_47 x_SN_p0_gd_1_gh_gg) (cwV 0 hts (gV tw_1751 tw_1753 ts_111 tw_15 tw_1754) rfl rfl rfl (by decide +kernel) ⟨Nat.le_of_ble_eq_true rfl, Nat.le_of_ble_eq_true rfl⟩) (tg_preV hw hK hSD hA (ci := 10) (q := (RX10, TX10, 49)) rfl h_p0 rfl) rfl rfl hl.1 rfl (lv_room (Nat.le_of_ble_eq_true rfl)) dX10_readBracket_1 ⟨Nat.le_of_ble_eq_true rfl, Nat.le_of_ble_eq_true rfl⟩) hw hA ⟨by decide, by decide⟩ (fun v_1 ws H locs hp_v_1 hw hF9 => ?_)
  have r_v_1 : RI v_1 0 1 := hp_v_1.1
  by_cases c9_v_1 : v_1 = 0
  · have r_v_1 : RI v_1 0 0 := by rw [c9_v_1]; exact rl_0
    obtain ⟨v_2, m_v_2, r_v_2⟩ := ((hp_v_1.2.1 c9_v_1).1)
    refine lv_if_ne (tgt := 9) hx hb dX10_readBracket_4 (by decide) (fun c_4 => ?_) (fun c_4 => ?_)
    · exact absurd (r_v_1.eq.trans rl_0.eq.symm) ((ti_ne c_4))
    · refine lv_iconst (v := 0) hx hb dX10_readBracket_7 (by decide) ?_
      subst hQ
      exact W.zret (v := 0) hx hb hr (rfl) (fun t ht hW => ⟨⟨0, ws, rfl, ⟨⟨rl_0.to (by decide), (fun h0 => ⟨⟨_, m_v_2, r_v_2⟩, trivial⟩), (fun h0 => absurd rfl h0)⟩, hw.1, hw.2.2.2.2.1⟩, by rw [ht]; exact hw.2.1, va_K.moved hW.alike hK, hw.2.2.1⟩, hw.2.2.2.1.F ht⟩) hw.2.2.2.1.2.2 dX10_readBracket_8
  · have r_v_1 : RI v_1 1 1 := rc_neL r_v_1 rl_0 (ti_ne c9_v_1) (by decide)
    obtain ⟨v_3, m_v_3, r_v_3⟩ := ((hp_v_1.2.2 c9_v_1).1)
    obtain ⟨v_4, m_v_4, r_v_4⟩ := ((hp_v_1.2.2 c9_v_1).2.1)
    obtain ⟨v_5, m_v_5, r_v_5⟩ := ((hp_v_1.2.2 c9_v_1).2.2.1)
    have x_SNT_p0_gd_2_gh_1_gg := ((hp_v_1.2.2 c9_v_1).2.2.2.1)
    refine lv_if_ne (tgt := 9) hx hb dX10_readBracket_4 (by decide) (fun c_4 => ?_) (fun c_4 => ?_)
    · refine lv_aload_n hx hb dX10_readBracket_9 rfl (lv_at hl 0 rfl) ?_
      refine lv_bipush (v := 41) hx hb dX10_readBracket_10 (by decide) ?_
      refine tk_ir (va_runV (As := [.int 41]) (rest := []) ⟨hx, hb, hml, hown, hts⟩ (c_X10_isSign l D cy z H.size Ps ws hw.1 p0 41 h_p0 (rl_41.to (by decide))) (cwV 1 hts (gV tw_1413 tw_1415 ts_63 tw_15 tw_1416) rfl rfl rfl (by decide +kernel) ⟨Nat.le_of_ble_eq_true rfl, Nat.le_of_ble_eq_true rfl⟩) (tg_preV hw hK hSD hA (ci := 10) (q := (RX10, TX10, 49)) rfl h_p0 rfl) rfl rfl hl.1 rfl (lv_room (Nat.le_of_ble_eq_true rfl)) dX10_readBracket_12 ⟨Nat.le_of_ble_eq_true rfl, Nat.le_of_ble_eq_true rfl⟩) hw hA (fun v_6  H locs hp_v_6 hw => ?_)
      have r_v_6 : RI v_6 0 1 := hp_v_6.1
      by_cases c9_v_6 : v_6 = 0
      · have r_v_6 : RI v_6 0 0 := by rw [c9_v_6]; exact rl_0
        refine lv_if_ne (tgt := 24) hx hb dX10_readBracket_15 (by decide) (fun c_15 => ?_) (fun c_15 => ?_)
        · exact absurd (r_v_6.eq.trans rl_0.eq.symm) ((ti_ne c_15))
        · refine lv_aload_n hx hb dX10_readBracket_18 rfl (lv_at hl 0 rfl) ?_
          refine lv_iconst (v := 1) hx hb dX10_readBracket_19 (by decide) ?_
          refine tk_i (va_runV (As := [.int 1]) (rest := []) ⟨hx, hb, hml, hown, hts⟩ (c_X10_bad l D cy z H.size Ps ws hw.1 p0 1 h_p0 (rl_1.to (by decide))) (cwV 1 hts (gV tw_1336 tw_1338 ts_46 tw_15 tw_1339) rfl rfl rfl (by decide +kernel) ⟨Nat.le_of_ble_eq_true rfl, Nat.le_of_ble_eq_true rfl⟩) (tg_preV hw hK hSD hA (ci := 10) (q := (RX10, TX10, 49)) rfl h_p0 rfl) rfl rfl hl.1 rfl (lv_room (Nat.le_of_ble_eq_true rfl)) dX10_readBracket_20 ⟨Nat.le_of_ble_eq_true rfl, Nat.le_of_ble_eq_true rfl⟩) hw hA ⟨by decide, by decide⟩ (fun v_7 ws H locs hp_v_7 hw hF9 => ?_)
          have m_v_3 := FLD.over hF9 m_v_3 (by decide)
          have m_v_4 := FLD.over hF9 m_v_4 (by decide)
          have m_v_5 := FLD.over hF9 m_v_5 (by decide)
          have x_SNT_p0_gd_2_gh_1_gg := SNT.over hF9 x_SNT_p0_gd_2_gh_1_gg (by decide)
          have r_v_7 : RI v_7 0 0 := hp_v_7.1
          subst hQ
          exact W.zret (v := v_7) hx hb hr (tq_nz (r_v_7.to (by decide))) (fun t ht hW => ⟨⟨v_7, ws, rfl, ⟨⟨r_v_7.to (by decide), (fun h0 => ⟨⟨_, m_v_4, r_v_4⟩, trivial⟩), (fun h0 => absurd (Int32.toInt_inj.mp (by have h8 := r_v_7; unfold RI at h8; rw [Int32.toInt_zero]; omega)) h0)⟩, hw.1, hw.2.2.2.2.1⟩, by rw [ht]; exact hw.2.1, va_K.moved hW.alike hK, hw.2.2.1⟩, hw.2.2.2.1.F ht⟩) hw.2.2.2.1.2.2 dX10_readBracket_23
      · have r_v_6 : RI v_6 1 1 := rc_neL r_v_6 rl_0 (ti_ne c9_v_6) (by decide)
        obtain ⟨v_8, m_v_8, r_v_8⟩ := ((hp_v_6.2.2 c9_v_6).1)
        refine lv_if_ne (tgt := 24) hx hb dX10_readBracket_15 (by decide) (fun c_15 => ?_) (fun c_15 => ?_)
        · refine lv_aload_n hx hb dX10_readBracket_24 rfl (lv_at hl 0 rfl) ?_
          refine tk_v (va_runV (As := []) (rest := []) ⟨hx, hb, hml, hown, hts⟩ (c_X10_go l D cy z H.size Ps ws hw.1 p0 h_p0) (cwV 0 hts (gV tw_1298 tw_1300 ts_40 tw_15 tw_1301) rfl rfl rfl (by decide +kernel) ⟨Nat.le_of_ble_eq_true rfl, Nat.le_of_ble_eq_true rfl⟩) (tg_preV hw hK hSD hA (ci := 10) (q := (RX10, TX10, 49)) rfl h_p0 rfl) rfl rfl hl.1 rfl (lv_room (Nat.le_of_ble_eq_true rfl)) dX10_readBracket_25 ⟨Nat.le_of_ble_eq_true rfl, Nat.le_of_ble_eq_true rfl⟩) hw hA ⟨by decide, by decide⟩ (fun ws H locs hp_v_9 hw hF9 => ?_)
          have m_v_3 := FLD.over hF9 m_v_3 (by decide)
          have m_v_4 := FLD.over hF9 m_v_4 (by decide)
          have m_v_5 := FLD.over hF9 m_v_5 (by decide)
          have x_SNT_p0_gd_2_gh_1_gg := SNT.over hF9 x_SNT_p0_gd_2_gh_1_gg (by decide)
          have x_SNT_p0_gd_gh_gg : SNT ws p0 (gd) (gh) (gg) := x_SNT_p0_gd_2_gh_1_gg.weak (by have d_8 := SNp.le x_SNI_p0_gd_gh_gg.2; have d_7 := x_SNI_p0_gd_gh_gg.1; omega)
          refine lv_iconst (v := 1) hx hb dX10_readBracket_28 (by decide) ?_
          subst hQ
          exact W.zret (v := 1) hx hb hr (rfl) (fun t ht hW => ⟨⟨1, ws, rfl, ⟨⟨rl_1.to (by decide), (fun h0 => absurd h0 (by decide)), (fun h0 => ⟨⟨_, m_v_3, r_v_3⟩, ⟨_, m_v_4, r_v_4⟩, ⟨_, m_v_5, r_v_5⟩, x_SNT_p0_gd_gh_gg, trivial⟩)⟩, hw.1, hw.2.2.2.2.1⟩, by rw [ht]; exact hw.2.1, va_K.moved hW.alike hK, hw.2.2.1⟩, hw.2.2.2.1.F ht⟩) hw.2.2.2.1.2.2 dX10_readBracket_29
        · have r_v_6 : RI v_6 1 0 := rc_eq1 r_v_6 rl_0 (ti_eq c_15) (by decide)
          exact (r_v_6.no (by decide)).elim
    · have r_v_1 : RI v_1 1 0 := rc_eq1 r_v_1 rl_0 (ti_eq c_4) (by decide)
      exact (r_v_1.no (by decide)).elim
abbrev wr_X10_readNot__4 : List (Nat × Nat) := [(10, 5), (10, 6), (10, 7), (10, 8), (10, 9), (10, 10), (10, 11), (10, 12), (10, 13), (10, 45), (10, 46), (10, 47), (10, 48)]
abbrev wa_X10_readNot__4 : List Nat := [54]
set_option maxHeartbeats 4000000 in
set_option maxRecDepth 100000 in
theorem c_X10_readNot__4 (l : Launch) (D : va_G) (cy : Nat → ClassId) (z : Nat → Nat) (sz : Nat) (Ps : PSI) (w0 : va_W) (hT : HT cy GG Ps w0) (p0 : Nat) (f0_47 : Int32) (gd : Int) (gh : Int) (gg : Int) (h_p0 : (p0, 55) ∈ Ps) (r_f0_47 : RI f0_47 4 4) (m_f0_47 : FLD w0 p0 10 47 (.int f0_47)) (x_SNI_p0_gd_gh_gg : SNI w0 p0 (gd) (gh) (gg)) : Met l yX10_readNot (Cond.code yX10_readNot cX10_readNot 1 (some .boolean) :: gT) ({ frames := 21, cells := 0, slots := 0, locals := 4200 } : Room) (va_Pc [.ref p0] (PRE D cy z w0 sz)) (va_Qi (fun (r : Int32) (u : va_W) => (RI r 0 1 ∧ (r = 0 → (∃ v9 : Int32, FLD u p0 10 47 (.int v9) ∧ RI v9 4 4) ∧ True) ∧ (¬ r = 0 → (∃ v9 : Int32, FLD u p0 10 46 (.int v9) ∧ RI v9 1 20) ∧ (∃ v9 : Int32, FLD u p0 10 47 (.int v9) ∧ RI v9 4 4) ∧ (∃ v9 : Int32, FLD u p0 10 48 (.int v9) ∧ RI v9 0 39) ∧ SNT u p0 (gd) (gh) (gg) ∧ True)) ∧ HT cy GG Ps u ∧ FR wr_X10_readNot__4 wa_X10_readNot__4 Ps w0 u) (BB D cy (va_A w0 sz) (fun (u : va_W) => u)) (va_A w0 sz)) 0 0 (va_A w0 sz) := by
  refine Met.ofW (cc := cX10_readNot) (maxL := 1) (ret := (some .boolean)) (by decide) rfl ?_
  intro p e s m args below meth c s₁ B hml hv
  obtain ⟨rfl, hsz, hP, hK, hD0, hSD⟩ := hv
  have hx := B.exec
  have hb := B.bytes
  have hr := B.returns
  have hlocks := B.notSynchronized
  have hts : ∀ w ∈ gT, w.before _ s = true := fun w h => atoms_spec (ws := Cond.code yX10_readNot cX10_readNot 1 (some .boolean) :: gT) B.pre w (List.mem_cons_of_mem _ h)
  have hown : s.vm.findClass RX10 = some m.cls := findClass_of_methodNamed B.named
  subst hsz
  have hD := hD0.self (sz := s.heap.size)
  generalize hAe : va_A w0 s.heap.size = A at hD hSD ⊢
  have hA : ∀ q : Nat, s.heap.size ≤ q → A q := fun q h => by rw [← hAe]; exact Or.inr h
  have hl := lv_entry ([.ref p0]) (n := 1) (Nat.le_of_ble_eq_true rfl)
  rw [lg_entry_eq]
  generalize (lg_sl ([.ref p0]) ++ List.replicate (1 - (lg_sl ([.ref p0])).length) Slot.unset).toArray = ls at hl ⊢
  have hl : lv_has ls 1 [(0, .ref p0)] := hl
  refine nameQ (fun Q hQ => ?_)
  have hw : WD D cy GG A s wr_X10_readNot__4 wa_X10_readNot__4 Ps w0 Ps w0 s.heap [] := ⟨hT, hP, hD, va_S.rf, FR.rf, hT.1, [], (List.append_nil _).symm⟩
  refine lv_aload_n hx hb dX10_readNot_0 rfl (lv_at hl 0 rfl) ?_
  have x_SN_p0_gd_1_gh_gg : SNp w0 p0 (gd+1) (gh) (gg) := x_SNI_p0_gd_gh_gg.2
  refine tk_i (va_runV (As := []) (rest := []) ⟨hx, hb, hml, hown, hts⟩ (c_X10_readSaid__4 l D cy z s.heap.size Ps w0 hw.1 p0 f0_47 (gd+1) (gh) (gg) h_p0 r_f0_47 m_f0_47 x_SN_p0_gd_1_gh_gg) (cwV 0 hts (gV tw_1759 tw_1761 ts_113 tw_15 tw_1762) rfl rfl rfl (by decide +kernel) ⟨Nat.le_of_ble_eq_true rfl, Nat.le_of_ble_eq_true rfl⟩) (tg_preV hw hK hSD hA (ci := 10) (q := (RX10, TX10, 49)) rfl h_p0 rfl) rfl rfl hl.1 rfl (lv_room (Nat.le_of_ble_eq_true rfl)) dX10_readNot_1 ⟨Nat.le_of_ble_eq_true rfl, Nat.le_of_ble_eq_true rfl⟩) hw hA ⟨by decide, by decide⟩ (fun v_1 ws H locs hp_v_1 hw hF9 => ?_)
  have r_v_1 : RI v_1 0 1 := hp_v_1.1
  by_cases c9_v_1 : v_1 = 0
  · have r_v_1 : RI v_1 0 0 := by rw [c9_v_1]; exact rl_0
    obtain ⟨v_2, m_v_2, r_v_2⟩ := ((hp_v_1.2.1 c9_v_1).1)
    refine lv_if_ne (tgt := 9) hx hb dX10_readNot_4 (by decide) (fun c_4 => ?_) (fun c_4 => ?_)
    · exact absurd (r_v_1.eq.trans rl_0.eq.symm) ((ti_ne c_4))
    · refine lv_iconst (v := 0) hx hb dX10_readNot_7 (by decide) ?_
      subst hQ
      exact W.zret (v := 0) hx hb hr (rfl) (fun t ht hW => ⟨⟨0, ws, rfl, ⟨⟨rl_0.to (by decide), (fun h0 => ⟨⟨_, m_v_2, r_v_2⟩, trivial⟩), (fun h0 => absurd rfl h0)⟩, hw.1, hw.2.2.2.2.1⟩, by rw [ht]; exact hw.2.1, va_K.moved hW.alike hK, hw.2.2.1⟩, hw.2.2.2.1.F ht⟩) hw.2.2.2.1.2.2 dX10_readNot_8
  · have r_v_1 : RI v_1 1 1 := rc_neL r_v_1 rl_0 (ti_ne c9_v_1) (by decide)
    obtain ⟨v_3, m_v_3, r_v_3⟩ := ((hp_v_1.2.2 c9_v_1).1)
    obtain ⟨v_4, m_v_4, r_v_4⟩ := ((hp_v_1.2.2 c9_v_1).2.1)
    obtain ⟨v_5, m_v_5, r_v_5⟩ := ((hp_v_1.2.2 c9_v_1).2.2.1)
    have x_SNT_p0_gd_2_gh_1_gg := ((hp_v_1.2.2 c9_v_1).2.2.2.1)
    refine lv_if_ne (tgt := 9) hx hb dX10_readNot_4 (by decide) (fun c_4 => ?_) (fun c_4 => ?_)
    · refine lv_aload_n hx hb dX10_readNot_9 rfl (lv_at hl 0 rfl) ?_
      refine lv_aload_n hx hb dX10_readNot_10 rfl (lv_at hl 0 rfl) ?_
      refine lv_iconst (v := 1) hx hb dX10_readNot_11 (by decide) ?_
      refine lv_aload_n hx hb dX10_readNot_12 rfl (lv_at hl 0 rfl) ?_
      refine tg_mem (ci := 10) (C := RX10) (T := TX10) (N := 49) hx hb hts inX10 hown hK hw 48 m_v_4 rfl (by decide) (hts _ tw_1185) (fun _ h9 => h9) dX10_readNot_13 ?_
      refine lv_iconst (v := 0) hx hb dX10_readNot_16 (by decide) ?_
      refine lv_iconst (v := 0) hx hb dX10_readNot_17 (by decide) ?_
      have l9 := SNT.top hw x_SNT_p0_gd_2_gh_1_gg m_v_4
      have l8 := l9.le
      have x_SNI_p0_gd_1_gh_1_gg : SNI ws p0 (gd+1) (gh+1) (gg) := SNp.sni (SNT.sn x_SNT_p0_gd_2_gh_1_gg) (by have d_8 := SNp.le x_SNI_p0_gd_gh_gg.2; have d_7 := x_SNI_p0_gd_gh_gg.1; omega)
      have x_LTN_p0_v_4 : LTN ws p0 (v_4) := l9.ltn
      refine tk_i (va_runV (As := [.int 1, .int v_4, .int 0, .int 0]) (rest := [.ref p0]) ⟨hx, hb, hml, hown, hts⟩ (c_X10_saysOne__2 l D cy z H.size Ps ws hw.1 p0 1 v_4 0 0 (gd+1) (gh+1) (gg) h_p0 rl_1 (r_v_4.to (by decide)) (rl_0.to (by decide)) (rl_0.to (by decide)) x_SNI_p0_gd_1_gh_1_gg x_LTN_p0_v_4) (cwV 4 hts (gV tw_1771 tw_1773 ts_116 tw_15 tw_1774) rfl rfl rfl (by decide +kernel) ⟨Nat.le_of_ble_eq_true rfl, Nat.le_of_ble_eq_true rfl⟩) (tg_preV hw hK hSD hA (ci := 10) (q := (RX10, TX10, 49)) rfl h_p0 rfl) rfl rfl hl.1 rfl (lv_room (Nat.le_of_ble_eq_true rfl)) dX10_readNot_18 ⟨Nat.le_of_ble_eq_true rfl, Nat.le_of_ble_eq_true rfl⟩) hw hA ⟨by decide, by decide⟩ (fun v_6 ws H locs hp_v_6 hw hF9 => ?_)
      have m_v_3 := FLD.over hF9 m_v_3 (by decide)
      have m_v_4 := FLD.over hF9 m_v_4 (by decide)
      have m_v_5 := FLD.over hF9 m_v_5 (by decide)
      have r_v_6 : RI v_6 0 39 := hp_v_6.1
      have x_SNL_p0_gd_1_gh_1_gg_v_6 := hp_v_6.2.2.2.1.1
      refine tg_put (ci := 10) (ts := ty_MODEL) (v := .int v_6) (ty := .int) (C := RX10) (T := TX10) (N := 49) hx hb hts inX10 tyX10 tyX10_ok nmX10 hown hK hw h_p0 rfl rfl 48 (by decide) (hts _ tw_1185) (fun _ h9 => h9) rfl (by decide +kernel) rfl rfl (ft := vI (-2147483648) 2147483647) rfl ⟨_, rfl, (r_v_6.to (by decide))⟩ (by decide) dX10_readNot_21 (fun ws H locs hw n_k_7 hF9 => ?_)
      have m_v_3 := FLD.over hF9 m_v_3 (by decide)
      have m_v_5 := FLD.over hF9 m_v_5 (by decide)
      have x_SNL_p0_gd_1_gh_1_gg_v_6 := SNL.over hF9 x_SNL_p0_gd_1_gh_1_gg_v_6 (by decide)
      have x_SNT_p0_gd_gh_gg : SNT ws p0 (gd) (gh) (gg) := (x_SNL_p0_gd_1_gh_1_gg_v_6.weak (d' := gd) (h' := gh) (g' := gg) (by have k1 := x_SNL_p0_gd_1_gh_1_gg_v_6.le; have d_8 := SNp.le x_SNI_p0_gd_gh_gg.2; have d_7 := x_SNI_p0_gd_gh_gg.1; omega)).snt n_k_7
      refine lv_iconst (v := 1) hx hb dX10_readNot_24 (by decide) ?_
      subst hQ
      exact W.zret (v := 1) hx hb hr (rfl) (fun t ht hW => ⟨⟨1, ws, rfl, ⟨⟨rl_1.to (by decide), (fun h0 => absurd h0 (by decide)), (fun h0 => ⟨⟨_, m_v_3, r_v_3⟩, ⟨_, m_v_5, r_v_5⟩, ⟨_, n_k_7, r_v_6⟩, x_SNT_p0_gd_gh_gg, trivial⟩)⟩, hw.1, hw.2.2.2.2.1⟩, by rw [ht]; exact hw.2.1, va_K.moved hW.alike hK, hw.2.2.1⟩, hw.2.2.2.1.F ht⟩) hw.2.2.2.1.2.2 dX10_readNot_25
    · have r_v_1 : RI v_1 1 0 := rc_eq1 r_v_1 rl_0 (ti_eq c_4) (by decide)
      exact (r_v_1.no (by decide)).elim
abbrev wr_X10_readSaid__3 : List (Nat × Nat) := [(10, 5), (10, 6), (10, 7), (10, 8), (10, 9), (10, 10), (10, 11), (10, 12), (10, 13), (10, 45), (10, 46), (10, 47), (10, 48)]
abbrev wa_X10_readSaid__3 : List Nat := [54]
set_option maxHeartbeats 4000000 in
set_option maxRecDepth 100000 in
theorem c_X10_readSaid__3 (l : Launch) (D : va_G) (cy : Nat → ClassId) (z : Nat → Nat) (sz : Nat) (Ps : PSI) (w0 : va_W) (hT : HT cy GG Ps w0) (p0 : Nat) (f0_47 : Int32) (gd : Int) (gh : Int) (gg : Int) (h_p0 : (p0, 55) ∈ Ps) (r_f0_47 : RI f0_47 3 3) (m_f0_47 : FLD w0 p0 10 47 (.int f0_47)) (x_SN_p0_gd_gh_gg : SNp w0 p0 (gd) (gh) (gg)) : Met l yX10_readSaid (Cond.code yX10_readSaid cX10_readSaid 4 (some .boolean) :: gT) ({ frames := 24, cells := 0, slots := 0, locals := 4800 } : Room) (va_Pc [.ref p0] (PRE D cy z w0 sz)) (va_Qi (fun (r : Int32) (u : va_W) => (RI r 0 1 ∧ (r = 0 → (∃ v9 : Int32, FLD u p0 10 47 (.int v9) ∧ RI v9 3 3) ∧ True) ∧ (¬ r = 0 → (∃ v9 : Int32, FLD u p0 10 46 (.int v9) ∧ RI v9 1 20) ∧ (∃ v9 : Int32, FLD u p0 10 48 (.int v9) ∧ RI v9 0 39) ∧ (∃ v9 : Int32, FLD u p0 10 47 (.int v9) ∧ RI v9 3 3) ∧ SNT u p0 (gd+1) (gh+1) (gg) ∧ True)) ∧ HT cy GG Ps u ∧ FR wr_X10_readSaid__3 wa_X10_readSaid__3 Ps w0 u) (BB D cy (va_A w0 sz) (fun (u : va_W) => u)) (va_A w0 sz)) 0 0 (va_A w0 sz) := by
  refine Met.ofW (cc := cX10_readSaid) (maxL := 4) (ret := (some .boolean)) (by decide) rfl ?_
  intro p e s m args below meth c s₁ B hml hv
  obtain ⟨rfl, hsz, hP, hK, hD0, hSD⟩ := hv
  have hx := B.exec
  have hb := B.bytes
  have hr := B.returns
  have hlocks := B.notSynchronized
  have hts : ∀ w ∈ gT, w.before _ s = true := fun w h => atoms_spec (ws := Cond.code yX10_readSaid cX10_readSaid 4 (some .boolean) :: gT) B.pre w (List.mem_cons_of_mem _ h)
  have hown : s.vm.findClass RX10 = some m.cls := findClass_of_methodNamed B.named
  subst hsz
  have hD := hD0.self (sz := s.heap.size)
  generalize hAe : va_A w0 s.heap.size = A at hD hSD ⊢
  have hA : ∀ q : Nat, s.heap.size ≤ q → A q := fun q h => by rw [← hAe]; exact Or.inr h
  have hl := lv_entry ([.ref p0]) (n := 4) (Nat.le_of_ble_eq_true rfl)
  rw [lg_entry_eq]
  generalize (lg_sl ([.ref p0]) ++ List.replicate (4 - (lg_sl ([.ref p0])).length) Slot.unset).toArray = ls at hl ⊢
  have hl : lv_has ls 4 [(0, .ref p0)] := hl
  refine nameQ (fun Q hQ => ?_)
  have hw : WD D cy GG A s wr_X10_readSaid__3 wa_X10_readSaid__3 Ps w0 Ps w0 s.heap [] := ⟨hT, hP, hD, va_S.rf, FR.rf, hT.1, [], (List.append_nil _).symm⟩
  have B30 : ∀ (x1 : Int32) (x2 : Int32) (z0_47 : Int32) (ws : va_W) (H : Heap) (locs : List Loc) (ls : Array Slot), RI x1 0 1 → RI x2 18 28 → RI z0_47 3 3 → FLD ws p0 10 47 (.int z0_47) → SNp ws p0 (gd) (gh) (gg) → WD D cy GG A s wr_X10_readSaid__3 wa_X10_readSaid__3 Ps w0 Ps ws H locs → lv_has ls 4 [(0, .ref p0), (1, .int x1), (2, .int x2)] → W p l e (headSpec (Cond.code yX10_readSaid cX10_readSaid 4 (some .boolean) :: gT) ({ frames := 24, cells := 0, slots := 0, locals := 4800 } : Room)).room s m ([.ref p0] : List Value).toArray below meth c H locs 0 0 Q (F0 m 30 ls []) := by
    intro x1 x2 z0_47 ws H locs ls r_x1 r_x2 r_z0_47 m_z0_47 x_SN_p0_gd_gh_gg hw hl
    refine lv_iload_n hx hb dX10_readSaid_30 rfl (lv_at hl 1 rfl) ?_
    refine lv_if_ne (tgt := 46) hx hb dX10_readSaid_31 (by decide) (fun c_31 => ?_) (fun c_31 => ?_)
    · have r_x1 : RI x1 1 1 := rc_neL r_x1 rl_0 (ti_ne c_31) (by decide)
      refine lv_aload_n hx hb dX10_readSaid_46 rfl (lv_at hl 0 rfl) ?_
      refine tg_get (ci := 10) (ts := ty_MODEL) (C := RX10) (T := TX10) (N := 49) hx hb hts inX10 hown hK hw h_p0 rfl rfl 46 (by decide) (hts _ tw_1183) (fun _ h9 => h9) (ft := vI (-2147483648) 2147483647) rfl dX10_readSaid_47 (fun u_1 hv_u_1 m_u_1 => ?_)
      obtain ⟨vu_1, rfl, r_vu_1⟩ := hv_u_1
      obtain ⟨n9, hn9, rn9, r_vu_1, b9⟩ := SNp.getO hw x_SN_p0_gd_gh_gg m_u_1
      refine lv_bipush (v := 20) hx hb dX10_readSaid_50 (by decide) ?_
      refine lv_icmp_eq (tgt := 64) hx hb dX10_readSaid_52 (by decide) (fun c_52 => ?_) (fun c_52 => ?_)
      · have r_vu_1 : RI vu_1 20 20 := rc_eq1 r_vu_1 rl_20 (ti_eq c_52) (by decide)
        refine lv_aload_n hx hb dX10_readSaid_64 rfl (lv_at hl 0 rfl) ?_
        refine lv_iconst (v := 4) hx hb dX10_readSaid_65 (by decide) ?_
        refine tk_i (va_runV (As := [.int 4]) (rest := []) ⟨hx, hb, hml, hown, hts⟩ (c_X10_bad l D cy z H.size Ps ws hw.1 p0 4 h_p0 (rl_4.to (by decide))) (cwV 1 hts (gV tw_1336 tw_1338 ts_46 tw_15 tw_1339) rfl rfl rfl (by decide +kernel) ⟨Nat.le_of_ble_eq_true rfl, Nat.le_of_ble_eq_true rfl⟩) (tg_preV hw hK hSD hA (ci := 10) (q := (RX10, TX10, 49)) rfl h_p0 rfl) rfl rfl hl.1 rfl (lv_room (Nat.le_of_ble_eq_true rfl)) dX10_readSaid_66 ⟨Nat.le_of_ble_eq_true rfl, Nat.le_of_ble_eq_true rfl⟩) hw hA ⟨by decide, by decide⟩ (fun v_2 ws H locs hp_v_2 hw hF9 => ?_)
        have m_z0_47 := FLD.over hF9 m_z0_47 (by decide)
        have m_u_1 := FLD.over hF9 m_u_1 (by decide)
        have hn9 := FLD.over hF9 hn9 (by decide)
        have x_SN_p0_gd_gh_gg := SNp.over hF9 x_SN_p0_gd_gh_gg (by decide)
        have r_v_2 : RI v_2 0 0 := hp_v_2.1
        subst hQ
        exact W.zret (v := v_2) hx hb hr (tq_nz (r_v_2.to (by decide))) (fun t ht hW => ⟨⟨v_2, ws, rfl, ⟨⟨r_v_2.to (by decide), (fun h0 => ⟨⟨_, m_z0_47, r_z0_47⟩, trivial⟩), (fun h0 => absurd (Int32.toInt_inj.mp (by have h8 := r_v_2; unfold RI at h8; rw [Int32.toInt_zero]; omega)) h0)⟩, hw.1, hw.2.2.2.2.1⟩, by rw [ht]; exact hw.2.1, va_K.moved hW.alike hK, hw.2.2.1⟩, hw.2.2.2.1.F ht⟩) hw.2.2.2.1.2.2 dX10_readSaid_69
      · have r_vu_1 : RI vu_1 0 19 := rc_neU r_vu_1 rl_20 (ti_ne c_52) (by decide)
        refine lv_aload_n hx hb dX10_readSaid_55 rfl (lv_at hl 0 rfl) ?_
        refine tg_mem (ci := 10) (C := RX10) (T := TX10) (N := 49) hx hb hts inX10 hown hK hw 47 m_z0_47 rfl (by decide) (hts _ tw_1184) (fun _ h9 => h9) dX10_readSaid_56 ?_
        refine lv_bipush (v := 8) hx hb dX10_readSaid_59 (by decide) ?_
        refine lv_icmp_ne (tgt := 70) hx hb dX10_readSaid_61 (by decide) (fun c_61 => ?_) (fun c_61 => ?_)
        · refine lv_aload_n hx hb dX10_readSaid_70 rfl (lv_at hl 0 rfl) ?_
          refine lv_dup hx hb dX10_readSaid_71 rfl ?_
          refine tg_mem (ci := 10) (C := RX10) (T := TX10) (N := 49) hx hb hts inX10 hown hK hw 46 m_u_1 rfl (by decide) (hts _ tw_1183) (fun _ h9 => h9) dX10_readSaid_72 ?_
          refine lv_iconst (v := 1) hx hb dX10_readSaid_75 (by decide) ?_
          refine lv_iadd hx hb dX10_readSaid_76 (lv_topi (fun v_3 e_v_3 => ?_))
          obtain ⟨t_v_3, r_v_3⟩ := tq_add (lo := 1) (hi := 20) r_vu_1 rl_1 (by decide +kernel) e_v_3
          have t_v_3 : v_3.toInt = vu_1.toInt + 1 := t_v_3
          refine tg_put (ci := 10) (ts := ty_MODEL) (v := .int v_3) (ty := .int) (C := RX10) (T := TX10) (N := 49) hx hb hts inX10 tyX10 tyX10_ok nmX10 hown hK hw h_p0 rfl rfl 46 (by decide) (hts _ tw_1183) (fun _ h9 => h9) rfl (by decide +kernel) rfl rfl (ft := vI (-2147483648) 2147483647) rfl ⟨_, rfl, (r_v_3.to (by decide))⟩ (by decide) dX10_readSaid_77 (fun ws H locs hw n_k_4 hF9 => ?_)
          have m_z0_47 := FLD.over hF9 m_z0_47 (by decide)
          have hn9 := FLD.over hF9 hn9 (by decide)
          have x_SNI_p0_gd_1_gh_1_gg : SNI ws p0 (gd+1) (gh+1) (gg) := ⟨by omega, _, _, hn9, n_k_4, by have k1 := rn9.1; have k2 := r_v_3.2; omega⟩
          refine lv_aload_n hx hb dX10_readSaid_80 rfl (lv_at hl 0 rfl) ?_
          refine lv_dup hx hb dX10_readSaid_81 rfl ?_
          refine tg_mem (ci := 10) (C := RX10) (T := TX10) (N := 49) hx hb hts inX10 hown hK hw 47 m_z0_47 rfl (by decide) (hts _ tw_1184) (fun _ h9 => h9) dX10_readSaid_82 ?_
          refine lv_iconst (v := 1) hx hb dX10_readSaid_85 (by decide) ?_
          refine lv_iadd hx hb dX10_readSaid_86 (lv_topi (fun v_5 e_v_5 => ?_))
          obtain ⟨t_v_5, r_v_5⟩ := tq_add (lo := 4) (hi := 4) r_z0_47 rl_1 (by decide +kernel) e_v_5
          have t_v_5 : v_5.toInt = z0_47.toInt + 1 := t_v_5
          refine tg_put (ci := 10) (ts := ty_MODEL) (v := .int v_5) (ty := .int) (C := RX10) (T := TX10) (N := 49) hx hb hts inX10 tyX10 tyX10_ok nmX10 hown hK hw h_p0 rfl rfl 47 (by decide) (hts _ tw_1184) (fun _ h9 => h9) rfl (by decide +kernel) rfl rfl (ft := vI (-2147483648) 2147483647) rfl ⟨_, rfl, (r_v_5.to (by decide))⟩ (by decide) dX10_readSaid_87 (fun ws H locs hw n_k_6 hF9 => ?_)
          have hn9 := FLD.over hF9 hn9 (by decide)
          have n_k_4 := FLD.over hF9 n_k_4 (by decide)
          have x_SNI_p0_gd_1_gh_1_gg := SNI.over hF9 x_SNI_p0_gd_1_gh_1_gg (by decide)
          refine lv_aload_n hx hb dX10_readSaid_90 rfl (lv_at hl 0 rfl) ?_
          refine tk_v (va_runV (As := []) (rest := []) ⟨hx, hb, hml, hown, hts⟩ (c_X10_go l D cy z H.size Ps ws hw.1 p0 h_p0) (cwV 0 hts (gV tw_1298 tw_1300 ts_40 tw_15 tw_1301) rfl rfl rfl (by decide +kernel) ⟨Nat.le_of_ble_eq_true rfl, Nat.le_of_ble_eq_true rfl⟩) (tg_preV hw hK hSD hA (ci := 10) (q := (RX10, TX10, 49)) rfl h_p0 rfl) rfl rfl hl.1 rfl (lv_room (Nat.le_of_ble_eq_true rfl)) dX10_readSaid_91 ⟨Nat.le_of_ble_eq_true rfl, Nat.le_of_ble_eq_true rfl⟩) hw hA ⟨by decide, by decide⟩ (fun ws H locs hp_v_7 hw hF9 => ?_)
          have hn9 := FLD.over hF9 hn9 (by decide)
          have n_k_4 := FLD.over hF9 n_k_4 (by decide)
          have n_k_6 := FLD.over hF9 n_k_6 (by decide)
          have x_SNI_p0_gd_1_gh_1_gg := SNI.over hF9 x_SNI_p0_gd_1_gh_1_gg (by decide)
          refine lv_iconst (v := 1) hx hb dX10_readSaid_94 (by decide) ?_
          refine lv_istore_n (lv' := [(3, .int 1), (0, .ref p0), (1, .int x1), (2, .int x2)]) hx hb dX10_readSaid_95 rfl hl (by decide) rfl (fun ls hl => ?_)
          refine lv_iload_n hx hb dX10_readSaid_96 rfl (lv_at hl 2 rfl) ?_
          refine lv_if_eq (tgt := 108) hx hb dX10_readSaid_97 (by decide) (fun c_97 => ?_) (fun c_97 => ?_)
          · have r_x1 : RI x1 1 0 := rc_eq1 r_x1 rl_0 (ti_eq c_97) (by decide)
            exact (r_x1.no (by decide)).elim
          · refine lv_aload_n hx hb dX10_readSaid_100 rfl (lv_at hl 1 rfl) ?_
            refine tk_i (va_runV (As := []) (rest := []) ⟨hx, hb, hml, hown, hts⟩ (c_X10_readBracket__3 l D cy z H.size Ps ws hw.1 p0 v_5 (gd+1) (gh+1) (gg) h_p0 r_v_5 n_k_6 x_SNI_p0_gd_1_gh_1_gg) (cwV 0 hts (gV tw_1763 tw_1765 ts_114 tw_15 tw_1766) rfl rfl rfl (by decide +kernel) ⟨Nat.le_of_ble_eq_true rfl, Nat.le_of_ble_eq_true rfl⟩) (tg_preV hw hK hSD hA (ci := 10) (q := (RX10, TX10, 49)) rfl h_p0 rfl) rfl rfl hl.1 rfl (lv_room (Nat.le_of_ble_eq_true rfl)) dX10_readSaid_101 ⟨Nat.le_of_ble_eq_true rfl, Nat.le_of_ble_eq_true rfl⟩) hw hA ⟨by decide, by decide⟩ (fun v_8 ws H locs hp_v_8 hw hF9 => ?_)
            have r_v_8 : RI v_8 0 1 := hp_v_8.1
            by_cases c9_v_8 : v_8 = 0
            · have r_v_8 : RI v_8 0 0 := by rw [c9_v_8]; exact rl_0
              obtain ⟨v_9, m_v_9, r_v_9⟩ := ((hp_v_8.2.1 c9_v_8).1)
              refine lv_istore_n (lv' := [(3, .int v_8), (0, .ref p0), (1, .int x1), (2, .int x2)]) hx hb dX10_readSaid_104 rfl hl (by decide) rfl (fun ls hl => ?_)
              refine lv_goto (tgt := 166) hx hb dX10_readSaid_105 (by decide) ?_
              refine lv_aload_n hx hb dX10_readSaid_166 rfl (lv_at hl 1 rfl) ?_
              refine lv_dup hx hb dX10_readSaid_167 rfl ?_
              refine tg_mem (ci := 10) (C := RX10) (T := TX10) (N := 49) hx hb hts inX10 hown hK hw 47 m_v_9 rfl (by decide) (hts _ tw_1184) (fun _ h9 => h9) dX10_readSaid_168 ?_
              refine lv_iconst (v := 1) hx hb dX10_readSaid_171 (by decide) ?_
              refine lv_isub hx hb dX10_readSaid_172 (lv_topi (fun v_10 e_v_10 => ?_))
              obtain ⟨t_v_10, r_v_10⟩ := tq_sub (lo := 3) (hi := 3) r_v_9 rl_1 (by decide +kernel) e_v_10
              have t_v_10 : v_10.toInt = v_9.toInt - 1 := t_v_10
              refine tg_put (ci := 10) (ts := ty_MODEL) (v := .int v_10) (ty := .int) (C := RX10) (T := TX10) (N := 49) hx hb hts inX10 tyX10 tyX10_ok nmX10 hown hK hw h_p0 rfl rfl 47 (by decide) (hts _ tw_1184) (fun _ h9 => h9) rfl (by decide +kernel) rfl rfl (ft := vI (-2147483648) 2147483647) rfl ⟨_, rfl, (r_v_10.to (by decide))⟩ (by decide) dX10_readSaid_173 (fun ws H locs hw n_k_11 hF9 => ?_)
              refine lv_iload_n hx hb dX10_readSaid_176 rfl (lv_at hl 0 rfl) ?_
              subst hQ
              exact W.zret (v := v_8) hx hb hr (tq_nz (r_v_8.to (by decide))) (fun t ht hW => ⟨⟨v_8, ws, rfl, ⟨⟨r_v_8.to (by decide), (fun h0 => ⟨⟨_, n_k_11, r_v_10⟩, trivial⟩), (fun h0 => absurd (Int32.toInt_inj.mp (by have h8 := r_v_8; unfold RI at h8; rw [Int32.toInt_zero]; omega)) h0)⟩, hw.1, hw.2.2.2.2.1⟩, by rw [ht]; exact hw.2.1, va_K.moved hW.alike hK, hw.2.2.1⟩, hw.2.2.2.1.F ht⟩) hw.2.2.2.1.2.2 dX10_readSaid_177
            · have r_v_8 : RI v_8 1 1 := rc_neL r_v_8 rl_0 (ti_ne c9_v_8) (by decide)
              obtain ⟨v_12, m_v_12, r_v_12⟩ := ((hp_v_8.2.2 c9_v_8).1)
              obtain ⟨v_13, m_v_13, r_v_13⟩ := ((hp_v_8.2.2 c9_v_8).2.1)
              obtain ⟨v_14, m_v_14, r_v_14⟩ := ((hp_v_8.2.2 c9_v_8).2.2.1)
              have x_SNT_p0_gd_1_gh_1_gg := ((hp_v_8.2.2 c9_v_8).2.2.2.1)
              refine lv_istore_n (lv' := [(3, .int v_8), (0, .ref p0), (1, .int x1), (2, .int x2)]) hx hb dX10_readSaid_104 rfl hl (by decide) rfl (fun ls hl => ?_)
              refine lv_goto (tgt := 166) hx hb dX10_readSaid_105 (by decide) ?_
              refine lv_aload_n hx hb dX10_readSaid_166 rfl (lv_at hl 1 rfl) ?_
              refine lv_dup hx hb dX10_readSaid_167 rfl ?_
              refine tg_mem (ci := 10) (C := RX10) (T := TX10) (N := 49) hx hb hts inX10 hown hK hw 47 m_v_13 rfl (by decide) (hts _ tw_1184) (fun _ h9 => h9) dX10_readSaid_168 ?_
              refine lv_iconst (v := 1) hx hb dX10_readSaid_171 (by decide) ?_
              refine lv_isub hx hb dX10_readSaid_172 (lv_topi (fun v_15 e_v_15 => ?_))
              obtain ⟨t_v_15, r_v_15⟩ := tq_sub (lo := 3) (hi := 3) r_v_13 rl_1 (by decide +kernel) e_v_15
              have t_v_15 : v_15.toInt = v_13.toInt - 1 := t_v_15
              refine tg_put (ci := 10) (ts := ty_MODEL) (v := .int v_15) (ty := .int) (C := RX10) (T := TX10) (N := 49) hx hb hts inX10 tyX10 tyX10_ok nmX10 hown hK hw h_p0 rfl rfl 47 (by decide) (hts _ tw_1184) (fun _ h9 => h9) rfl (by decide +kernel) rfl rfl (ft := vI (-2147483648) 2147483647) rfl ⟨_, rfl, (r_v_15.to (by decide))⟩ (by decide) dX10_readSaid_173 (fun ws H locs hw n_k_16 hF9 => ?_)
              have m_v_12 := FLD.over hF9 m_v_12 (by decide)
              have m_v_14 := FLD.over hF9 m_v_14 (by decide)
              have x_SNT_p0_gd_1_gh_1_gg := SNT.over hF9 x_SNT_p0_gd_1_gh_1_gg (by decide)
              refine lv_iload_n hx hb dX10_readSaid_176 rfl (lv_at hl 0 rfl) ?_
              subst hQ
              exact W.zret (v := v_8) hx hb hr (tq_nz (r_v_8.to (by decide))) (fun t ht hW => ⟨⟨v_8, ws, rfl, ⟨⟨r_v_8.to (by decide), (fun h0 => absurd (ti_eq h0) (by have h8 := r_v_8; unfold RI at h8; rw [Int32.toInt_zero]; omega)), (fun h0 => ⟨⟨_, m_v_12, r_v_12⟩, ⟨_, m_v_14, r_v_14⟩, ⟨_, n_k_16, r_v_15⟩, x_SNT_p0_gd_1_gh_1_gg, trivial⟩)⟩, hw.1, hw.2.2.2.2.1⟩, by rw [ht]; exact hw.2.1, va_K.moved hW.alike hK, hw.2.2.1⟩, hw.2.2.2.1.F ht⟩) hw.2.2.2.1.2.2 dX10_readSaid_177
        · have r_z0_47 : RI z0_47 8 3 := rc_eq1 r_z0_47 rl_8 (ti_eq c_61) (by decide)
          exact (r_z0_47.no (by decide)).elim
    · have r_x1 : RI x1 0 0 := rc_eq1 r_x1 rl_0 (ti_eq c_31) (by decide)
      refine lv_iload_n hx hb dX10_readSaid_34 rfl (lv_at hl 2 rfl) ?_
      refine lv_bipush (v := 27) hx hb dX10_readSaid_35 (by decide) ?_
      refine lv_icmp_le (tgt := 46) hx hb dX10_readSaid_37 (by decide) (fun c_37 => ?_) (fun c_37 => ?_)
      · have r_x2 : RI x2 18 27 := rc_le1 r_x2 rl_27 (ti_le c_37) (by decide)
        refine lv_aload_n hx hb dX10_readSaid_46 rfl (lv_at hl 0 rfl) ?_
        refine tg_get (ci := 10) (ts := ty_MODEL) (C := RX10) (T := TX10) (N := 49) hx hb hts inX10 hown hK hw h_p0 rfl rfl 46 (by decide) (hts _ tw_1183) (fun _ h9 => h9) (ft := vI (-2147483648) 2147483647) rfl dX10_readSaid_47 (fun u_17 hv_u_17 m_u_17 => ?_)
        obtain ⟨vu_17, rfl, r_vu_17⟩ := hv_u_17
        obtain ⟨n9, hn9, rn9, r_vu_17, b9⟩ := SNp.getO hw x_SN_p0_gd_gh_gg m_u_17
        refine lv_bipush (v := 20) hx hb dX10_readSaid_50 (by decide) ?_
        refine lv_icmp_eq (tgt := 64) hx hb dX10_readSaid_52 (by decide) (fun c_52 => ?_) (fun c_52 => ?_)
        · have r_vu_17 : RI vu_17 20 20 := rc_eq1 r_vu_17 rl_20 (ti_eq c_52) (by decide)
          refine lv_aload_n hx hb dX10_readSaid_64 rfl (lv_at hl 0 rfl) ?_
          refine lv_iconst (v := 4) hx hb dX10_readSaid_65 (by decide) ?_
          refine tk_i (va_runV (As := [.int 4]) (rest := []) ⟨hx, hb, hml, hown, hts⟩ (c_X10_bad l D cy z H.size Ps ws hw.1 p0 4 h_p0 (rl_4.to (by decide))) (cwV 1 hts (gV tw_1336 tw_1338 ts_46 tw_15 tw_1339) rfl rfl rfl (by decide +kernel) ⟨Nat.le_of_ble_eq_true rfl, Nat.le_of_ble_eq_true rfl⟩) (tg_preV hw hK hSD hA (ci := 10) (q := (RX10, TX10, 49)) rfl h_p0 rfl) rfl rfl hl.1 rfl (lv_room (Nat.le_of_ble_eq_true rfl)) dX10_readSaid_66 ⟨Nat.le_of_ble_eq_true rfl, Nat.le_of_ble_eq_true rfl⟩) hw hA ⟨by decide, by decide⟩ (fun v_18 ws H locs hp_v_18 hw hF9 => ?_)
          have m_z0_47 := FLD.over hF9 m_z0_47 (by decide)
          have m_u_17 := FLD.over hF9 m_u_17 (by decide)
          have hn9 := FLD.over hF9 hn9 (by decide)
          have x_SN_p0_gd_gh_gg := SNp.over hF9 x_SN_p0_gd_gh_gg (by decide)
          have r_v_18 : RI v_18 0 0 := hp_v_18.1
          subst hQ
          exact W.zret (v := v_18) hx hb hr (tq_nz (r_v_18.to (by decide))) (fun t ht hW => ⟨⟨v_18, ws, rfl, ⟨⟨r_v_18.to (by decide), (fun h0 => ⟨⟨_, m_z0_47, r_z0_47⟩, trivial⟩), (fun h0 => absurd (Int32.toInt_inj.mp (by have h8 := r_v_18; unfold RI at h8; rw [Int32.toInt_zero]; omega)) h0)⟩, hw.1, hw.2.2.2.2.1⟩, by rw [ht]; exact hw.2.1, va_K.moved hW.alike hK, hw.2.2.1⟩, hw.2.2.2.1.F ht⟩) hw.2.2.2.1.2.2 dX10_readSaid_69
        · have r_vu_17 : RI vu_17 0 19 := rc_neU r_vu_17 rl_20 (ti_ne c_52) (by decide)
          refine lv_aload_n hx hb dX10_readSaid_55 rfl (lv_at hl 0 rfl) ?_
          refine tg_mem (ci := 10) (C := RX10) (T := TX10) (N := 49) hx hb hts inX10 hown hK hw 47 m_z0_47 rfl (by decide) (hts _ tw_1184) (fun _ h9 => h9) dX10_readSaid_56 ?_
          refine lv_bipush (v := 8) hx hb dX10_readSaid_59 (by decide) ?_
          refine lv_icmp_ne (tgt := 70) hx hb dX10_readSaid_61 (by decide) (fun c_61 => ?_) (fun c_61 => ?_)
          · refine lv_aload_n hx hb dX10_readSaid_70 rfl (lv_at hl 0 rfl) ?_
            refine lv_dup hx hb dX10_readSaid_71 rfl ?_
            refine tg_mem (ci := 10) (C := RX10) (T := TX10) (N := 49) hx hb hts inX10 hown hK hw 46 m_u_17 rfl (by decide) (hts _ tw_1183) (fun _ h9 => h9) dX10_readSaid_72 ?_
            refine lv_iconst (v := 1) hx hb dX10_readSaid_75 (by decide) ?_
            refine lv_iadd hx hb dX10_readSaid_76 (lv_topi (fun v_19 e_v_19 => ?_))
            obtain ⟨t_v_19, r_v_19⟩ := tq_add (lo := 1) (hi := 20) r_vu_17 rl_1 (by decide +kernel) e_v_19
            have t_v_19 : v_19.toInt = vu_17.toInt + 1 := t_v_19
            refine tg_put (ci := 10) (ts := ty_MODEL) (v := .int v_19) (ty := .int) (C := RX10) (T := TX10) (N := 49) hx hb hts inX10 tyX10 tyX10_ok nmX10 hown hK hw h_p0 rfl rfl 46 (by decide) (hts _ tw_1183) (fun _ h9 => h9) rfl (by decide +kernel) rfl rfl (ft := vI (-2147483648) 2147483647) rfl ⟨_, rfl, (r_v_19.to (by decide))⟩ (by decide) dX10_readSaid_77 (fun ws H locs hw n_k_20 hF9 => ?_)
            have m_z0_47 := FLD.over hF9 m_z0_47 (by decide)
            have hn9 := FLD.over hF9 hn9 (by decide)
            have x_SNI_p0_gd_1_gh_1_gg : SNI ws p0 (gd+1) (gh+1) (gg) := ⟨by omega, _, _, hn9, n_k_20, by have k1 := rn9.1; have k2 := r_v_19.2; omega⟩
            refine lv_aload_n hx hb dX10_readSaid_80 rfl (lv_at hl 0 rfl) ?_
            refine lv_dup hx hb dX10_readSaid_81 rfl ?_
            refine tg_mem (ci := 10) (C := RX10) (T := TX10) (N := 49) hx hb hts inX10 hown hK hw 47 m_z0_47 rfl (by decide) (hts _ tw_1184) (fun _ h9 => h9) dX10_readSaid_82 ?_
            refine lv_iconst (v := 1) hx hb dX10_readSaid_85 (by decide) ?_
            refine lv_iadd hx hb dX10_readSaid_86 (lv_topi (fun v_21 e_v_21 => ?_))
            obtain ⟨t_v_21, r_v_21⟩ := tq_add (lo := 4) (hi := 4) r_z0_47 rl_1 (by decide +kernel) e_v_21
            have t_v_21 : v_21.toInt = z0_47.toInt + 1 := t_v_21
            refine tg_put (ci := 10) (ts := ty_MODEL) (v := .int v_21) (ty := .int) (C := RX10) (T := TX10) (N := 49) hx hb hts inX10 tyX10 tyX10_ok nmX10 hown hK hw h_p0 rfl rfl 47 (by decide) (hts _ tw_1184) (fun _ h9 => h9) rfl (by decide +kernel) rfl rfl (ft := vI (-2147483648) 2147483647) rfl ⟨_, rfl, (r_v_21.to (by decide))⟩ (by decide) dX10_readSaid_87 (fun ws H locs hw n_k_22 hF9 => ?_)
            have hn9 := FLD.over hF9 hn9 (by decide)
            have n_k_20 := FLD.over hF9 n_k_20 (by decide)
            have x_SNI_p0_gd_1_gh_1_gg := SNI.over hF9 x_SNI_p0_gd_1_gh_1_gg (by decide)
            refine lv_aload_n hx hb dX10_readSaid_90 rfl (lv_at hl 0 rfl) ?_
            refine tk_v (va_runV (As := []) (rest := []) ⟨hx, hb, hml, hown, hts⟩ (c_X10_go l D cy z H.size Ps ws hw.1 p0 h_p0) (cwV 0 hts (gV tw_1298 tw_1300 ts_40 tw_15 tw_1301) rfl rfl rfl (by decide +kernel) ⟨Nat.le_of_ble_eq_true rfl, Nat.le_of_ble_eq_true rfl⟩) (tg_preV hw hK hSD hA (ci := 10) (q := (RX10, TX10, 49)) rfl h_p0 rfl) rfl rfl hl.1 rfl (lv_room (Nat.le_of_ble_eq_true rfl)) dX10_readSaid_91 ⟨Nat.le_of_ble_eq_true rfl, Nat.le_of_ble_eq_true rfl⟩) hw hA ⟨by decide, by decide⟩ (fun ws H locs hp_v_23 hw hF9 => ?_)
            have hn9 := FLD.over hF9 hn9 (by decide)
            have n_k_20 := FLD.over hF9 n_k_20 (by decide)
            have n_k_22 := FLD.over hF9 n_k_22 (by decide)
            have x_SNI_p0_gd_1_gh_1_gg := SNI.over hF9 x_SNI_p0_gd_1_gh_1_gg (by decide)
            refine lv_iconst (v := 1) hx hb dX10_readSaid_94 (by decide) ?_
            refine lv_istore_n (lv' := [(3, .int 1), (0, .ref p0), (1, .int x1), (2, .int x2)]) hx hb dX10_readSaid_95 rfl hl (by decide) rfl (fun ls hl => ?_)
            refine lv_iload_n hx hb dX10_readSaid_96 rfl (lv_at hl 2 rfl) ?_
            refine lv_if_eq (tgt := 108) hx hb dX10_readSaid_97 (by decide) (fun c_97 => ?_) (fun c_97 => ?_)
            · refine lv_iload_n hx hb dX10_readSaid_108 rfl (lv_at hl 3 rfl) ?_
              refine lv_bipush (v := 18) hx hb dX10_readSaid_109 (by decide) ?_
              refine lv_icmp_ne (tgt := 122) hx hb dX10_readSaid_111 (by decide) (fun c_111 => ?_) (fun c_111 => ?_)
              · have r_x2 : RI x2 19 27 := rc_neL r_x2 rl_18 (ti_ne c_111) (by decide)
                refine lv_iload_n hx hb dX10_readSaid_122 rfl (lv_at hl 3 rfl) ?_
                refine lv_bipush (v := 22) hx hb dX10_readSaid_123 (by decide) ?_
                refine lv_icmp_ge (tgt := 146) hx hb dX10_readSaid_125 (by decide) (fun c_125 => ?_) (fun c_125 => ?_)
                · have r_x2 : RI x2 22 27 := rc_le2 rl_22 r_x2 (ti_le c_125) (by decide)
                  refine lv_iload_n hx hb dX10_readSaid_146 rfl (lv_at hl 3 rfl) ?_
                  refine lv_bipush (v := 24) hx hb dX10_readSaid_147 (by decide) ?_
                  refine lv_icmp_ge (tgt := 160) hx hb dX10_readSaid_149 (by decide) (fun c_149 => ?_) (fun c_149 => ?_)
                  · have r_x2 : RI x2 24 27 := rc_le2 rl_24 r_x2 (ti_le c_149) (by decide)
                    refine lv_aload_n hx hb dX10_readSaid_160 rfl (lv_at hl 1 rfl) ?_
                    refine lv_iload_n hx hb dX10_readSaid_161 rfl (lv_at hl 3 rfl) ?_
                    refine tk_i (va_runV (As := [.int x2]) (rest := []) ⟨hx, hb, hml, hown, hts⟩ (c_X10_readCompare l D cy z H.size Ps ws hw.1 p0 x2 (gd+1) (gh+1) (gg) h_p0 r_x2 x_SNI_p0_gd_1_gh_1_gg) (cwV 1 hts (gV tw_1779 tw_1781 ts_118 tw_15 tw_1782) rfl rfl rfl (by decide +kernel) ⟨Nat.le_of_ble_eq_true rfl, Nat.le_of_ble_eq_true rfl⟩) (tg_preV hw hK hSD hA (ci := 10) (q := (RX10, TX10, 49)) rfl h_p0 rfl) rfl rfl hl.1 rfl (lv_room (Nat.le_of_ble_eq_true rfl)) dX10_readSaid_162 ⟨Nat.le_of_ble_eq_true rfl, Nat.le_of_ble_eq_true rfl⟩) hw hA ⟨by decide, by decide⟩ (fun v_24 ws H locs hp_v_24 hw hF9 => ?_)
                    have n_k_20 := FLD.over hF9 n_k_20 (by decide)
                    have n_k_22 := FLD.over hF9 n_k_22 (by decide)
                    have r_v_24 : RI v_24 0 1 := hp_v_24.1
                    by_cases c9_v_24 : v_24 = 0
                    · have r_v_24 : RI v_24 0 0 := by rw [c9_v_24]; exact rl_0
                      refine lv_istore_n (lv' := [(3, .int v_24), (0, .ref p0), (1, .int x1), (2, .int x2)]) hx hb dX10_readSaid_165 rfl hl (by decide) rfl (fun ls hl => ?_)
                      refine lv_aload_n hx hb dX10_readSaid_166 rfl (lv_at hl 1 rfl) ?_
                      refine lv_dup hx hb dX10_readSaid_167 rfl ?_
                      refine tg_mem (ci := 10) (C := RX10) (T := TX10) (N := 49) hx hb hts inX10 hown hK hw 47 n_k_22 rfl (by decide) (hts _ tw_1184) (fun _ h9 => h9) dX10_readSaid_168 ?_
                      refine lv_iconst (v := 1) hx hb dX10_readSaid_171 (by decide) ?_
                      refine lv_isub hx hb dX10_readSaid_172 (lv_topi (fun v_25 e_v_25 => ?_))
                      obtain ⟨t_v_25, r_v_25⟩ := tq_sub (lo := 3) (hi := 3) r_v_21 rl_1 (by decide +kernel) e_v_25
                      have t_v_25 : v_25.toInt = v_21.toInt - 1 := t_v_25
                      refine tg_put (ci := 10) (ts := ty_MODEL) (v := .int v_25) (ty := .int) (C := RX10) (T := TX10) (N := 49) hx hb hts inX10 tyX10 tyX10_ok nmX10 hown hK hw h_p0 rfl rfl 47 (by decide) (hts _ tw_1184) (fun _ h9 => h9) rfl (by decide +kernel) rfl rfl (ft := vI (-2147483648) 2147483647) rfl ⟨_, rfl, (r_v_25.to (by decide))⟩ (by decide) dX10_readSaid_173 (fun ws H locs hw n_k_26 hF9 => ?_)
                      have n_k_20 := FLD.over hF9 n_k_20 (by decide)
                      refine lv_iload_n hx hb dX10_readSaid_176 rfl (lv_at hl 0 rfl) ?_
                      subst hQ
                      exact W.zret (v := v_24) hx hb hr (tq_nz (r_v_24.to (by decide))) (fun t ht hW => ⟨⟨v_24, ws, rfl, ⟨⟨r_v_24.to (by decide), (fun h0 => ⟨⟨_, n_k_26, r_v_25⟩, trivial⟩), (fun h0 => absurd (Int32.toInt_inj.mp (by have h8 := r_v_24; unfold RI at h8; rw [Int32.toInt_zero]; omega)) h0)⟩, hw.1, hw.2.2.2.2.1⟩, by rw [ht]; exact hw.2.1, va_K.moved hW.alike hK, hw.2.2.1⟩, hw.2.2.2.1.F ht⟩) hw.2.2.2.1.2.2 dX10_readSaid_177
                    · have r_v_24 : RI v_24 1 1 := rc_neL r_v_24 rl_0 (ti_ne c9_v_24) (by decide)
                      obtain ⟨v_27, m_v_27, r_v_27⟩ := ((hp_v_24.2.2 c9_v_24).1)
                      obtain ⟨v_28, m_v_28, r_v_28⟩ := ((hp_v_24.2.2 c9_v_24).2.1)
                      have x_SNT_p0_gd_1_gh_1_gg := ((hp_v_24.2.2 c9_v_24).2.2.1)
                      refine lv_istore_n (lv' := [(3, .int v_24), (0, .ref p0), (1, .int x1), (2, .int x2)]) hx hb dX10_readSaid_165 rfl hl (by decide) rfl (fun ls hl => ?_)
                      refine lv_aload_n hx hb dX10_readSaid_166 rfl (lv_at hl 1 rfl) ?_
                      refine lv_dup hx hb dX10_readSaid_167 rfl ?_
                      refine tg_mem (ci := 10) (C := RX10) (T := TX10) (N := 49) hx hb hts inX10 hown hK hw 47 n_k_22 rfl (by decide) (hts _ tw_1184) (fun _ h9 => h9) dX10_readSaid_168 ?_
                      refine lv_iconst (v := 1) hx hb dX10_readSaid_171 (by decide) ?_
                      refine lv_isub hx hb dX10_readSaid_172 (lv_topi (fun v_29 e_v_29 => ?_))
                      obtain ⟨t_v_29, r_v_29⟩ := tq_sub (lo := 3) (hi := 3) r_v_21 rl_1 (by decide +kernel) e_v_29
                      have t_v_29 : v_29.toInt = v_21.toInt - 1 := t_v_29
                      refine tg_put (ci := 10) (ts := ty_MODEL) (v := .int v_29) (ty := .int) (C := RX10) (T := TX10) (N := 49) hx hb hts inX10 tyX10 tyX10_ok nmX10 hown hK hw h_p0 rfl rfl 47 (by decide) (hts _ tw_1184) (fun _ h9 => h9) rfl (by decide +kernel) rfl rfl (ft := vI (-2147483648) 2147483647) rfl ⟨_, rfl, (r_v_29.to (by decide))⟩ (by decide) dX10_readSaid_173 (fun ws H locs hw n_k_30 hF9 => ?_)
                      have n_k_20 := FLD.over hF9 n_k_20 (by decide)
                      have m_v_27 := FLD.over hF9 m_v_27 (by decide)
                      have m_v_28 := FLD.over hF9 m_v_28 (by decide)
                      have x_SNT_p0_gd_1_gh_1_gg := SNT.over hF9 x_SNT_p0_gd_1_gh_1_gg (by decide)
                      refine lv_iload_n hx hb dX10_readSaid_176 rfl (lv_at hl 0 rfl) ?_
                      subst hQ
                      exact W.zret (v := v_24) hx hb hr (tq_nz (r_v_24.to (by decide))) (fun t ht hW => ⟨⟨v_24, ws, rfl, ⟨⟨r_v_24.to (by decide), (fun h0 => absurd (ti_eq h0) (by have h8 := r_v_24; unfold RI at h8; rw [Int32.toInt_zero]; omega)), (fun h0 => ⟨⟨_, n_k_20, r_v_19⟩, ⟨_, m_v_28, r_v_28⟩, ⟨_, n_k_30, r_v_29⟩, x_SNT_p0_gd_1_gh_1_gg, trivial⟩)⟩, hw.1, hw.2.2.2.2.1⟩, by rw [ht]; exact hw.2.1, va_K.moved hW.alike hK, hw.2.2.1⟩, hw.2.2.2.1.F ht⟩) hw.2.2.2.1.2.2 dX10_readSaid_177
                  · have r_x2 : RI x2 22 23 := rc_lt1 r_x2 rl_24 (ti_nle c_149) (by decide)
                    refine lv_aload_n hx hb dX10_readSaid_152 rfl (lv_at hl 1 rfl) ?_
                    refine lv_iload_n hx hb dX10_readSaid_153 rfl (lv_at hl 3 rfl) ?_
                    refine tk_i (va_runV (As := [.int x2]) (rest := []) ⟨hx, hb, hml, hown, hts⟩ (c_X10_readOf l D cy z H.size Ps ws hw.1 p0 x2 (gd+1) (gh+1) (gg) h_p0 r_x2 x_SNI_p0_gd_1_gh_1_gg) (cwV 1 hts (gV tw_1775 tw_1777 ts_117 tw_15 tw_1778) rfl rfl rfl (by decide +kernel) ⟨Nat.le_of_ble_eq_true rfl, Nat.le_of_ble_eq_true rfl⟩) (tg_preV hw hK hSD hA (ci := 10) (q := (RX10, TX10, 49)) rfl h_p0 rfl) rfl rfl hl.1 rfl (lv_room (Nat.le_of_ble_eq_true rfl)) dX10_readSaid_154 ⟨Nat.le_of_ble_eq_true rfl, Nat.le_of_ble_eq_true rfl⟩) hw hA ⟨by decide, by decide⟩ (fun v_31 ws H locs hp_v_31 hw hF9 => ?_)
                    have n_k_20 := FLD.over hF9 n_k_20 (by decide)
                    have n_k_22 := FLD.over hF9 n_k_22 (by decide)
                    have r_v_31 : RI v_31 0 1 := hp_v_31.1
                    by_cases c9_v_31 : v_31 = 0
                    · have r_v_31 : RI v_31 0 0 := by rw [c9_v_31]; exact rl_0
                      refine lv_goto (tgt := 165) hx hb dX10_readSaid_157 (by decide) ?_
                      refine lv_istore_n (lv' := [(3, .int v_31), (0, .ref p0), (1, .int x1), (2, .int x2)]) hx hb dX10_readSaid_165 rfl hl (by decide) rfl (fun ls hl => ?_)
                      refine lv_aload_n hx hb dX10_readSaid_166 rfl (lv_at hl 1 rfl) ?_
                      refine lv_dup hx hb dX10_readSaid_167 rfl ?_
                      refine tg_mem (ci := 10) (C := RX10) (T := TX10) (N := 49) hx hb hts inX10 hown hK hw 47 n_k_22 rfl (by decide) (hts _ tw_1184) (fun _ h9 => h9) dX10_readSaid_168 ?_
                      refine lv_iconst (v := 1) hx hb dX10_readSaid_171 (by decide) ?_
                      refine lv_isub hx hb dX10_readSaid_172 (lv_topi (fun v_32 e_v_32 => ?_))
                      obtain ⟨t_v_32, r_v_32⟩ := tq_sub (lo := 3) (hi := 3) r_v_21 rl_1 (by decide +kernel) e_v_32
                      have t_v_32 : v_32.toInt = v_21.toInt - 1 := t_v_32
                      refine tg_put (ci := 10) (ts := ty_MODEL) (v := .int v_32) (ty := .int) (C := RX10) (T := TX10) (N := 49) hx hb hts inX10 tyX10 tyX10_ok nmX10 hown hK hw h_p0 rfl rfl 47 (by decide) (hts _ tw_1184) (fun _ h9 => h9) rfl (by decide +kernel) rfl rfl (ft := vI (-2147483648) 2147483647) rfl ⟨_, rfl, (r_v_32.to (by decide))⟩ (by decide) dX10_readSaid_173 (fun ws H locs hw n_k_33 hF9 => ?_)
                      have n_k_20 := FLD.over hF9 n_k_20 (by decide)
                      refine lv_iload_n hx hb dX10_readSaid_176 rfl (lv_at hl 0 rfl) ?_
                      subst hQ
                      exact W.zret (v := v_31) hx hb hr (tq_nz (r_v_31.to (by decide))) (fun t ht hW => ⟨⟨v_31, ws, rfl, ⟨⟨r_v_31.to (by decide), (fun h0 => ⟨⟨_, n_k_33, r_v_32⟩, trivial⟩), (fun h0 => absurd (Int32.toInt_inj.mp (by have h8 := r_v_31; unfold RI at h8; rw [Int32.toInt_zero]; omega)) h0)⟩, hw.1, hw.2.2.2.2.1⟩, by rw [ht]; exact hw.2.1, va_K.moved hW.alike hK, hw.2.2.1⟩, hw.2.2.2.1.F ht⟩) hw.2.2.2.1.2.2 dX10_readSaid_177
                    · have r_v_31 : RI v_31 1 1 := rc_neL r_v_31 rl_0 (ti_ne c9_v_31) (by decide)
                      obtain ⟨v_34, m_v_34, r_v_34⟩ := ((hp_v_31.2.2 c9_v_31).1)
                      obtain ⟨v_35, m_v_35, r_v_35⟩ := ((hp_v_31.2.2 c9_v_31).2.1)
                      have x_SNT_p0_gd_1_gh_1_gg := ((hp_v_31.2.2 c9_v_31).2.2.1)
                      refine lv_goto (tgt := 165) hx hb dX10_readSaid_157 (by decide) ?_
                      refine lv_istore_n (lv' := [(3, .int v_31), (0, .ref p0), (1, .int x1), (2, .int x2)]) hx hb dX10_readSaid_165 rfl hl (by decide) rfl (fun ls hl => ?_)
                      refine lv_aload_n hx hb dX10_readSaid_166 rfl (lv_at hl 1 rfl) ?_
                      refine lv_dup hx hb dX10_readSaid_167 rfl ?_
                      refine tg_mem (ci := 10) (C := RX10) (T := TX10) (N := 49) hx hb hts inX10 hown hK hw 47 n_k_22 rfl (by decide) (hts _ tw_1184) (fun _ h9 => h9) dX10_readSaid_168 ?_
                      refine lv_iconst (v := 1) hx hb dX10_readSaid_171 (by decide) ?_
                      refine lv_isub hx hb dX10_readSaid_172 (lv_topi (fun v_36 e_v_36 => ?_))
                      obtain ⟨t_v_36, r_v_36⟩ := tq_sub (lo := 3) (hi := 3) r_v_21 rl_1 (by decide +kernel) e_v_36
                      have t_v_36 : v_36.toInt = v_21.toInt - 1 := t_v_36
                      refine tg_put (ci := 10) (ts := ty_MODEL) (v := .int v_36) (ty := .int) (C := RX10) (T := TX10) (N := 49) hx hb hts inX10 tyX10 tyX10_ok nmX10 hown hK hw h_p0 rfl rfl 47 (by decide) (hts _ tw_1184) (fun _ h9 => h9) rfl (by decide +kernel) rfl rfl (ft := vI (-2147483648) 2147483647) rfl ⟨_, rfl, (r_v_36.to (by decide))⟩ (by decide) dX10_readSaid_173 (fun ws H locs hw n_k_37 hF9 => ?_)
                      have n_k_20 := FLD.over hF9 n_k_20 (by decide)
                      have m_v_34 := FLD.over hF9 m_v_34 (by decide)
                      have m_v_35 := FLD.over hF9 m_v_35 (by decide)
                      have x_SNT_p0_gd_1_gh_1_gg := SNT.over hF9 x_SNT_p0_gd_1_gh_1_gg (by decide)
                      refine lv_iload_n hx hb dX10_readSaid_176 rfl (lv_at hl 0 rfl) ?_
                      subst hQ
                      exact W.zret (v := v_31) hx hb hr (tq_nz (r_v_31.to (by decide))) (fun t ht hW => ⟨⟨v_31, ws, rfl, ⟨⟨r_v_31.to (by decide), (fun h0 => absurd (ti_eq h0) (by have h8 := r_v_31; unfold RI at h8; rw [Int32.toInt_zero]; omega)), (fun h0 => ⟨⟨_, n_k_20, r_v_19⟩, ⟨_, m_v_35, r_v_35⟩, ⟨_, n_k_37, r_v_36⟩, x_SNT_p0_gd_1_gh_1_gg, trivial⟩)⟩, hw.1, hw.2.2.2.2.1⟩, by rw [ht]; exact hw.2.1, va_K.moved hW.alike hK, hw.2.2.1⟩, hw.2.2.2.1.F ht⟩) hw.2.2.2.1.2.2 dX10_readSaid_177
                · have r_x2 : RI x2 19 21 := rc_lt1 r_x2 rl_22 (ti_nle c_125) (by decide)
                  refine lv_aload_n hx hb dX10_readSaid_128 rfl (lv_at hl 1 rfl) ?_
                  refine lv_aload_n hx hb dX10_readSaid_129 rfl (lv_at hl 1 rfl) ?_
                  refine lv_bipush (v := 50) hx hb dX10_readSaid_130 (by decide) ?_
                  refine lv_iload_n hx hb dX10_readSaid_132 rfl (lv_at hl 3 rfl) ?_
                  refine lv_iadd hx hb dX10_readSaid_133 (lv_topi (fun v_38 e_v_38 => ?_))
                  obtain ⟨t_v_38, r_v_38⟩ := tq_add (lo := 69) (hi := 71) rl_50 r_x2 (by decide +kernel) e_v_38
                  have t_v_38 : v_38.toInt = 50 + x2.toInt := t_v_38
                  refine lv_iconst (v := 0) hx hb dX10_readSaid_134 (by decide) ?_
                  refine lv_iconst (v := 0) hx hb dX10_readSaid_135 (by decide) ?_
                  refine lv_iconst (v := 0) hx hb dX10_readSaid_136 (by decide) ?_
                  refine tk_i (va_runV (As := [.int v_38, .int 0, .int 0, .int 0]) (rest := [.ref p0]) ⟨hx, hb, hml, hown, hts⟩ (c_X10_saysOne l D cy z H.size Ps ws hw.1 p0 v_38 0 0 0 (gd+1) (gh+1) (gg) h_p0 (r_v_38.to (by decide)) (rl_0.to (by decide)) (rl_0.to (by decide)) (rl_0.to (by decide)) x_SNI_p0_gd_1_gh_1_gg) (cwV 4 hts (gV tw_1771 tw_1773 ts_116 tw_15 tw_1774) rfl rfl rfl (by decide +kernel) ⟨Nat.le_of_ble_eq_true rfl, Nat.le_of_ble_eq_true rfl⟩) (tg_preV hw hK hSD hA (ci := 10) (q := (RX10, TX10, 49)) rfl h_p0 rfl) rfl rfl hl.1 rfl (lv_room (Nat.le_of_ble_eq_true rfl)) dX10_readSaid_137 ⟨Nat.le_of_ble_eq_true rfl, Nat.le_of_ble_eq_true rfl⟩) hw hA ⟨by decide, by decide⟩ (fun v_39 ws H locs hp_v_39 hw hF9 => ?_)
                  have n_k_20 := FLD.over hF9 n_k_20 (by decide)
                  have n_k_22 := FLD.over hF9 n_k_22 (by decide)
                  have r_v_39 : RI v_39 0 39 := hp_v_39.1
                  have x_SNL_p0_gd_1_gh_1_gg_v_39 := hp_v_39.2.2.2.1.1
                  refine tg_put (ci := 10) (ts := ty_MODEL) (v := .int v_39) (ty := .int) (C := RX10) (T := TX10) (N := 49) hx hb hts inX10 tyX10 tyX10_ok nmX10 hown hK hw h_p0 rfl rfl 48 (by decide) (hts _ tw_1185) (fun _ h9 => h9) rfl (by decide +kernel) rfl rfl (ft := vI (-2147483648) 2147483647) rfl ⟨_, rfl, (r_v_39.to (by decide))⟩ (by decide) dX10_readSaid_140 (fun ws H locs hw n_k_40 hF9 => ?_)
                  have n_k_20 := FLD.over hF9 n_k_20 (by decide)
                  have n_k_22 := FLD.over hF9 n_k_22 (by decide)
                  have x_SNL_p0_gd_1_gh_1_gg_v_39 := SNL.over hF9 x_SNL_p0_gd_1_gh_1_gg_v_39 (by decide)
                  have x_SNT_p0_gd_1_gh_1_gg : SNT ws p0 (gd+1) (gh+1) (gg) := (x_SNL_p0_gd_1_gh_1_gg_v_39.weak (d' := gd+1) (h' := gh+1) (g' := gg) (by have k1 := x_SNL_p0_gd_1_gh_1_gg_v_39.le; have d_8 := SNp.le x_SN_p0_gd_gh_gg; omega)).snt n_k_40
                  refine lv_goto (tgt := 166) hx hb dX10_readSaid_143 (by decide) ?_
                  refine lv_aload_n hx hb dX10_readSaid_166 rfl (lv_at hl 1 rfl) ?_
                  refine lv_dup hx hb dX10_readSaid_167 rfl ?_
                  refine tg_mem (ci := 10) (C := RX10) (T := TX10) (N := 49) hx hb hts inX10 hown hK hw 47 n_k_22 rfl (by decide) (hts _ tw_1184) (fun _ h9 => h9) dX10_readSaid_168 ?_
                  refine lv_iconst (v := 1) hx hb dX10_readSaid_171 (by decide) ?_
                  refine lv_isub hx hb dX10_readSaid_172 (lv_topi (fun v_41 e_v_41 => ?_))
                  obtain ⟨t_v_41, r_v_41⟩ := tq_sub (lo := 3) (hi := 3) r_v_21 rl_1 (by decide +kernel) e_v_41
                  have t_v_41 : v_41.toInt = v_21.toInt - 1 := t_v_41
                  refine tg_put (ci := 10) (ts := ty_MODEL) (v := .int v_41) (ty := .int) (C := RX10) (T := TX10) (N := 49) hx hb hts inX10 tyX10 tyX10_ok nmX10 hown hK hw h_p0 rfl rfl 47 (by decide) (hts _ tw_1184) (fun _ h9 => h9) rfl (by decide +kernel) rfl rfl (ft := vI (-2147483648) 2147483647) rfl ⟨_, rfl, (r_v_41.to (by decide))⟩ (by decide) dX10_readSaid_173 (fun ws H locs hw n_k_42 hF9 => ?_)
                  have n_k_20 := FLD.over hF9 n_k_20 (by decide)
                  have n_k_40 := FLD.over hF9 n_k_40 (by decide)
                  have x_SNL_p0_gd_1_gh_1_gg_v_39 := SNL.over hF9 x_SNL_p0_gd_1_gh_1_gg_v_39 (by decide)
                  have x_SNT_p0_gd_1_gh_1_gg := SNT.over hF9 x_SNT_p0_gd_1_gh_1_gg (by decide)
                  refine lv_iload_n hx hb dX10_readSaid_176 rfl (lv_at hl 0 rfl) ?_
                  subst hQ
                  exact W.zret (v := 1) hx hb hr (rfl) (fun t ht hW => ⟨⟨1, ws, rfl, ⟨⟨rl_1.to (by decide), (fun h0 => absurd h0 (by decide)), (fun h0 => ⟨⟨_, n_k_20, r_v_19⟩, ⟨_, n_k_40, r_v_39⟩, ⟨_, n_k_42, r_v_41⟩, x_SNT_p0_gd_1_gh_1_gg, trivial⟩)⟩, hw.1, hw.2.2.2.2.1⟩, by rw [ht]; exact hw.2.1, va_K.moved hW.alike hK, hw.2.2.1⟩, hw.2.2.2.1.F ht⟩) hw.2.2.2.1.2.2 dX10_readSaid_177
              · have r_x2 : RI x2 18 18 := rc_eq1 r_x2 rl_18 (ti_eq c_111) (by decide)
                refine lv_aload_n hx hb dX10_readSaid_114 rfl (lv_at hl 1 rfl) ?_
                refine tk_i (va_runV (As := []) (rest := []) ⟨hx, hb, hml, hown, hts⟩ (c_X10_readNot__4 l D cy z H.size Ps ws hw.1 p0 v_21 (gd+1) (gh+1) (gg) h_p0 r_v_21 n_k_22 x_SNI_p0_gd_1_gh_1_gg) (cwV 0 hts (gV tw_1767 tw_1769 ts_115 tw_15 tw_1770) rfl rfl rfl (by decide +kernel) ⟨Nat.le_of_ble_eq_true rfl, Nat.le_of_ble_eq_true rfl⟩) (tg_preV hw hK hSD hA (ci := 10) (q := (RX10, TX10, 49)) rfl h_p0 rfl) rfl rfl hl.1 rfl (lv_room (Nat.le_of_ble_eq_true rfl)) dX10_readSaid_115 ⟨Nat.le_of_ble_eq_true rfl, Nat.le_of_ble_eq_true rfl⟩) hw hA ⟨by decide, by decide⟩ (fun v_43 ws H locs hp_v_43 hw hF9 => ?_)
                have r_v_43 : RI v_43 0 1 := hp_v_43.1
                by_cases c9_v_43 : v_43 = 0
                · have r_v_43 : RI v_43 0 0 := by rw [c9_v_43]; exact rl_0
                  obtain ⟨v_44, m_v_44, r_v_44⟩ := ((hp_v_43.2.1 c9_v_43).1)
                  refine lv_istore_n (lv' := [(3, .int v_43), (0, .ref p0), (1, .int x1), (2, .int x2)]) hx hb dX10_readSaid_118 rfl hl (by decide) rfl (fun ls hl => ?_)
                  refine lv_goto (tgt := 166) hx hb dX10_readSaid_119 (by decide) ?_
                  refine lv_aload_n hx hb dX10_readSaid_166 rfl (lv_at hl 1 rfl) ?_
                  refine lv_dup hx hb dX10_readSaid_167 rfl ?_
                  refine tg_mem (ci := 10) (C := RX10) (T := TX10) (N := 49) hx hb hts inX10 hown hK hw 47 m_v_44 rfl (by decide) (hts _ tw_1184) (fun _ h9 => h9) dX10_readSaid_168 ?_
                  refine lv_iconst (v := 1) hx hb dX10_readSaid_171 (by decide) ?_
                  refine lv_isub hx hb dX10_readSaid_172 (lv_topi (fun v_45 e_v_45 => ?_))
                  obtain ⟨t_v_45, r_v_45⟩ := tq_sub (lo := 3) (hi := 3) r_v_44 rl_1 (by decide +kernel) e_v_45
                  have t_v_45 : v_45.toInt = v_44.toInt - 1 := t_v_45
                  refine tg_put (ci := 10) (ts := ty_MODEL) (v := .int v_45) (ty := .int) (C := RX10) (T := TX10) (N := 49) hx hb hts inX10 tyX10 tyX10_ok nmX10 hown hK hw h_p0 rfl rfl 47 (by decide) (hts _ tw_1184) (fun _ h9 => h9) rfl (by decide +kernel) rfl rfl (ft := vI (-2147483648) 2147483647) rfl ⟨_, rfl, (r_v_45.to (by decide))⟩ (by decide) dX10_readSaid_173 (fun ws H locs hw n_k_46 hF9 => ?_)
                  refine lv_iload_n hx hb dX10_readSaid_176 rfl (lv_at hl 0 rfl) ?_
                  subst hQ
                  exact W.zret (v := v_43) hx hb hr (tq_nz (r_v_43.to (by decide))) (fun t ht hW => ⟨⟨v_43, ws, rfl, ⟨⟨r_v_43.to (by decide), (fun h0 => ⟨⟨_, n_k_46, r_v_45⟩, trivial⟩), (fun h0 => absurd (Int32.toInt_inj.mp (by have h8 := r_v_43; unfold RI at h8; rw [Int32.toInt_zero]; omega)) h0)⟩, hw.1, hw.2.2.2.2.1⟩, by rw [ht]; exact hw.2.1, va_K.moved hW.alike hK, hw.2.2.1⟩, hw.2.2.2.1.F ht⟩) hw.2.2.2.1.2.2 dX10_readSaid_177
                · have r_v_43 : RI v_43 1 1 := rc_neL r_v_43 rl_0 (ti_ne c9_v_43) (by decide)
                  obtain ⟨v_47, m_v_47, r_v_47⟩ := ((hp_v_43.2.2 c9_v_43).1)
                  obtain ⟨v_48, m_v_48, r_v_48⟩ := ((hp_v_43.2.2 c9_v_43).2.1)
                  obtain ⟨v_49, m_v_49, r_v_49⟩ := ((hp_v_43.2.2 c9_v_43).2.2.1)
                  have x_SNT_p0_gd_1_gh_1_gg := ((hp_v_43.2.2 c9_v_43).2.2.2.1)
                  refine lv_istore_n (lv' := [(3, .int v_43), (0, .ref p0), (1, .int x1), (2, .int x2)]) hx hb dX10_readSaid_118 rfl hl (by decide) rfl (fun ls hl => ?_)
                  refine lv_goto (tgt := 166) hx hb dX10_readSaid_119 (by decide) ?_
                  refine lv_aload_n hx hb dX10_readSaid_166 rfl (lv_at hl 1 rfl) ?_
                  refine lv_dup hx hb dX10_readSaid_167 rfl ?_
                  refine tg_mem (ci := 10) (C := RX10) (T := TX10) (N := 49) hx hb hts inX10 hown hK hw 47 m_v_48 rfl (by decide) (hts _ tw_1184) (fun _ h9 => h9) dX10_readSaid_168 ?_
                  refine lv_iconst (v := 1) hx hb dX10_readSaid_171 (by decide) ?_
                  refine lv_isub hx hb dX10_readSaid_172 (lv_topi (fun v_50 e_v_50 => ?_))
                  obtain ⟨t_v_50, r_v_50⟩ := tq_sub (lo := 3) (hi := 3) r_v_48 rl_1 (by decide +kernel) e_v_50
                  have t_v_50 : v_50.toInt = v_48.toInt - 1 := t_v_50
                  refine tg_put (ci := 10) (ts := ty_MODEL) (v := .int v_50) (ty := .int) (C := RX10) (T := TX10) (N := 49) hx hb hts inX10 tyX10 tyX10_ok nmX10 hown hK hw h_p0 rfl rfl 47 (by decide) (hts _ tw_1184) (fun _ h9 => h9) rfl (by decide +kernel) rfl rfl (ft := vI (-2147483648) 2147483647) rfl ⟨_, rfl, (r_v_50.to (by decide))⟩ (by decide) dX10_readSaid_173 (fun ws H locs hw n_k_51 hF9 => ?_)
                  have m_v_47 := FLD.over hF9 m_v_47 (by decide)
                  have m_v_49 := FLD.over hF9 m_v_49 (by decide)
                  have x_SNT_p0_gd_1_gh_1_gg := SNT.over hF9 x_SNT_p0_gd_1_gh_1_gg (by decide)
                  refine lv_iload_n hx hb dX10_readSaid_176 rfl (lv_at hl 0 rfl) ?_
                  subst hQ
                  exact W.zret (v := v_43) hx hb hr (tq_nz (r_v_43.to (by decide))) (fun t ht hW => ⟨⟨v_43, ws, rfl, ⟨⟨r_v_43.to (by decide), (fun h0 => absurd (ti_eq h0) (by have h8 := r_v_43; unfold RI at h8; rw [Int32.toInt_zero]; omega)), (fun h0 => ⟨⟨_, m_v_47, r_v_47⟩, ⟨_, m_v_49, r_v_49⟩, ⟨_, n_k_51, r_v_50⟩, x_SNT_p0_gd_1_gh_1_gg, trivial⟩)⟩, hw.1, hw.2.2.2.2.1⟩, by rw [ht]; exact hw.2.1, va_K.moved hW.alike hK, hw.2.2.1⟩, hw.2.2.2.1.F ht⟩) hw.2.2.2.1.2.2 dX10_readSaid_177
            · exact absurd (r_x1.eq.trans rl_0.eq.symm) ((ti_ne c_97))
          · have r_z0_47 : RI z0_47 8 3 := rc_eq1 r_z0_47 rl_8 (ti_eq c_61) (by decide)
            exact (r_z0_47.no (by decide)).elim
      · have r_x2 : RI x2 28 28 := rc_lt2 rl_27 r_x2 (ti_nle c_37) (by decide)
        refine lv_aload_n hx hb dX10_readSaid_40 rfl (lv_at hl 0 rfl) ?_
        refine lv_iconst (v := 1) hx hb dX10_readSaid_41 (by decide) ?_
        refine tk_i (va_runV (As := [.int 1]) (rest := []) ⟨hx, hb, hml, hown, hts⟩ (c_X10_bad l D cy z H.size Ps ws hw.1 p0 1 h_p0 (rl_1.to (by decide))) (cwV 1 hts (gV tw_1336 tw_1338 ts_46 tw_15 tw_1339) rfl rfl rfl (by decide +kernel) ⟨Nat.le_of_ble_eq_true rfl, Nat.le_of_ble_eq_true rfl⟩) (tg_preV hw hK hSD hA (ci := 10) (q := (RX10, TX10, 49)) rfl h_p0 rfl) rfl rfl hl.1 rfl (lv_room (Nat.le_of_ble_eq_true rfl)) dX10_readSaid_42 ⟨Nat.le_of_ble_eq_true rfl, Nat.le_of_ble_eq_true rfl⟩) hw hA ⟨by decide, by decide⟩ (fun v_52 ws H locs hp_v_52 hw hF9 => ?_)
        have m_z0_47 := FLD.over hF9 m_z0_47 (by decide)
        have x_SN_p0_gd_gh_gg := SNp.over hF9 x_SN_p0_gd_gh_gg (by decide)
        have r_v_52 : RI v_52 0 0 := hp_v_52.1
        subst hQ
        exact W.zret (v := v_52) hx hb hr (tq_nz (r_v_52.to (by decide))) (fun t ht hW => ⟨⟨v_52, ws, rfl, ⟨⟨r_v_52.to (by decide), (fun h0 => ⟨⟨_, m_z0_47, r_z0_47⟩, trivial⟩), (fun h0 => absurd (Int32.toInt_inj.mp (by have h8 := r_v_52; unfold RI at h8; rw [Int32.toInt_zero]; omega)) h0)⟩, hw.1, hw.2.2.2.2.1⟩, by rw [ht]; exact hw.2.1, va_K.moved hW.alike hK, hw.2.2.1⟩, hw.2.2.2.1.F ht⟩) hw.2.2.2.1.2.2 dX10_readSaid_45
  have B10 : ∀ (nf : Nat) (x1 : Int32) (x2 : Int32) (z0_47 : Int32) (ws : va_W) (H : Heap) (locs : List Loc) (ls : Array Slot), 28 - x2.toInt < (nf : Int) → RI x1 0 1 → RI x2 18 28 → RI z0_47 3 3 → FLD ws p0 10 47 (.int z0_47) → SNp ws p0 (gd) (gh) (gg) → WD D cy GG A s wr_X10_readSaid__3 wa_X10_readSaid__3 Ps w0 Ps ws H locs → lv_has ls 4 [(0, .ref p0), (1, .int x1), (2, .int x2)] → W p l e (headSpec (Cond.code yX10_readSaid cX10_readSaid 4 (some .boolean) :: gT) ({ frames := 24, cells := 0, slots := 0, locals := 4800 } : Room)).room s m ([.ref p0] : List Value).toArray below meth c H locs 0 0 Q (F0 m 10 ls []) := by
    intro nf10
    induction nf10 with
    | zero =>
      intro x1 x2 z0_47 ws H locs ls hn10 r_x1 r_x2 r_z0_47 m_z0_47 x_SN_p0_gd_gh_gg hw hl
      exact absurd hn10 (by have q0 := r_x2.1; have u0 := r_x2.2; omega)
    | succ nf10 ih10 =>
      intro x1 x2 z0_47 ws H locs ls hn10 r_x1 r_x2 r_z0_47 m_z0_47 x_SN_p0_gd_gh_gg hw hl
      refine lv_iload_n hx hb dX10_readSaid_10 rfl (lv_at hl 2 rfl) ?_
      refine lv_bipush (v := 27) hx hb dX10_readSaid_11 (by decide) ?_
      refine lv_icmp_gt (tgt := 30) hx hb dX10_readSaid_13 (by decide) (fun c_13 => ?_) (fun c_13 => ?_)
      · have r_x2 : RI x2 28 28 := rc_lt2 rl_27 r_x2 (ti_lt c_13) (by decide)
        exact B30 x1 x2 z0_47 ws _ _ ls r_x1 (r_x2.to (by decide)) r_z0_47 m_z0_47 x_SN_p0_gd_gh_gg hw hl
      · have r_x2 : RI x2 18 27 := rc_le1 r_x2 rl_27 (ti_nlt c_13) (by decide)
        refine lv_aload_n hx hb dX10_readSaid_16 rfl (lv_at hl 0 rfl) ?_
        refine lv_iload_n hx hb dX10_readSaid_17 rfl (lv_at hl 2 rfl) ?_
        refine tk_ir (va_runV (As := [.int x2]) (rest := []) ⟨hx, hb, hml, hown, hts⟩ (c_X10_isWord l D cy z H.size Ps ws hw.1 p0 x2 h_p0 (r_x2.to (by decide))) (cwV 1 hts (gV tw_1318 tw_1320 ts_43 tw_15 tw_1321) rfl rfl rfl (by decide +kernel) ⟨Nat.le_of_ble_eq_true rfl, Nat.le_of_ble_eq_true rfl⟩) (tg_preV hw hK hSD hA (ci := 10) (q := (RX10, TX10, 49)) rfl h_p0 rfl) rfl rfl hl.1 rfl (lv_room (Nat.le_of_ble_eq_true rfl)) dX10_readSaid_18 ⟨Nat.le_of_ble_eq_true rfl, Nat.le_of_ble_eq_true rfl⟩) hw hA (fun v_53  H locs hp_v_53 hw => ?_)
        have r_v_53 : RI v_53 0 1 := hp_v_53.1
        refine lv_if_ne (tgt := 30) hx hb dX10_readSaid_21 (by decide) (fun c_21 => ?_) (fun c_21 => ?_)
        · have r_v_53 : RI v_53 1 1 := rc_neL r_v_53 rl_0 (ti_ne c_21) (by decide)
          exact B30 x1 x2 z0_47 ws _ _ ls r_x1 (r_x2.to (by decide)) r_z0_47 m_z0_47 x_SN_p0_gd_gh_gg hw hl
        · have r_v_53 : RI v_53 0 0 := rc_eq1 r_v_53 rl_0 (ti_eq c_21) (by decide)
          obtain ⟨v_54, e_v_54⟩ : ∃ q9 : Int32, q9 = x2 + Int32.ofInt 1 := ⟨_, rfl⟩
          obtain ⟨t_v_54, r_v_54⟩ := tq_add (lo := 19) (hi := 28) r_x2 (show RI (Int32.ofInt 1) 1 1 by unfold RI; decide +kernel) (by decide +kernel) e_v_54
          have t_v_54 : v_54.toInt = x2.toInt + 1 := t_v_54
          refine lv_iinc (v := v_54) (lv' := [(2, .int v_54), (0, .ref p0), (1, .int x1)]) hx hb dX10_readSaid_24 hl (k := 2) rfl e_v_54.symm (by decide) rfl (fun ls hl => ?_)
          refine lv_goto (tgt := 10) hx hb dX10_readSaid_27 (by decide) ?_
          exact ih10 x1 v_54 z0_47 ws _ _ ls (by have q0 := r_v_54.1; have u0 := r_v_54.2; have o0 := r_x2.1; have p0 := r_x2.2; omega) r_x1 (r_v_54.to (by decide)) r_z0_47 m_z0_47 x_SN_p0_gd_gh_gg hw (lv_sub hl [1, 2, 0] rfl)
  refine lv_aload_n hx hb dX10_readSaid_0 rfl (lv_at hl 0 rfl) ?_
  refine lv_bipush (v := 40) hx hb dX10_readSaid_1 (by decide) ?_
  refine tk_ir (va_runV (As := [.int 40]) (rest := []) ⟨hx, hb, hml, hown, hts⟩ (c_X10_isSign l D cy z s.heap.size Ps w0 hw.1 p0 40 h_p0 (rl_40.to (by decide))) (cwV 1 hts (gV tw_1413 tw_1415 ts_63 tw_15 tw_1416) rfl rfl rfl (by decide +kernel) ⟨Nat.le_of_ble_eq_true rfl, Nat.le_of_ble_eq_true rfl⟩) (tg_preV hw hK hSD hA (ci := 10) (q := (RX10, TX10, 49)) rfl h_p0 rfl) rfl rfl hl.1 rfl (lv_room (Nat.le_of_ble_eq_true rfl)) dX10_readSaid_3 ⟨Nat.le_of_ble_eq_true rfl, Nat.le_of_ble_eq_true rfl⟩) hw hA (fun v_55  H locs hp_v_55 hw => ?_)
  have r_v_55 : RI v_55 0 1 := hp_v_55.1
  by_cases c9_v_55 : v_55 = 0
  · have r_v_55 : RI v_55 0 0 := by rw [c9_v_55]; exact rl_0
    refine lv_istore_n (lv' := [(1, .int v_55), (0, .ref p0)]) hx hb dX10_readSaid_6 rfl hl (by decide) rfl (fun ls hl => ?_)
    refine lv_bipush (v := 18) hx hb dX10_readSaid_7 (by decide) ?_
    refine lv_istore_n (lv' := [(2, .int 18), (1, .int v_55), (0, .ref p0)]) hx hb dX10_readSaid_9 rfl hl (by decide) rfl (fun ls hl => ?_)
    exact B10 4294967298 v_55 18 f0_47 w0 _ _ ls (by have q0 := rl_18.1; have u0 := rl_18.2; omega) (r_v_55.to (by decide)) (rl_18.to (by decide)) r_f0_47 m_f0_47 x_SN_p0_gd_gh_gg hw (lv_sub hl [2, 1, 0] rfl)
  · have r_v_55 : RI v_55 1 1 := rc_neL r_v_55 rl_0 (ti_ne c9_v_55) (by decide)
    obtain ⟨v_56, m_v_56, r_v_56⟩ := ((hp_v_55.2.2 c9_v_55).1)
    refine lv_istore_n (lv' := [(1, .int v_55), (0, .ref p0)]) hx hb dX10_readSaid_6 rfl hl (by decide) rfl (fun ls hl => ?_)
    refine lv_bipush (v := 18) hx hb dX10_readSaid_7 (by decide) ?_
    refine lv_istore_n (lv' := [(2, .int 18), (1, .int v_55), (0, .ref p0)]) hx hb dX10_readSaid_9 rfl hl (by decide) rfl (fun ls hl => ?_)
    exact B10 4294967298 v_55 18 f0_47 w0 _ _ ls (by have q0 := rl_18.1; have u0 := rl_18.2; omega) (r_v_55.to (by decide)) (rl_18.to (by decide)) r_f0_47 m_f0_47 x_SN_p0_gd_gh_gg hw (lv_sub hl [2, 1, 0] rfl)
abbrev wr_X10_readAnd__3 : List (Nat × Nat) := [(10, 5), (10, 6), (10, 7), (10, 8), (10, 9), (10, 10), (10, 11), (10, 12), (10, 13), (10, 45), (10, 46), (10, 47), (10, 48)]
abbrev wa_X10_readAnd__3 : List Nat := [54]
set_option maxHeartbeats 4000000 in
set_option maxRecDepth 100000 in
theorem c_X10_readAnd__3 (l : Launch) (D : va_G) (cy : Nat → ClassId) (z : Nat → Nat) (sz : Nat) (Ps : PSI) (w0 : va_W) (hT : HT cy GG Ps w0) (p0 : Nat) (f0_47 : Int32) (gd : Int) (gh : Int) (gg : Int) (h_p0 : (p0, 55) ∈ Ps) (r_f0_47 : RI f0_47 3 3) (m_f0_47 : FLD w0 p0 10 47 (.int f0_47)) (x_SN_p0_gd_gh_gg : SNp w0 p0 (gd) (gh) (gg)) : Met l yX10_readAnd (Cond.code yX10_readAnd cX10_readAnd 2 (some .boolean) :: gT) ({ frames := 25, cells := 0, slots := 0, locals := 5000 } : Room) (va_Pc [.ref p0] (PRE D cy z w0 sz)) (va_Qi (fun (r : Int32) (u : va_W) => (RI r 0 1 ∧ (r = 0 → (∃ v9 : Int32, FLD u p0 10 47 (.int v9) ∧ RI v9 3 3) ∧ True) ∧ (¬ r = 0 → (∃ v9 : Int32, FLD u p0 10 46 (.int v9) ∧ RI v9 1 20) ∧ (∃ v9 : Int32, FLD u p0 10 47 (.int v9) ∧ RI v9 3 3) ∧ (∃ v9 : Int32, FLD u p0 10 48 (.int v9) ∧ RI v9 0 39) ∧ SNT u p0 (gd+1) (gh+1) (gg) ∧ True)) ∧ HT cy GG Ps u ∧ FR wr_X10_readAnd__3 wa_X10_readAnd__3 Ps w0 u) (BB D cy (va_A w0 sz) (fun (u : va_W) => u)) (va_A w0 sz)) 0 0 (va_A w0 sz) := by
  refine Met.ofW (cc := cX10_readAnd) (maxL := 2) (ret := (some .boolean)) (by decide) rfl ?_
  intro p e s m args below meth c s₁ B hml hv
  obtain ⟨rfl, hsz, hP, hK, hD0, hSD⟩ := hv
  have hx := B.exec
  have hb := B.bytes
  have hr := B.returns
  have hlocks := B.notSynchronized
  have hts : ∀ w ∈ gT, w.before _ s = true := fun w h => atoms_spec (ws := Cond.code yX10_readAnd cX10_readAnd 2 (some .boolean) :: gT) B.pre w (List.mem_cons_of_mem _ h)
  have hown : s.vm.findClass RX10 = some m.cls := findClass_of_methodNamed B.named
  subst hsz
  have hD := hD0.self (sz := s.heap.size)
  generalize hAe : va_A w0 s.heap.size = A at hD hSD ⊢
  have hA : ∀ q : Nat, s.heap.size ≤ q → A q := fun q h => by rw [← hAe]; exact Or.inr h
  have hl := lv_entry ([.ref p0]) (n := 2) (Nat.le_of_ble_eq_true rfl)
  rw [lg_entry_eq]
  generalize (lg_sl ([.ref p0]) ++ List.replicate (2 - (lg_sl ([.ref p0])).length) Slot.unset).toArray = ls at hl ⊢
  have hl : lv_has ls 2 [(0, .ref p0)] := hl
  refine nameQ (fun Q hQ => ?_)
  have hw : WD D cy GG A s wr_X10_readAnd__3 wa_X10_readAnd__3 Ps w0 Ps w0 s.heap [] := ⟨hT, hP, hD, va_S.rf, FR.rf, hT.1, [], (List.append_nil _).symm⟩
  have B14 : ∀ (nf : Nat) (x1 : Int32) (z0_46 : Int32) (z0_47 : Int32) (z0_48 : Int32) (gz : Int) (ws : va_W) (H : Heap) (locs : List Loc) (ls : Array Slot), 21 - gz < (nf : Int) → RI x1 0 39 → RI z0_46 1 20 → FLD ws p0 10 46 (.int z0_46) → RI z0_47 3 3 → FLD ws p0 10 47 (.int z0_47) → RI z0_48 0 39 → FLD ws p0 10 48 (.int z0_48) → (SNL ws p0 (gd+1) (gz) (gg) x1 ∧ gh + 1 ≤ gz) → WD D cy GG A s wr_X10_readAnd__3 wa_X10_readAnd__3 Ps w0 Ps ws H locs → lv_has ls 2 [(0, .ref p0), (1, .int x1)] → W p l e (headSpec (Cond.code yX10_readAnd cX10_readAnd 2 (some .boolean) :: gT) ({ frames := 25, cells := 0, slots := 0, locals := 5000 } : Room)).room s m ([.ref p0] : List Value).toArray below meth c H locs 0 0 Q (F0 m 14 ls []) := by
    intro nf14
    induction nf14 with
    | zero =>
      intro x1 z0_46 z0_47 z0_48 gz ws H locs ls hn14 r_x1 r_z0_46 m_z0_46 r_z0_47 m_z0_47 r_z0_48 m_z0_48 x_SNW_p0_gd_1_gz_gg__1 hw hl
      exact absurd hn14 (by have q9 := SNL.le x_SNW_p0_gd_1_gz_gg__1.1; omega)
    | succ nf14 ih14 =>
      intro x1 z0_46 z0_47 z0_48 gz ws H locs ls hn14 r_x1 r_z0_46 m_z0_46 r_z0_47 m_z0_47 r_z0_48 m_z0_48 x_SNW_p0_gd_1_gz_gg__1 hw hl
      refine lv_aload_n hx hb dX10_readAnd_14 rfl (lv_at hl 0 rfl) ?_
      refine lv_bipush (v := 17) hx hb dX10_readAnd_15 (by decide) ?_
      refine tk_ir (va_runV (As := [.int 17]) (rest := []) ⟨hx, hb, hml, hown, hts⟩ (c_X10_isWord l D cy z H.size Ps ws hw.1 p0 17 h_p0 (rl_17.to (by decide))) (cwV 1 hts (gV tw_1318 tw_1320 ts_43 tw_15 tw_1321) rfl rfl rfl (by decide +kernel) ⟨Nat.le_of_ble_eq_true rfl, Nat.le_of_ble_eq_true rfl⟩) (tg_preV hw hK hSD hA (ci := 10) (q := (RX10, TX10, 49)) rfl h_p0 rfl) rfl rfl hl.1 rfl (lv_room (Nat.le_of_ble_eq_true rfl)) dX10_readAnd_17 ⟨Nat.le_of_ble_eq_true rfl, Nat.le_of_ble_eq_true rfl⟩) hw hA (fun v_1  H locs hp_v_1 hw => ?_)
      have r_v_1 : RI v_1 0 1 := hp_v_1.1
      refine lv_if_eq (tgt := 51) hx hb dX10_readAnd_20 (by decide) (fun c_20 => ?_) (fun c_20 => ?_)
      · have r_v_1 : RI v_1 0 0 := rc_eq1 r_v_1 rl_0 (ti_eq c_20) (by decide)
        refine lv_aload_n hx hb dX10_readAnd_51 rfl (lv_at hl 0 rfl) ?_
        refine lv_iload_n hx hb dX10_readAnd_52 rfl (lv_at hl 1 rfl) ?_
        refine tg_put (ci := 10) (ts := ty_MODEL) (v := .int x1) (ty := .int) (C := RX10) (T := TX10) (N := 49) hx hb hts inX10 tyX10 tyX10_ok nmX10 hown hK hw h_p0 rfl rfl 48 (by decide) (hts _ tw_1185) (fun _ h9 => h9) rfl (by decide +kernel) rfl rfl (ft := vI (-2147483648) 2147483647) rfl ⟨_, rfl, (r_x1.to (by decide))⟩ (by decide) dX10_readAnd_53 (fun ws H locs hw n_k_2 hF9 => ?_)
        have m_z0_46 := FLD.over hF9 m_z0_46 (by decide)
        have m_z0_47 := FLD.over hF9 m_z0_47 (by decide)
        have x_SNW_p0_gd_1_gz_gg__1 := SNW.over hF9 x_SNW_p0_gd_1_gz_gg__1 (by decide)
        have f6 := SNL.le x_SNW_p0_gd_1_gz_gg__1.1
        have f7 := x_SNW_p0_gd_1_gz_gg__1.2
        have x_SNT_p0_gd_1_gh_1_gg : SNT ws p0 (gd+1) (gh+1) (gg) := (SNL.snt x_SNW_p0_gd_1_gz_gg__1.1 n_k_2).weak (by have d_8 := SNp.le x_SN_p0_gd_gh_gg; omega)
        refine lv_iconst (v := 1) hx hb dX10_readAnd_56 (by decide) ?_
        subst hQ
        exact W.zret (v := 1) hx hb hr (rfl) (fun t ht hW => ⟨⟨1, ws, rfl, ⟨⟨rl_1.to (by decide), (fun h0 => absurd h0 (by decide)), (fun h0 => ⟨⟨_, m_z0_46, r_z0_46⟩, ⟨_, m_z0_47, r_z0_47⟩, ⟨_, n_k_2, r_x1⟩, x_SNT_p0_gd_1_gh_1_gg, trivial⟩)⟩, hw.1, hw.2.2.2.2.1⟩, by rw [ht]; exact hw.2.1, va_K.moved hW.alike hK, hw.2.2.1⟩, hw.2.2.2.1.F ht⟩) hw.2.2.2.1.2.2 dX10_readAnd_57
      · have r_v_1 : RI v_1 1 1 := rc_neL r_v_1 rl_0 (ti_ne c_20) (by decide)
        refine lv_aload_n hx hb dX10_readAnd_23 rfl (lv_at hl 0 rfl) ?_
        refine tk_v (va_runV (As := []) (rest := []) ⟨hx, hb, hml, hown, hts⟩ (c_X10_go l D cy z H.size Ps ws hw.1 p0 h_p0) (cwV 0 hts (gV tw_1298 tw_1300 ts_40 tw_15 tw_1301) rfl rfl rfl (by decide +kernel) ⟨Nat.le_of_ble_eq_true rfl, Nat.le_of_ble_eq_true rfl⟩) (tg_preV hw hK hSD hA (ci := 10) (q := (RX10, TX10, 49)) rfl h_p0 rfl) rfl rfl hl.1 rfl (lv_room (Nat.le_of_ble_eq_true rfl)) dX10_readAnd_24 ⟨Nat.le_of_ble_eq_true rfl, Nat.le_of_ble_eq_true rfl⟩) hw hA ⟨by decide, by decide⟩ (fun ws H locs hp_v_3 hw hF9 => ?_)
        have m_z0_46 := FLD.over hF9 m_z0_46 (by decide)
        have m_z0_47 := FLD.over hF9 m_z0_47 (by decide)
        have m_z0_48 := FLD.over hF9 m_z0_48 (by decide)
        have x_SNW_p0_gd_1_gz_gg__1 := SNW.over hF9 x_SNW_p0_gd_1_gz_gg__1 (by decide)
        refine lv_aload_n hx hb dX10_readAnd_27 rfl (lv_at hl 0 rfl) ?_
        have f9 := SNL.sn x_SNW_p0_gd_1_gz_gg__1.1
        have f8 := f9.2
        have f7 := x_SNW_p0_gd_1_gz_gg__1.2
        have f6 := SNL.le x_SNW_p0_gd_1_gz_gg__1.1
        have x_SN_p0_gd_1_gz_max_gg__Int32_toInt_x1___1_ : SNp ws p0 (gd+1) (gz) (max gg (Int32.toInt x1 + 1)) := f9.1
        refine tk_i (va_runV (As := []) (rest := []) ⟨hx, hb, hml, hown, hts⟩ (c_X10_readSaid__3 l D cy z H.size Ps ws hw.1 p0 z0_47 (gd+1) (gz) (max gg (Int32.toInt x1 + 1)) h_p0 r_z0_47 m_z0_47 x_SN_p0_gd_1_gz_max_gg__Int32_toInt_x1___1_) (cwV 0 hts (gV tw_1759 tw_1761 ts_113 tw_15 tw_1762) rfl rfl rfl (by decide +kernel) ⟨Nat.le_of_ble_eq_true rfl, Nat.le_of_ble_eq_true rfl⟩) (tg_preV hw hK hSD hA (ci := 10) (q := (RX10, TX10, 49)) rfl h_p0 rfl) rfl rfl hl.1 rfl (lv_room (Nat.le_of_ble_eq_true rfl)) dX10_readAnd_28 ⟨Nat.le_of_ble_eq_true rfl, Nat.le_of_ble_eq_true rfl⟩) hw hA ⟨by decide, by decide⟩ (fun v_4 ws H locs hp_v_4 hw hF9 => ?_)
        have r_v_4 : RI v_4 0 1 := hp_v_4.1
        by_cases c9_v_4 : v_4 = 0
        · have r_v_4 : RI v_4 0 0 := by rw [c9_v_4]; exact rl_0
          obtain ⟨v_5, m_v_5, r_v_5⟩ := ((hp_v_4.2.1 c9_v_4).1)
          refine lv_if_ne (tgt := 36) hx hb dX10_readAnd_31 (by decide) (fun c_31 => ?_) (fun c_31 => ?_)
          · exact absurd (r_v_4.eq.trans rl_0.eq.symm) ((ti_ne c_31))
          · refine lv_iconst (v := 0) hx hb dX10_readAnd_34 (by decide) ?_
            subst hQ
            exact W.zret (v := 0) hx hb hr (rfl) (fun t ht hW => ⟨⟨0, ws, rfl, ⟨⟨rl_0.to (by decide), (fun h0 => ⟨⟨_, m_v_5, r_v_5⟩, trivial⟩), (fun h0 => absurd rfl h0)⟩, hw.1, hw.2.2.2.2.1⟩, by rw [ht]; exact hw.2.1, va_K.moved hW.alike hK, hw.2.2.1⟩, hw.2.2.2.1.F ht⟩) hw.2.2.2.1.2.2 dX10_readAnd_35
        · have r_v_4 : RI v_4 1 1 := rc_neL r_v_4 rl_0 (ti_ne c9_v_4) (by decide)
          obtain ⟨v_6, m_v_6, r_v_6⟩ := ((hp_v_4.2.2 c9_v_4).1)
          obtain ⟨v_7, m_v_7, r_v_7⟩ := ((hp_v_4.2.2 c9_v_4).2.1)
          obtain ⟨v_8, m_v_8, r_v_8⟩ := ((hp_v_4.2.2 c9_v_4).2.2.1)
          have x_SNT_p0_gd_2_gz_1_max_gg__Int32_toInt_x1___1_ := ((hp_v_4.2.2 c9_v_4).2.2.2.1)
          refine lv_if_ne (tgt := 36) hx hb dX10_readAnd_31 (by decide) (fun c_31 => ?_) (fun c_31 => ?_)
          · refine lv_aload_n hx hb dX10_readAnd_36 rfl (lv_at hl 0 rfl) ?_
            refine lv_iconst (v := 2) hx hb dX10_readAnd_37 (by decide) ?_
            refine lv_iload_n hx hb dX10_readAnd_38 rfl (lv_at hl 1 rfl) ?_
            refine lv_aload_n hx hb dX10_readAnd_39 rfl (lv_at hl 0 rfl) ?_
            refine tg_mem (ci := 10) (C := RX10) (T := TX10) (N := 49) hx hb hts inX10 hown hK hw 48 m_v_7 rfl (by decide) (hts _ tw_1185) (fun _ h9 => h9) dX10_readAnd_40 ?_
            refine lv_iconst (v := 0) hx hb dX10_readAnd_43 (by decide) ?_
            have l9 := SNT.top hw x_SNT_p0_gd_2_gz_1_max_gg__Int32_toInt_x1___1_ m_v_7
            have l8 := SNT.sn x_SNT_p0_gd_2_gz_1_max_gg__Int32_toInt_x1___1_
            have x_SNI_p0_gd_1_gz_1_gg : SNI ws p0 (gd+1) (gz+1) (gg) := SNp.sni l8 (by have d_8 := SNp.le x_SN_p0_gd_gh_gg; omega)
            have x_LTN_p0_x1 : LTN ws p0 (x1) := SNp.ltn l8 f8
            have x_LTN_p0_v_7 : LTN ws p0 (v_7) := l9.ltn
            refine tk_i (va_runV (As := [.int 2, .int x1, .int v_7, .int 0]) (rest := []) ⟨hx, hb, hml, hown, hts⟩ (c_X10_saysOne__1 l D cy z H.size Ps ws hw.1 p0 2 x1 v_7 0 (gd+1) (gz+1) (gg) h_p0 (rl_2.to (by decide)) (r_x1.to (by decide)) (r_v_7.to (by decide)) (rl_0.to (by decide)) x_SNI_p0_gd_1_gz_1_gg x_LTN_p0_x1 x_LTN_p0_v_7) (cwV 4 hts (gV tw_1771 tw_1773 ts_116 tw_15 tw_1774) rfl rfl rfl (by decide +kernel) ⟨Nat.le_of_ble_eq_true rfl, Nat.le_of_ble_eq_true rfl⟩) (tg_preV hw hK hSD hA (ci := 10) (q := (RX10, TX10, 49)) rfl h_p0 rfl) rfl rfl hl.1 rfl (lv_room (Nat.le_of_ble_eq_true rfl)) dX10_readAnd_44 ⟨Nat.le_of_ble_eq_true rfl, Nat.le_of_ble_eq_true rfl⟩) hw hA ⟨by decide, by decide⟩ (fun v_9 ws H locs hp_v_9 hw hF9 => ?_)
            have m_v_6 := FLD.over hF9 m_v_6 (by decide)
            have m_v_7 := FLD.over hF9 m_v_7 (by decide)
            have m_v_8 := FLD.over hF9 m_v_8 (by decide)
            have r_v_9 : RI v_9 0 39 := hp_v_9.1
            have x_SNL_p0_gd_1_gz_1_gg_v_9 := hp_v_9.2.2.2.1.1
            refine lv_istore_n (lv' := [(1, .int v_9), (0, .ref p0)]) hx hb dX10_readAnd_47 rfl hl (by decide) rfl (fun ls hl => ?_)
            refine lv_goto (tgt := 14) hx hb dX10_readAnd_48 (by decide) ?_
            have x_SNW_p0_gd_1_gz_1_gg_v_9 : (SNL ws p0 (gd+1) (gz+1) (gg) v_9 ∧ gh + 1 ≤ gz+1) := ⟨x_SNL_p0_gd_1_gz_1_gg_v_9, by omega⟩
            exact ih14 v_9 v_6 v_8 v_7 (gz+1) ws _ _ ls (by have d_8 := SNp.le x_SN_p0_gd_gh_gg; omega) r_v_9 r_v_6 m_v_6 r_v_8 m_v_8 r_v_7 m_v_7 x_SNW_p0_gd_1_gz_1_gg_v_9 hw (lv_sub hl [1, 0] rfl)
          · have r_v_4 : RI v_4 1 0 := rc_eq1 r_v_4 rl_0 (ti_eq c_31) (by decide)
            exact (r_v_4.no (by decide)).elim
  refine lv_aload_n hx hb dX10_readAnd_0 rfl (lv_at hl 0 rfl) ?_
  refine tk_i (va_runV (As := []) (rest := []) ⟨hx, hb, hml, hown, hts⟩ (c_X10_readSaid__3 l D cy z s.heap.size Ps w0 hw.1 p0 f0_47 (gd) (gh) (gg) h_p0 r_f0_47 m_f0_47 x_SN_p0_gd_gh_gg) (cwV 0 hts (gV tw_1759 tw_1761 ts_113 tw_15 tw_1762) rfl rfl rfl (by decide +kernel) ⟨Nat.le_of_ble_eq_true rfl, Nat.le_of_ble_eq_true rfl⟩) (tg_preV hw hK hSD hA (ci := 10) (q := (RX10, TX10, 49)) rfl h_p0 rfl) rfl rfl hl.1 rfl (lv_room (Nat.le_of_ble_eq_true rfl)) dX10_readAnd_1 ⟨Nat.le_of_ble_eq_true rfl, Nat.le_of_ble_eq_true rfl⟩) hw hA ⟨by decide, by decide⟩ (fun v_10 ws H locs hp_v_10 hw hF9 => ?_)
  have r_v_10 : RI v_10 0 1 := hp_v_10.1
  by_cases c9_v_10 : v_10 = 0
  · have r_v_10 : RI v_10 0 0 := by rw [c9_v_10]; exact rl_0
    obtain ⟨v_11, m_v_11, r_v_11⟩ := ((hp_v_10.2.1 c9_v_10).1)
    refine lv_if_ne (tgt := 9) hx hb dX10_readAnd_4 (by decide) (fun c_4 => ?_) (fun c_4 => ?_)
    · exact absurd (r_v_10.eq.trans rl_0.eq.symm) ((ti_ne c_4))
    · refine lv_iconst (v := 0) hx hb dX10_readAnd_7 (by decide) ?_
      subst hQ
      exact W.zret (v := 0) hx hb hr (rfl) (fun t ht hW => ⟨⟨0, ws, rfl, ⟨⟨rl_0.to (by decide), (fun h0 => ⟨⟨_, m_v_11, r_v_11⟩, trivial⟩), (fun h0 => absurd rfl h0)⟩, hw.1, hw.2.2.2.2.1⟩, by rw [ht]; exact hw.2.1, va_K.moved hW.alike hK, hw.2.2.1⟩, hw.2.2.2.1.F ht⟩) hw.2.2.2.1.2.2 dX10_readAnd_8
  · have r_v_10 : RI v_10 1 1 := rc_neL r_v_10 rl_0 (ti_ne c9_v_10) (by decide)
    obtain ⟨v_12, m_v_12, r_v_12⟩ := ((hp_v_10.2.2 c9_v_10).1)
    obtain ⟨v_13, m_v_13, r_v_13⟩ := ((hp_v_10.2.2 c9_v_10).2.1)
    obtain ⟨v_14, m_v_14, r_v_14⟩ := ((hp_v_10.2.2 c9_v_10).2.2.1)
    have x_SNT_p0_gd_1_gh_1_gg := ((hp_v_10.2.2 c9_v_10).2.2.2.1)
    refine lv_if_ne (tgt := 9) hx hb dX10_readAnd_4 (by decide) (fun c_4 => ?_) (fun c_4 => ?_)
    · refine lv_aload_n hx hb dX10_readAnd_9 rfl (lv_at hl 0 rfl) ?_
      refine tg_mem (ci := 10) (C := RX10) (T := TX10) (N := 49) hx hb hts inX10 hown hK hw 48 m_v_13 rfl (by decide) (hts _ tw_1185) (fun _ h9 => h9) dX10_readAnd_10 ?_
      refine lv_istore_n (lv' := [(1, .int v_13), (0, .ref p0)]) hx hb dX10_readAnd_13 rfl hl (by decide) rfl (fun ls hl => ?_)
      have x_SNW_p0_gd_1_gh_1_gg_v_13 : (SNL ws p0 (gd+1) (gh+1) (gg) v_13 ∧ gh + 1 ≤ gh+1) := ⟨SNT.top hw x_SNT_p0_gd_1_gh_1_gg m_v_13, by omega⟩
      exact B14 4294967298 v_13 v_12 v_14 v_13 (gh+1) ws _ _ ls (by have d_8 := SNp.le x_SN_p0_gd_gh_gg; omega) r_v_13 r_v_12 m_v_12 r_v_14 m_v_14 r_v_13 m_v_13 x_SNW_p0_gd_1_gh_1_gg_v_13 hw (lv_sub hl [1, 0] rfl)
    · have r_v_10 : RI v_10 1 0 := rc_eq1 r_v_10 rl_0 (ti_eq c_4) (by decide)
      exact (r_v_10.no (by decide)).elim
abbrev wr_X10_readOr__3 : List (Nat × Nat) := [(10, 5), (10, 6), (10, 7), (10, 8), (10, 9), (10, 10), (10, 11), (10, 12), (10, 13), (10, 45), (10, 46), (10, 47), (10, 48)]
abbrev wa_X10_readOr__3 : List Nat := [54]
set_option maxHeartbeats 4000000 in
set_option maxRecDepth 100000 in
theorem c_X10_readOr__3 (l : Launch) (D : va_G) (cy : Nat → ClassId) (z : Nat → Nat) (sz : Nat) (Ps : PSI) (w0 : va_W) (hT : HT cy GG Ps w0) (p0 : Nat) (f0_47 : Int32) (gd : Int) (gh : Int) (gg : Int) (h_p0 : (p0, 55) ∈ Ps) (r_f0_47 : RI f0_47 3 3) (m_f0_47 : FLD w0 p0 10 47 (.int f0_47)) (x_SN_p0_gd_gh_gg : SNp w0 p0 (gd) (gh) (gg)) : Met l yX10_readOr (Cond.code yX10_readOr cX10_readOr 2 (some .boolean) :: gT) ({ frames := 26, cells := 0, slots := 0, locals := 5200 } : Room) (va_Pc [.ref p0] (PRE D cy z w0 sz)) (va_Qi (fun (r : Int32) (u : va_W) => (RI r 0 1 ∧ (r = 0 → (∃ v9 : Int32, FLD u p0 10 47 (.int v9) ∧ RI v9 3 3) ∧ True) ∧ (¬ r = 0 → (∃ v9 : Int32, FLD u p0 10 46 (.int v9) ∧ RI v9 1 20) ∧ (∃ v9 : Int32, FLD u p0 10 47 (.int v9) ∧ RI v9 3 3) ∧ (∃ v9 : Int32, FLD u p0 10 48 (.int v9) ∧ RI v9 0 39) ∧ SNT u p0 (gd+1) (gh+1) (gg) ∧ True)) ∧ HT cy GG Ps u ∧ FR wr_X10_readOr__3 wa_X10_readOr__3 Ps w0 u) (BB D cy (va_A w0 sz) (fun (u : va_W) => u)) (va_A w0 sz)) 0 0 (va_A w0 sz) := by
  refine Met.ofW (cc := cX10_readOr) (maxL := 2) (ret := (some .boolean)) (by decide) rfl ?_
  intro p e s m args below meth c s₁ B hml hv
  obtain ⟨rfl, hsz, hP, hK, hD0, hSD⟩ := hv
  have hx := B.exec
  have hb := B.bytes
  have hr := B.returns
  have hlocks := B.notSynchronized
  have hts : ∀ w ∈ gT, w.before _ s = true := fun w h => atoms_spec (ws := Cond.code yX10_readOr cX10_readOr 2 (some .boolean) :: gT) B.pre w (List.mem_cons_of_mem _ h)
  have hown : s.vm.findClass RX10 = some m.cls := findClass_of_methodNamed B.named
  subst hsz
  have hD := hD0.self (sz := s.heap.size)
  generalize hAe : va_A w0 s.heap.size = A at hD hSD ⊢
  have hA : ∀ q : Nat, s.heap.size ≤ q → A q := fun q h => by rw [← hAe]; exact Or.inr h
  have hl := lv_entry ([.ref p0]) (n := 2) (Nat.le_of_ble_eq_true rfl)
  rw [lg_entry_eq]
  generalize (lg_sl ([.ref p0]) ++ List.replicate (2 - (lg_sl ([.ref p0])).length) Slot.unset).toArray = ls at hl ⊢
  have hl : lv_has ls 2 [(0, .ref p0)] := hl
  refine nameQ (fun Q hQ => ?_)
  have hw : WD D cy GG A s wr_X10_readOr__3 wa_X10_readOr__3 Ps w0 Ps w0 s.heap [] := ⟨hT, hP, hD, va_S.rf, FR.rf, hT.1, [], (List.append_nil _).symm⟩
  have B14 : ∀ (nf : Nat) (x1 : Int32) (z0_46 : Int32) (z0_47 : Int32) (z0_48 : Int32) (gz : Int) (ws : va_W) (H : Heap) (locs : List Loc) (ls : Array Slot), 21 - gz < (nf : Int) → RI x1 0 39 → RI z0_46 1 20 → FLD ws p0 10 46 (.int z0_46) → RI z0_47 3 3 → FLD ws p0 10 47 (.int z0_47) → RI z0_48 0 39 → FLD ws p0 10 48 (.int z0_48) → (SNL ws p0 (gd+1) (gz) (gg) x1 ∧ gh + 1 ≤ gz) → WD D cy GG A s wr_X10_readOr__3 wa_X10_readOr__3 Ps w0 Ps ws H locs → lv_has ls 2 [(0, .ref p0), (1, .int x1)] → W p l e (headSpec (Cond.code yX10_readOr cX10_readOr 2 (some .boolean) :: gT) ({ frames := 26, cells := 0, slots := 0, locals := 5200 } : Room)).room s m ([.ref p0] : List Value).toArray below meth c H locs 0 0 Q (F0 m 14 ls []) := by
    intro nf14
    induction nf14 with
    | zero =>
      intro x1 z0_46 z0_47 z0_48 gz ws H locs ls hn14 r_x1 r_z0_46 m_z0_46 r_z0_47 m_z0_47 r_z0_48 m_z0_48 x_SNW_p0_gd_1_gz_gg__1 hw hl
      exact absurd hn14 (by have q9 := SNL.le x_SNW_p0_gd_1_gz_gg__1.1; omega)
    | succ nf14 ih14 =>
      intro x1 z0_46 z0_47 z0_48 gz ws H locs ls hn14 r_x1 r_z0_46 m_z0_46 r_z0_47 m_z0_47 r_z0_48 m_z0_48 x_SNW_p0_gd_1_gz_gg__1 hw hl
      refine lv_aload_n hx hb dX10_readOr_14 rfl (lv_at hl 0 rfl) ?_
      refine lv_bipush (v := 16) hx hb dX10_readOr_15 (by decide) ?_
      refine tk_ir (va_runV (As := [.int 16]) (rest := []) ⟨hx, hb, hml, hown, hts⟩ (c_X10_isWord l D cy z H.size Ps ws hw.1 p0 16 h_p0 (rl_16.to (by decide))) (cwV 1 hts (gV tw_1318 tw_1320 ts_43 tw_15 tw_1321) rfl rfl rfl (by decide +kernel) ⟨Nat.le_of_ble_eq_true rfl, Nat.le_of_ble_eq_true rfl⟩) (tg_preV hw hK hSD hA (ci := 10) (q := (RX10, TX10, 49)) rfl h_p0 rfl) rfl rfl hl.1 rfl (lv_room (Nat.le_of_ble_eq_true rfl)) dX10_readOr_17 ⟨Nat.le_of_ble_eq_true rfl, Nat.le_of_ble_eq_true rfl⟩) hw hA (fun v_1  H locs hp_v_1 hw => ?_)
      have r_v_1 : RI v_1 0 1 := hp_v_1.1
      refine lv_if_eq (tgt := 51) hx hb dX10_readOr_20 (by decide) (fun c_20 => ?_) (fun c_20 => ?_)
      · have r_v_1 : RI v_1 0 0 := rc_eq1 r_v_1 rl_0 (ti_eq c_20) (by decide)
        refine lv_aload_n hx hb dX10_readOr_51 rfl (lv_at hl 0 rfl) ?_
        refine lv_iload_n hx hb dX10_readOr_52 rfl (lv_at hl 1 rfl) ?_
        refine tg_put (ci := 10) (ts := ty_MODEL) (v := .int x1) (ty := .int) (C := RX10) (T := TX10) (N := 49) hx hb hts inX10 tyX10 tyX10_ok nmX10 hown hK hw h_p0 rfl rfl 48 (by decide) (hts _ tw_1185) (fun _ h9 => h9) rfl (by decide +kernel) rfl rfl (ft := vI (-2147483648) 2147483647) rfl ⟨_, rfl, (r_x1.to (by decide))⟩ (by decide) dX10_readOr_53 (fun ws H locs hw n_k_2 hF9 => ?_)
        have m_z0_46 := FLD.over hF9 m_z0_46 (by decide)
        have m_z0_47 := FLD.over hF9 m_z0_47 (by decide)
        have x_SNW_p0_gd_1_gz_gg__1 := SNW.over hF9 x_SNW_p0_gd_1_gz_gg__1 (by decide)
        have f6 := SNL.le x_SNW_p0_gd_1_gz_gg__1.1
        have f7 := x_SNW_p0_gd_1_gz_gg__1.2
        have x_SNT_p0_gd_1_gh_1_gg : SNT ws p0 (gd+1) (gh+1) (gg) := (SNL.snt x_SNW_p0_gd_1_gz_gg__1.1 n_k_2).weak (by have d_8 := SNp.le x_SN_p0_gd_gh_gg; omega)
        refine lv_iconst (v := 1) hx hb dX10_readOr_56 (by decide) ?_
        subst hQ
        exact W.zret (v := 1) hx hb hr (rfl) (fun t ht hW => ⟨⟨1, ws, rfl, ⟨⟨rl_1.to (by decide), (fun h0 => absurd h0 (by decide)), (fun h0 => ⟨⟨_, m_z0_46, r_z0_46⟩, ⟨_, m_z0_47, r_z0_47⟩, ⟨_, n_k_2, r_x1⟩, x_SNT_p0_gd_1_gh_1_gg, trivial⟩)⟩, hw.1, hw.2.2.2.2.1⟩, by rw [ht]; exact hw.2.1, va_K.moved hW.alike hK, hw.2.2.1⟩, hw.2.2.2.1.F ht⟩) hw.2.2.2.1.2.2 dX10_readOr_57
      · have r_v_1 : RI v_1 1 1 := rc_neL r_v_1 rl_0 (ti_ne c_20) (by decide)
        refine lv_aload_n hx hb dX10_readOr_23 rfl (lv_at hl 0 rfl) ?_
        refine tk_v (va_runV (As := []) (rest := []) ⟨hx, hb, hml, hown, hts⟩ (c_X10_go l D cy z H.size Ps ws hw.1 p0 h_p0) (cwV 0 hts (gV tw_1298 tw_1300 ts_40 tw_15 tw_1301) rfl rfl rfl (by decide +kernel) ⟨Nat.le_of_ble_eq_true rfl, Nat.le_of_ble_eq_true rfl⟩) (tg_preV hw hK hSD hA (ci := 10) (q := (RX10, TX10, 49)) rfl h_p0 rfl) rfl rfl hl.1 rfl (lv_room (Nat.le_of_ble_eq_true rfl)) dX10_readOr_24 ⟨Nat.le_of_ble_eq_true rfl, Nat.le_of_ble_eq_true rfl⟩) hw hA ⟨by decide, by decide⟩ (fun ws H locs hp_v_3 hw hF9 => ?_)
        have m_z0_46 := FLD.over hF9 m_z0_46 (by decide)
        have m_z0_47 := FLD.over hF9 m_z0_47 (by decide)
        have m_z0_48 := FLD.over hF9 m_z0_48 (by decide)
        have x_SNW_p0_gd_1_gz_gg__1 := SNW.over hF9 x_SNW_p0_gd_1_gz_gg__1 (by decide)
        refine lv_aload_n hx hb dX10_readOr_27 rfl (lv_at hl 0 rfl) ?_
        have f9 := SNL.sn x_SNW_p0_gd_1_gz_gg__1.1
        have f8 := f9.2
        have f7 := x_SNW_p0_gd_1_gz_gg__1.2
        have f6 := SNL.le x_SNW_p0_gd_1_gz_gg__1.1
        have x_SN_p0_gd_1_gz_max_gg__Int32_toInt_x1___1_ : SNp ws p0 (gd+1) (gz) (max gg (Int32.toInt x1 + 1)) := f9.1
        refine tk_i (va_runV (As := []) (rest := []) ⟨hx, hb, hml, hown, hts⟩ (c_X10_readAnd__3 l D cy z H.size Ps ws hw.1 p0 z0_47 (gd+1) (gz) (max gg (Int32.toInt x1 + 1)) h_p0 r_z0_47 m_z0_47 x_SN_p0_gd_1_gz_max_gg__Int32_toInt_x1___1_) (cwV 0 hts (gV tw_1755 tw_1757 ts_112 tw_15 tw_1758) rfl rfl rfl (by decide +kernel) ⟨Nat.le_of_ble_eq_true rfl, Nat.le_of_ble_eq_true rfl⟩) (tg_preV hw hK hSD hA (ci := 10) (q := (RX10, TX10, 49)) rfl h_p0 rfl) rfl rfl hl.1 rfl (lv_room (Nat.le_of_ble_eq_true rfl)) dX10_readOr_28 ⟨Nat.le_of_ble_eq_true rfl, Nat.le_of_ble_eq_true rfl⟩) hw hA ⟨by decide, by decide⟩ (fun v_4 ws H locs hp_v_4 hw hF9 => ?_)
        have r_v_4 : RI v_4 0 1 := hp_v_4.1
        by_cases c9_v_4 : v_4 = 0
        · have r_v_4 : RI v_4 0 0 := by rw [c9_v_4]; exact rl_0
          obtain ⟨v_5, m_v_5, r_v_5⟩ := ((hp_v_4.2.1 c9_v_4).1)
          refine lv_if_ne (tgt := 36) hx hb dX10_readOr_31 (by decide) (fun c_31 => ?_) (fun c_31 => ?_)
          · exact absurd (r_v_4.eq.trans rl_0.eq.symm) ((ti_ne c_31))
          · refine lv_iconst (v := 0) hx hb dX10_readOr_34 (by decide) ?_
            subst hQ
            exact W.zret (v := 0) hx hb hr (rfl) (fun t ht hW => ⟨⟨0, ws, rfl, ⟨⟨rl_0.to (by decide), (fun h0 => ⟨⟨_, m_v_5, r_v_5⟩, trivial⟩), (fun h0 => absurd rfl h0)⟩, hw.1, hw.2.2.2.2.1⟩, by rw [ht]; exact hw.2.1, va_K.moved hW.alike hK, hw.2.2.1⟩, hw.2.2.2.1.F ht⟩) hw.2.2.2.1.2.2 dX10_readOr_35
        · have r_v_4 : RI v_4 1 1 := rc_neL r_v_4 rl_0 (ti_ne c9_v_4) (by decide)
          obtain ⟨v_6, m_v_6, r_v_6⟩ := ((hp_v_4.2.2 c9_v_4).1)
          obtain ⟨v_7, m_v_7, r_v_7⟩ := ((hp_v_4.2.2 c9_v_4).2.1)
          obtain ⟨v_8, m_v_8, r_v_8⟩ := ((hp_v_4.2.2 c9_v_4).2.2.1)
          have x_SNT_p0_gd_2_gz_1_max_gg__Int32_toInt_x1___1_ := ((hp_v_4.2.2 c9_v_4).2.2.2.1)
          refine lv_if_ne (tgt := 36) hx hb dX10_readOr_31 (by decide) (fun c_31 => ?_) (fun c_31 => ?_)
          · refine lv_aload_n hx hb dX10_readOr_36 rfl (lv_at hl 0 rfl) ?_
            refine lv_iconst (v := 3) hx hb dX10_readOr_37 (by decide) ?_
            refine lv_iload_n hx hb dX10_readOr_38 rfl (lv_at hl 1 rfl) ?_
            refine lv_aload_n hx hb dX10_readOr_39 rfl (lv_at hl 0 rfl) ?_
            refine tg_mem (ci := 10) (C := RX10) (T := TX10) (N := 49) hx hb hts inX10 hown hK hw 48 m_v_8 rfl (by decide) (hts _ tw_1185) (fun _ h9 => h9) dX10_readOr_40 ?_
            refine lv_iconst (v := 0) hx hb dX10_readOr_43 (by decide) ?_
            have l9 := SNT.top hw x_SNT_p0_gd_2_gz_1_max_gg__Int32_toInt_x1___1_ m_v_8
            have l8 := SNT.sn x_SNT_p0_gd_2_gz_1_max_gg__Int32_toInt_x1___1_
            have x_SNI_p0_gd_1_gz_1_gg : SNI ws p0 (gd+1) (gz+1) (gg) := SNp.sni l8 (by have d_8 := SNp.le x_SN_p0_gd_gh_gg; omega)
            have x_LTN_p0_x1 : LTN ws p0 (x1) := SNp.ltn l8 f8
            have x_LTN_p0_v_8 : LTN ws p0 (v_8) := l9.ltn
            refine tk_i (va_runV (As := [.int 3, .int x1, .int v_8, .int 0]) (rest := []) ⟨hx, hb, hml, hown, hts⟩ (c_X10_saysOne__1 l D cy z H.size Ps ws hw.1 p0 3 x1 v_8 0 (gd+1) (gz+1) (gg) h_p0 (rl_3.to (by decide)) (r_x1.to (by decide)) (r_v_8.to (by decide)) (rl_0.to (by decide)) x_SNI_p0_gd_1_gz_1_gg x_LTN_p0_x1 x_LTN_p0_v_8) (cwV 4 hts (gV tw_1771 tw_1773 ts_116 tw_15 tw_1774) rfl rfl rfl (by decide +kernel) ⟨Nat.le_of_ble_eq_true rfl, Nat.le_of_ble_eq_true rfl⟩) (tg_preV hw hK hSD hA (ci := 10) (q := (RX10, TX10, 49)) rfl h_p0 rfl) rfl rfl hl.1 rfl (lv_room (Nat.le_of_ble_eq_true rfl)) dX10_readOr_44 ⟨Nat.le_of_ble_eq_true rfl, Nat.le_of_ble_eq_true rfl⟩) hw hA ⟨by decide, by decide⟩ (fun v_9 ws H locs hp_v_9 hw hF9 => ?_)
            have m_v_6 := FLD.over hF9 m_v_6 (by decide)
            have m_v_7 := FLD.over hF9 m_v_7 (by decide)
            have m_v_8 := FLD.over hF9 m_v_8 (by decide)
            have r_v_9 : RI v_9 0 39 := hp_v_9.1
            have x_SNL_p0_gd_1_gz_1_gg_v_9 := hp_v_9.2.2.2.1.1
            refine lv_istore_n (lv' := [(1, .int v_9), (0, .ref p0)]) hx hb dX10_readOr_47 rfl hl (by decide) rfl (fun ls hl => ?_)
            refine lv_goto (tgt := 14) hx hb dX10_readOr_48 (by decide) ?_
            have x_SNW_p0_gd_1_gz_1_gg_v_9 : (SNL ws p0 (gd+1) (gz+1) (gg) v_9 ∧ gh + 1 ≤ gz+1) := ⟨x_SNL_p0_gd_1_gz_1_gg_v_9, by omega⟩
            exact ih14 v_9 v_6 v_7 v_8 (gz+1) ws _ _ ls (by have d_8 := SNp.le x_SN_p0_gd_gh_gg; omega) r_v_9 r_v_6 m_v_6 r_v_7 m_v_7 r_v_8 m_v_8 x_SNW_p0_gd_1_gz_1_gg_v_9 hw (lv_sub hl [1, 0] rfl)
          · have r_v_4 : RI v_4 1 0 := rc_eq1 r_v_4 rl_0 (ti_eq c_31) (by decide)
            exact (r_v_4.no (by decide)).elim
  refine lv_aload_n hx hb dX10_readOr_0 rfl (lv_at hl 0 rfl) ?_
  refine tk_i (va_runV (As := []) (rest := []) ⟨hx, hb, hml, hown, hts⟩ (c_X10_readAnd__3 l D cy z s.heap.size Ps w0 hw.1 p0 f0_47 (gd) (gh) (gg) h_p0 r_f0_47 m_f0_47 x_SN_p0_gd_gh_gg) (cwV 0 hts (gV tw_1755 tw_1757 ts_112 tw_15 tw_1758) rfl rfl rfl (by decide +kernel) ⟨Nat.le_of_ble_eq_true rfl, Nat.le_of_ble_eq_true rfl⟩) (tg_preV hw hK hSD hA (ci := 10) (q := (RX10, TX10, 49)) rfl h_p0 rfl) rfl rfl hl.1 rfl (lv_room (Nat.le_of_ble_eq_true rfl)) dX10_readOr_1 ⟨Nat.le_of_ble_eq_true rfl, Nat.le_of_ble_eq_true rfl⟩) hw hA ⟨by decide, by decide⟩ (fun v_10 ws H locs hp_v_10 hw hF9 => ?_)
  have r_v_10 : RI v_10 0 1 := hp_v_10.1
  by_cases c9_v_10 : v_10 = 0
  · have r_v_10 : RI v_10 0 0 := by rw [c9_v_10]; exact rl_0
    obtain ⟨v_11, m_v_11, r_v_11⟩ := ((hp_v_10.2.1 c9_v_10).1)
    refine lv_if_ne (tgt := 9) hx hb dX10_readOr_4 (by decide) (fun c_4 => ?_) (fun c_4 => ?_)
    · exact absurd (r_v_10.eq.trans rl_0.eq.symm) ((ti_ne c_4))
    · refine lv_iconst (v := 0) hx hb dX10_readOr_7 (by decide) ?_
      subst hQ
      exact W.zret (v := 0) hx hb hr (rfl) (fun t ht hW => ⟨⟨0, ws, rfl, ⟨⟨rl_0.to (by decide), (fun h0 => ⟨⟨_, m_v_11, r_v_11⟩, trivial⟩), (fun h0 => absurd rfl h0)⟩, hw.1, hw.2.2.2.2.1⟩, by rw [ht]; exact hw.2.1, va_K.moved hW.alike hK, hw.2.2.1⟩, hw.2.2.2.1.F ht⟩) hw.2.2.2.1.2.2 dX10_readOr_8
  · have r_v_10 : RI v_10 1 1 := rc_neL r_v_10 rl_0 (ti_ne c9_v_10) (by decide)
    obtain ⟨v_12, m_v_12, r_v_12⟩ := ((hp_v_10.2.2 c9_v_10).1)
    obtain ⟨v_13, m_v_13, r_v_13⟩ := ((hp_v_10.2.2 c9_v_10).2.1)
    obtain ⟨v_14, m_v_14, r_v_14⟩ := ((hp_v_10.2.2 c9_v_10).2.2.1)
    have x_SNT_p0_gd_1_gh_1_gg := ((hp_v_10.2.2 c9_v_10).2.2.2.1)
    refine lv_if_ne (tgt := 9) hx hb dX10_readOr_4 (by decide) (fun c_4 => ?_) (fun c_4 => ?_)
    · refine lv_aload_n hx hb dX10_readOr_9 rfl (lv_at hl 0 rfl) ?_
      refine tg_mem (ci := 10) (C := RX10) (T := TX10) (N := 49) hx hb hts inX10 hown hK hw 48 m_v_14 rfl (by decide) (hts _ tw_1185) (fun _ h9 => h9) dX10_readOr_10 ?_
      refine lv_istore_n (lv' := [(1, .int v_14), (0, .ref p0)]) hx hb dX10_readOr_13 rfl hl (by decide) rfl (fun ls hl => ?_)
      have x_SNW_p0_gd_1_gh_1_gg_v_14 : (SNL ws p0 (gd+1) (gh+1) (gg) v_14 ∧ gh + 1 ≤ gh+1) := ⟨SNT.top hw x_SNT_p0_gd_1_gh_1_gg m_v_14, by omega⟩
      exact B14 4294967298 v_14 v_12 v_13 v_14 (gh+1) ws _ _ ls (by have d_8 := SNp.le x_SN_p0_gd_gh_gg; omega) r_v_14 r_v_12 m_v_12 r_v_13 m_v_13 r_v_14 m_v_14 x_SNW_p0_gd_1_gh_1_gg_v_14 hw (lv_sub hl [1, 0] rfl)
    · have r_v_10 : RI v_10 1 0 := rc_eq1 r_v_10 rl_0 (ti_eq c_4) (by decide)
      exact (r_v_10.no (by decide)).elim
abbrev wr_X10_readBracket__2 : List (Nat × Nat) := [(10, 5), (10, 6), (10, 7), (10, 8), (10, 9), (10, 10), (10, 11), (10, 12), (10, 13), (10, 45), (10, 46), (10, 47), (10, 48)]
abbrev wa_X10_readBracket__2 : List Nat := [54]
set_option maxHeartbeats 4000000 in
set_option maxRecDepth 100000 in
theorem c_X10_readBracket__2 (l : Launch) (D : va_G) (cy : Nat → ClassId) (z : Nat → Nat) (sz : Nat) (Ps : PSI) (w0 : va_W) (hT : HT cy GG Ps w0) (p0 : Nat) (f0_47 : Int32) (gd : Int) (gh : Int) (gg : Int) (h_p0 : (p0, 55) ∈ Ps) (r_f0_47 : RI f0_47 3 3) (m_f0_47 : FLD w0 p0 10 47 (.int f0_47)) (x_SNI_p0_gd_gh_gg : SNI w0 p0 (gd) (gh) (gg)) : Met l yX10_readBracket (Cond.code yX10_readBracket cX10_readBracket 1 (some .boolean) :: gT) ({ frames := 27, cells := 0, slots := 0, locals := 5400 } : Room) (va_Pc [.ref p0] (PRE D cy z w0 sz)) (va_Qi (fun (r : Int32) (u : va_W) => (RI r 0 1 ∧ (r = 0 → (∃ v9 : Int32, FLD u p0 10 47 (.int v9) ∧ RI v9 3 3) ∧ True) ∧ (¬ r = 0 → (∃ v9 : Int32, FLD u p0 10 46 (.int v9) ∧ RI v9 1 20) ∧ (∃ v9 : Int32, FLD u p0 10 47 (.int v9) ∧ RI v9 3 3) ∧ (∃ v9 : Int32, FLD u p0 10 48 (.int v9) ∧ RI v9 0 39) ∧ SNT u p0 (gd) (gh) (gg) ∧ True)) ∧ HT cy GG Ps u ∧ FR wr_X10_readBracket__2 wa_X10_readBracket__2 Ps w0 u) (BB D cy (va_A w0 sz) (fun (u : va_W) => u)) (va_A w0 sz)) 0 0 (va_A w0 sz) := by
  refine Met.ofW (cc := cX10_readBracket) (maxL := 1) (ret := (some .boolean)) (by decide) rfl ?_
  intro p e s m args below meth c s₁ B hml hv
  obtain ⟨rfl, hsz, hP, hK, hD0, hSD⟩ := hv
  have hx := B.exec
  have hb := B.bytes
  have hr := B.returns
  have hlocks := B.notSynchronized
  have hts : ∀ w ∈ gT, w.before _ s = true := fun w h => atoms_spec (ws := Cond.code yX10_readBracket cX10_readBracket 1 (some .boolean) :: gT) B.pre w (List.mem_cons_of_mem _ h)
  have hown : s.vm.findClass RX10 = some m.cls := findClass_of_methodNamed B.named
  subst hsz
  have hD := hD0.self (sz := s.heap.size)
  generalize hAe : va_A w0 s.heap.size = A at hD hSD ⊢
  have hA : ∀ q : Nat, s.heap.size ≤ q → A q := fun q h => by rw [← hAe]; exact Or.inr h
  have hl := lv_entry ([.ref p0]) (n := 1) (Nat.le_of_ble_eq_true rfl)
  rw [lg_entry_eq]
  generalize (lg_sl ([.ref p0]) ++ List.replicate (1 - (lg_sl ([.ref p0])).length) Slot.unset).toArray = ls at hl ⊢
  have hl : lv_has ls 1 [(0, .ref p0)] := hl
  refine nameQ (fun Q hQ => ?_)
  have hw : WD D cy GG A s wr_X10_readBracket__2 wa_X10_readBracket__2 Ps w0 Ps w0 s.heap [] := ⟨hT, hP, hD, va_S.rf, FR.rf, hT.1, [], (List.append_nil _).symm⟩
  refine lv_aload_n hx hb dX10_readBracket_0 rfl (lv_at hl 0 rfl) ?_
  have d_8 := x_SNI_p0_gd_gh_gg.1
  have x_SN_p0_gd_1_gh_gg : SNp w0 p0 (gd+1) (gh) (gg) := x_SNI_p0_gd_gh_gg.2
  refine tk_i (va_runV (As := []) (rest := []) ⟨hx, hb, hml, hown, hts⟩ (c_X10_readOr__3 l D cy z s.heap.size Ps w0 hw.1 p0 f0_47 (gd+1) (gh) (gg) h_p0 r_f0_47 m_f0_47 x_SN_p0_gd_1_gh_gg) (cwV 0 hts (gV tw_1751 tw_1753 ts_111 tw_15 tw_1754) rfl rfl rfl (by decide +kernel) ⟨Nat.le_of_ble_eq_true rfl, Nat.le_of_ble_eq_true rfl⟩) (tg_preV hw hK hSD hA (ci := 10) (q := (RX10, TX10, 49)) rfl h_p0 rfl) rfl rfl hl.1 rfl (lv_room (Nat.le_of_ble_eq_true rfl)) dX10_readBracket_1 ⟨Nat.le_of_ble_eq_true rfl, Nat.le_of_ble_eq_true rfl⟩) hw hA ⟨by decide, by decide⟩ (fun v_1 ws H locs hp_v_1 hw hF9 => ?_)
  have r_v_1 : RI v_1 0 1 := hp_v_1.1
  by_cases c9_v_1 : v_1 = 0
  · have r_v_1 : RI v_1 0 0 := by rw [c9_v_1]; exact rl_0
    obtain ⟨v_2, m_v_2, r_v_2⟩ := ((hp_v_1.2.1 c9_v_1).1)
    refine lv_if_ne (tgt := 9) hx hb dX10_readBracket_4 (by decide) (fun c_4 => ?_) (fun c_4 => ?_)
    · exact absurd (r_v_1.eq.trans rl_0.eq.symm) ((ti_ne c_4))
    · refine lv_iconst (v := 0) hx hb dX10_readBracket_7 (by decide) ?_
      subst hQ
      exact W.zret (v := 0) hx hb hr (rfl) (fun t ht hW => ⟨⟨0, ws, rfl, ⟨⟨rl_0.to (by decide), (fun h0 => ⟨⟨_, m_v_2, r_v_2⟩, trivial⟩), (fun h0 => absurd rfl h0)⟩, hw.1, hw.2.2.2.2.1⟩, by rw [ht]; exact hw.2.1, va_K.moved hW.alike hK, hw.2.2.1⟩, hw.2.2.2.1.F ht⟩) hw.2.2.2.1.2.2 dX10_readBracket_8
  · have r_v_1 : RI v_1 1 1 := rc_neL r_v_1 rl_0 (ti_ne c9_v_1) (by decide)
    obtain ⟨v_3, m_v_3, r_v_3⟩ := ((hp_v_1.2.2 c9_v_1).1)
    obtain ⟨v_4, m_v_4, r_v_4⟩ := ((hp_v_1.2.2 c9_v_1).2.1)
    obtain ⟨v_5, m_v_5, r_v_5⟩ := ((hp_v_1.2.2 c9_v_1).2.2.1)
    have x_SNT_p0_gd_2_gh_1_gg := ((hp_v_1.2.2 c9_v_1).2.2.2.1)
    refine lv_if_ne (tgt := 9) hx hb dX10_readBracket_4 (by decide) (fun c_4 => ?_) (fun c_4 => ?_)
    · refine lv_aload_n hx hb dX10_readBracket_9 rfl (lv_at hl 0 rfl) ?_
      refine lv_bipush (v := 41) hx hb dX10_readBracket_10 (by decide) ?_
      refine tk_ir (va_runV (As := [.int 41]) (rest := []) ⟨hx, hb, hml, hown, hts⟩ (c_X10_isSign l D cy z H.size Ps ws hw.1 p0 41 h_p0 (rl_41.to (by decide))) (cwV 1 hts (gV tw_1413 tw_1415 ts_63 tw_15 tw_1416) rfl rfl rfl (by decide +kernel) ⟨Nat.le_of_ble_eq_true rfl, Nat.le_of_ble_eq_true rfl⟩) (tg_preV hw hK hSD hA (ci := 10) (q := (RX10, TX10, 49)) rfl h_p0 rfl) rfl rfl hl.1 rfl (lv_room (Nat.le_of_ble_eq_true rfl)) dX10_readBracket_12 ⟨Nat.le_of_ble_eq_true rfl, Nat.le_of_ble_eq_true rfl⟩) hw hA (fun v_6  H locs hp_v_6 hw => ?_)
      have r_v_6 : RI v_6 0 1 := hp_v_6.1
      by_cases c9_v_6 : v_6 = 0
      · have r_v_6 : RI v_6 0 0 := by rw [c9_v_6]; exact rl_0
        refine lv_if_ne (tgt := 24) hx hb dX10_readBracket_15 (by decide) (fun c_15 => ?_) (fun c_15 => ?_)
        · exact absurd (r_v_6.eq.trans rl_0.eq.symm) ((ti_ne c_15))
        · refine lv_aload_n hx hb dX10_readBracket_18 rfl (lv_at hl 0 rfl) ?_
          refine lv_iconst (v := 1) hx hb dX10_readBracket_19 (by decide) ?_
          refine tk_i (va_runV (As := [.int 1]) (rest := []) ⟨hx, hb, hml, hown, hts⟩ (c_X10_bad l D cy z H.size Ps ws hw.1 p0 1 h_p0 (rl_1.to (by decide))) (cwV 1 hts (gV tw_1336 tw_1338 ts_46 tw_15 tw_1339) rfl rfl rfl (by decide +kernel) ⟨Nat.le_of_ble_eq_true rfl, Nat.le_of_ble_eq_true rfl⟩) (tg_preV hw hK hSD hA (ci := 10) (q := (RX10, TX10, 49)) rfl h_p0 rfl) rfl rfl hl.1 rfl (lv_room (Nat.le_of_ble_eq_true rfl)) dX10_readBracket_20 ⟨Nat.le_of_ble_eq_true rfl, Nat.le_of_ble_eq_true rfl⟩) hw hA ⟨by decide, by decide⟩ (fun v_7 ws H locs hp_v_7 hw hF9 => ?_)
          have m_v_3 := FLD.over hF9 m_v_3 (by decide)
          have m_v_4 := FLD.over hF9 m_v_4 (by decide)
          have m_v_5 := FLD.over hF9 m_v_5 (by decide)
          have x_SNT_p0_gd_2_gh_1_gg := SNT.over hF9 x_SNT_p0_gd_2_gh_1_gg (by decide)
          have r_v_7 : RI v_7 0 0 := hp_v_7.1
          subst hQ
          exact W.zret (v := v_7) hx hb hr (tq_nz (r_v_7.to (by decide))) (fun t ht hW => ⟨⟨v_7, ws, rfl, ⟨⟨r_v_7.to (by decide), (fun h0 => ⟨⟨_, m_v_4, r_v_4⟩, trivial⟩), (fun h0 => absurd (Int32.toInt_inj.mp (by have h8 := r_v_7; unfold RI at h8; rw [Int32.toInt_zero]; omega)) h0)⟩, hw.1, hw.2.2.2.2.1⟩, by rw [ht]; exact hw.2.1, va_K.moved hW.alike hK, hw.2.2.1⟩, hw.2.2.2.1.F ht⟩) hw.2.2.2.1.2.2 dX10_readBracket_23
      · have r_v_6 : RI v_6 1 1 := rc_neL r_v_6 rl_0 (ti_ne c9_v_6) (by decide)
        obtain ⟨v_8, m_v_8, r_v_8⟩ := ((hp_v_6.2.2 c9_v_6).1)
        refine lv_if_ne (tgt := 24) hx hb dX10_readBracket_15 (by decide) (fun c_15 => ?_) (fun c_15 => ?_)
        · refine lv_aload_n hx hb dX10_readBracket_24 rfl (lv_at hl 0 rfl) ?_
          refine tk_v (va_runV (As := []) (rest := []) ⟨hx, hb, hml, hown, hts⟩ (c_X10_go l D cy z H.size Ps ws hw.1 p0 h_p0) (cwV 0 hts (gV tw_1298 tw_1300 ts_40 tw_15 tw_1301) rfl rfl rfl (by decide +kernel) ⟨Nat.le_of_ble_eq_true rfl, Nat.le_of_ble_eq_true rfl⟩) (tg_preV hw hK hSD hA (ci := 10) (q := (RX10, TX10, 49)) rfl h_p0 rfl) rfl rfl hl.1 rfl (lv_room (Nat.le_of_ble_eq_true rfl)) dX10_readBracket_25 ⟨Nat.le_of_ble_eq_true rfl, Nat.le_of_ble_eq_true rfl⟩) hw hA ⟨by decide, by decide⟩ (fun ws H locs hp_v_9 hw hF9 => ?_)
          have m_v_3 := FLD.over hF9 m_v_3 (by decide)
          have m_v_4 := FLD.over hF9 m_v_4 (by decide)
          have m_v_5 := FLD.over hF9 m_v_5 (by decide)
          have x_SNT_p0_gd_2_gh_1_gg := SNT.over hF9 x_SNT_p0_gd_2_gh_1_gg (by decide)
          have x_SNT_p0_gd_gh_gg : SNT ws p0 (gd) (gh) (gg) := x_SNT_p0_gd_2_gh_1_gg.weak (by have d_8 := SNp.le x_SNI_p0_gd_gh_gg.2; have d_7 := x_SNI_p0_gd_gh_gg.1; omega)
          refine lv_iconst (v := 1) hx hb dX10_readBracket_28 (by decide) ?_
          subst hQ
          exact W.zret (v := 1) hx hb hr (rfl) (fun t ht hW => ⟨⟨1, ws, rfl, ⟨⟨rl_1.to (by decide), (fun h0 => absurd h0 (by decide)), (fun h0 => ⟨⟨_, m_v_3, r_v_3⟩, ⟨_, m_v_4, r_v_4⟩, ⟨_, m_v_5, r_v_5⟩, x_SNT_p0_gd_gh_gg, trivial⟩)⟩, hw.1, hw.2.2.2.2.1⟩, by rw [ht]; exact hw.2.1, va_K.moved hW.alike hK, hw.2.2.1⟩, hw.2.2.2.1.F ht⟩) hw.2.2.2.1.2.2 dX10_readBracket_29
        · have r_v_6 : RI v_6 1 0 := rc_eq1 r_v_6 rl_0 (ti_eq c_15) (by decide)
          exact (r_v_6.no (by decide)).elim
    · have r_v_1 : RI v_1 1 0 := rc_eq1 r_v_1 rl_0 (ti_eq c_4) (by decide)
      exact (r_v_1.no (by decide)).elim
abbrev wr_X10_readNot__5 : List (Nat × Nat) := [(10, 5), (10, 6), (10, 7), (10, 8), (10, 9), (10, 10), (10, 11), (10, 12), (10, 13), (10, 45), (10, 46), (10, 47), (10, 48)]
abbrev wa_X10_readNot__5 : List Nat := [54]
set_option maxHeartbeats 4000000 in
set_option maxRecDepth 100000 in
theorem c_X10_readNot__5 (l : Launch) (D : va_G) (cy : Nat → ClassId) (z : Nat → Nat) (sz : Nat) (Ps : PSI) (w0 : va_W) (hT : HT cy GG Ps w0) (p0 : Nat) (f0_47 : Int32) (gd : Int) (gh : Int) (gg : Int) (h_p0 : (p0, 55) ∈ Ps) (r_f0_47 : RI f0_47 3 3) (m_f0_47 : FLD w0 p0 10 47 (.int f0_47)) (x_SNI_p0_gd_gh_gg : SNI w0 p0 (gd) (gh) (gg)) : Met l yX10_readNot (Cond.code yX10_readNot cX10_readNot 1 (some .boolean) :: gT) ({ frames := 25, cells := 0, slots := 0, locals := 5000 } : Room) (va_Pc [.ref p0] (PRE D cy z w0 sz)) (va_Qi (fun (r : Int32) (u : va_W) => (RI r 0 1 ∧ (r = 0 → (∃ v9 : Int32, FLD u p0 10 47 (.int v9) ∧ RI v9 3 3) ∧ True) ∧ (¬ r = 0 → (∃ v9 : Int32, FLD u p0 10 46 (.int v9) ∧ RI v9 1 20) ∧ (∃ v9 : Int32, FLD u p0 10 47 (.int v9) ∧ RI v9 3 3) ∧ (∃ v9 : Int32, FLD u p0 10 48 (.int v9) ∧ RI v9 0 39) ∧ SNT u p0 (gd) (gh) (gg) ∧ True)) ∧ HT cy GG Ps u ∧ FR wr_X10_readNot__5 wa_X10_readNot__5 Ps w0 u) (BB D cy (va_A w0 sz) (fun (u : va_W) => u)) (va_A w0 sz)) 0 0 (va_A w0 sz) := by
  refine Met.ofW (cc := cX10_readNot) (maxL := 1) (ret := (some .boolean)) (by decide) rfl ?_
  intro p e s m args below meth c s₁ B hml hv
  obtain ⟨rfl, hsz, hP, hK, hD0, hSD⟩ := hv
  have hx := B.exec
  have hb := B.bytes
  have hr := B.returns
  have hlocks := B.notSynchronized
  have hts : ∀ w ∈ gT, w.before _ s = true := fun w h => atoms_spec (ws := Cond.code yX10_readNot cX10_readNot 1 (some .boolean) :: gT) B.pre w (List.mem_cons_of_mem _ h)
  have hown : s.vm.findClass RX10 = some m.cls := findClass_of_methodNamed B.named
  subst hsz
  have hD := hD0.self (sz := s.heap.size)
  generalize hAe : va_A w0 s.heap.size = A at hD hSD ⊢
  have hA : ∀ q : Nat, s.heap.size ≤ q → A q := fun q h => by rw [← hAe]; exact Or.inr h
  have hl := lv_entry ([.ref p0]) (n := 1) (Nat.le_of_ble_eq_true rfl)
  rw [lg_entry_eq]
  generalize (lg_sl ([.ref p0]) ++ List.replicate (1 - (lg_sl ([.ref p0])).length) Slot.unset).toArray = ls at hl ⊢
  have hl : lv_has ls 1 [(0, .ref p0)] := hl
  refine nameQ (fun Q hQ => ?_)
  have hw : WD D cy GG A s wr_X10_readNot__5 wa_X10_readNot__5 Ps w0 Ps w0 s.heap [] := ⟨hT, hP, hD, va_S.rf, FR.rf, hT.1, [], (List.append_nil _).symm⟩
  refine lv_aload_n hx hb dX10_readNot_0 rfl (lv_at hl 0 rfl) ?_
  have x_SN_p0_gd_1_gh_gg : SNp w0 p0 (gd+1) (gh) (gg) := x_SNI_p0_gd_gh_gg.2
  refine tk_i (va_runV (As := []) (rest := []) ⟨hx, hb, hml, hown, hts⟩ (c_X10_readSaid__3 l D cy z s.heap.size Ps w0 hw.1 p0 f0_47 (gd+1) (gh) (gg) h_p0 r_f0_47 m_f0_47 x_SN_p0_gd_1_gh_gg) (cwV 0 hts (gV tw_1759 tw_1761 ts_113 tw_15 tw_1762) rfl rfl rfl (by decide +kernel) ⟨Nat.le_of_ble_eq_true rfl, Nat.le_of_ble_eq_true rfl⟩) (tg_preV hw hK hSD hA (ci := 10) (q := (RX10, TX10, 49)) rfl h_p0 rfl) rfl rfl hl.1 rfl (lv_room (Nat.le_of_ble_eq_true rfl)) dX10_readNot_1 ⟨Nat.le_of_ble_eq_true rfl, Nat.le_of_ble_eq_true rfl⟩) hw hA ⟨by decide, by decide⟩ (fun v_1 ws H locs hp_v_1 hw hF9 => ?_)
  have r_v_1 : RI v_1 0 1 := hp_v_1.1
  by_cases c9_v_1 : v_1 = 0
  · have r_v_1 : RI v_1 0 0 := by rw [c9_v_1]; exact rl_0
    obtain ⟨v_2, m_v_2, r_v_2⟩ := ((hp_v_1.2.1 c9_v_1).1)
    refine lv_if_ne (tgt := 9) hx hb dX10_readNot_4 (by decide) (fun c_4 => ?_) (fun c_4 => ?_)
    · exact absurd (r_v_1.eq.trans rl_0.eq.symm) ((ti_ne c_4))
    · refine lv_iconst (v := 0) hx hb dX10_readNot_7 (by decide) ?_
      subst hQ
      exact W.zret (v := 0) hx hb hr (rfl) (fun t ht hW => ⟨⟨0, ws, rfl, ⟨⟨rl_0.to (by decide), (fun h0 => ⟨⟨_, m_v_2, r_v_2⟩, trivial⟩), (fun h0 => absurd rfl h0)⟩, hw.1, hw.2.2.2.2.1⟩, by rw [ht]; exact hw.2.1, va_K.moved hW.alike hK, hw.2.2.1⟩, hw.2.2.2.1.F ht⟩) hw.2.2.2.1.2.2 dX10_readNot_8
  · have r_v_1 : RI v_1 1 1 := rc_neL r_v_1 rl_0 (ti_ne c9_v_1) (by decide)
    obtain ⟨v_3, m_v_3, r_v_3⟩ := ((hp_v_1.2.2 c9_v_1).1)
    obtain ⟨v_4, m_v_4, r_v_4⟩ := ((hp_v_1.2.2 c9_v_1).2.1)
    obtain ⟨v_5, m_v_5, r_v_5⟩ := ((hp_v_1.2.2 c9_v_1).2.2.1)
    have x_SNT_p0_gd_2_gh_1_gg := ((hp_v_1.2.2 c9_v_1).2.2.2.1)
    refine lv_if_ne (tgt := 9) hx hb dX10_readNot_4 (by decide) (fun c_4 => ?_) (fun c_4 => ?_)
    · refine lv_aload_n hx hb dX10_readNot_9 rfl (lv_at hl 0 rfl) ?_
      refine lv_aload_n hx hb dX10_readNot_10 rfl (lv_at hl 0 rfl) ?_
      refine lv_iconst (v := 1) hx hb dX10_readNot_11 (by decide) ?_
      refine lv_aload_n hx hb dX10_readNot_12 rfl (lv_at hl 0 rfl) ?_
      refine tg_mem (ci := 10) (C := RX10) (T := TX10) (N := 49) hx hb hts inX10 hown hK hw 48 m_v_4 rfl (by decide) (hts _ tw_1185) (fun _ h9 => h9) dX10_readNot_13 ?_
      refine lv_iconst (v := 0) hx hb dX10_readNot_16 (by decide) ?_
      refine lv_iconst (v := 0) hx hb dX10_readNot_17 (by decide) ?_
      have l9 := SNT.top hw x_SNT_p0_gd_2_gh_1_gg m_v_4
      have l8 := l9.le
      have x_SNI_p0_gd_1_gh_1_gg : SNI ws p0 (gd+1) (gh+1) (gg) := SNp.sni (SNT.sn x_SNT_p0_gd_2_gh_1_gg) (by have d_8 := SNp.le x_SNI_p0_gd_gh_gg.2; have d_7 := x_SNI_p0_gd_gh_gg.1; omega)
      have x_LTN_p0_v_4 : LTN ws p0 (v_4) := l9.ltn
      refine tk_i (va_runV (As := [.int 1, .int v_4, .int 0, .int 0]) (rest := [.ref p0]) ⟨hx, hb, hml, hown, hts⟩ (c_X10_saysOne__2 l D cy z H.size Ps ws hw.1 p0 1 v_4 0 0 (gd+1) (gh+1) (gg) h_p0 rl_1 (r_v_4.to (by decide)) (rl_0.to (by decide)) (rl_0.to (by decide)) x_SNI_p0_gd_1_gh_1_gg x_LTN_p0_v_4) (cwV 4 hts (gV tw_1771 tw_1773 ts_116 tw_15 tw_1774) rfl rfl rfl (by decide +kernel) ⟨Nat.le_of_ble_eq_true rfl, Nat.le_of_ble_eq_true rfl⟩) (tg_preV hw hK hSD hA (ci := 10) (q := (RX10, TX10, 49)) rfl h_p0 rfl) rfl rfl hl.1 rfl (lv_room (Nat.le_of_ble_eq_true rfl)) dX10_readNot_18 ⟨Nat.le_of_ble_eq_true rfl, Nat.le_of_ble_eq_true rfl⟩) hw hA ⟨by decide, by decide⟩ (fun v_6 ws H locs hp_v_6 hw hF9 => ?_)
      have m_v_3 := FLD.over hF9 m_v_3 (by decide)
      have m_v_4 := FLD.over hF9 m_v_4 (by decide)
      have m_v_5 := FLD.over hF9 m_v_5 (by decide)
      have r_v_6 : RI v_6 0 39 := hp_v_6.1
      have x_SNL_p0_gd_1_gh_1_gg_v_6 := hp_v_6.2.2.2.1.1
      refine tg_put (ci := 10) (ts := ty_MODEL) (v := .int v_6) (ty := .int) (C := RX10) (T := TX10) (N := 49) hx hb hts inX10 tyX10 tyX10_ok nmX10 hown hK hw h_p0 rfl rfl 48 (by decide) (hts _ tw_1185) (fun _ h9 => h9) rfl (by decide +kernel) rfl rfl (ft := vI (-2147483648) 2147483647) rfl ⟨_, rfl, (r_v_6.to (by decide))⟩ (by decide) dX10_readNot_21 (fun ws H locs hw n_k_7 hF9 => ?_)
      have m_v_3 := FLD.over hF9 m_v_3 (by decide)
      have m_v_5 := FLD.over hF9 m_v_5 (by decide)
      have x_SNL_p0_gd_1_gh_1_gg_v_6 := SNL.over hF9 x_SNL_p0_gd_1_gh_1_gg_v_6 (by decide)
      have x_SNT_p0_gd_gh_gg : SNT ws p0 (gd) (gh) (gg) := (x_SNL_p0_gd_1_gh_1_gg_v_6.weak (d' := gd) (h' := gh) (g' := gg) (by have k1 := x_SNL_p0_gd_1_gh_1_gg_v_6.le; have d_8 := SNp.le x_SNI_p0_gd_gh_gg.2; have d_7 := x_SNI_p0_gd_gh_gg.1; omega)).snt n_k_7
      refine lv_iconst (v := 1) hx hb dX10_readNot_24 (by decide) ?_
      subst hQ
      exact W.zret (v := 1) hx hb hr (rfl) (fun t ht hW => ⟨⟨1, ws, rfl, ⟨⟨rl_1.to (by decide), (fun h0 => absurd h0 (by decide)), (fun h0 => ⟨⟨_, m_v_3, r_v_3⟩, ⟨_, m_v_5, r_v_5⟩, ⟨_, n_k_7, r_v_6⟩, x_SNT_p0_gd_gh_gg, trivial⟩)⟩, hw.1, hw.2.2.2.2.1⟩, by rw [ht]; exact hw.2.1, va_K.moved hW.alike hK, hw.2.2.1⟩, hw.2.2.2.1.F ht⟩) hw.2.2.2.1.2.2 dX10_readNot_25
    · have r_v_1 : RI v_1 1 0 := rc_eq1 r_v_1 rl_0 (ti_eq c_4) (by decide)
      exact (r_v_1.no (by decide)).elim
abbrev wr_X10_readSaid__2 : List (Nat × Nat) := [(10, 5), (10, 6), (10, 7), (10, 8), (10, 9), (10, 10), (10, 11), (10, 12), (10, 13), (10, 45), (10, 46), (10, 47), (10, 48)]
abbrev wa_X10_readSaid__2 : List Nat := [54]
set_option maxHeartbeats 4000000 in
set_option maxRecDepth 100000 in
theorem c_X10_readSaid__2 (l : Launch) (D : va_G) (cy : Nat → ClassId) (z : Nat → Nat) (sz : Nat) (Ps : PSI) (w0 : va_W) (hT : HT cy GG Ps w0) (p0 : Nat) (f0_47 : Int32) (gd : Int) (gh : Int) (gg : Int) (h_p0 : (p0, 55) ∈ Ps) (r_f0_47 : RI f0_47 2 2) (m_f0_47 : FLD w0 p0 10 47 (.int f0_47)) (x_SN_p0_gd_gh_gg : SNp w0 p0 (gd) (gh) (gg)) : Met l yX10_readSaid (Cond.code yX10_readSaid cX10_readSaid 4 (some .boolean) :: gT) ({ frames := 28, cells := 0, slots := 0, locals := 5600 } : Room) (va_Pc [.ref p0] (PRE D cy z w0 sz)) (va_Qi (fun (r : Int32) (u : va_W) => (RI r 0 1 ∧ (r = 0 → (∃ v9 : Int32, FLD u p0 10 47 (.int v9) ∧ RI v9 2 2) ∧ True) ∧ (¬ r = 0 → (∃ v9 : Int32, FLD u p0 10 46 (.int v9) ∧ RI v9 1 20) ∧ (∃ v9 : Int32, FLD u p0 10 48 (.int v9) ∧ RI v9 0 39) ∧ (∃ v9 : Int32, FLD u p0 10 47 (.int v9) ∧ RI v9 2 2) ∧ SNT u p0 (gd+1) (gh+1) (gg) ∧ True)) ∧ HT cy GG Ps u ∧ FR wr_X10_readSaid__2 wa_X10_readSaid__2 Ps w0 u) (BB D cy (va_A w0 sz) (fun (u : va_W) => u)) (va_A w0 sz)) 0 0 (va_A w0 sz) := by
  refine Met.ofW (cc := cX10_readSaid) (maxL := 4) (ret := (some .boolean)) (by decide) rfl ?_
  intro p e s m args below meth c s₁ B hml hv
  obtain ⟨rfl, hsz, hP, hK, hD0, hSD⟩ := hv
  have hx := B.exec
  have hb := B.bytes
  have hr := B.returns
  have hlocks := B.notSynchronized
  have hts : ∀ w ∈ gT, w.before _ s = true := fun w h => atoms_spec (ws := Cond.code yX10_readSaid cX10_readSaid 4 (some .boolean) :: gT) B.pre w (List.mem_cons_of_mem _ h)
  have hown : s.vm.findClass RX10 = some m.cls := findClass_of_methodNamed B.named
  subst hsz
  have hD := hD0.self (sz := s.heap.size)
  generalize hAe : va_A w0 s.heap.size = A at hD hSD ⊢
  have hA : ∀ q : Nat, s.heap.size ≤ q → A q := fun q h => by rw [← hAe]; exact Or.inr h
  have hl := lv_entry ([.ref p0]) (n := 4) (Nat.le_of_ble_eq_true rfl)
  rw [lg_entry_eq]
  generalize (lg_sl ([.ref p0]) ++ List.replicate (4 - (lg_sl ([.ref p0])).length) Slot.unset).toArray = ls at hl ⊢
  have hl : lv_has ls 4 [(0, .ref p0)] := hl
  refine nameQ (fun Q hQ => ?_)
  have hw : WD D cy GG A s wr_X10_readSaid__2 wa_X10_readSaid__2 Ps w0 Ps w0 s.heap [] := ⟨hT, hP, hD, va_S.rf, FR.rf, hT.1, [], (List.append_nil _).symm⟩
  have B30 : ∀ (x1 : Int32) (x2 : Int32) (z0_47 : Int32) (ws : va_W) (H : Heap) (locs : List Loc) (ls : Array Slot), RI x1 0 1 → RI x2 18 28 → RI z0_47 2 2 → FLD ws p0 10 47 (.int z0_47) → SNp ws p0 (gd) (gh) (gg) → WD D cy GG A s wr_X10_readSaid__2 wa_X10_readSaid__2 Ps w0 Ps ws H locs → lv_has ls 4 [(0, .ref p0), (1, .int x1), (2, .int x2)] → W p l e (headSpec (Cond.code yX10_readSaid cX10_readSaid 4 (some .boolean) :: gT) ({ frames := 28, cells := 0, slots := 0, locals := 5600 } : Room)).room s m ([.ref p0] : List Value).toArray below meth c H locs 0 0 Q (F0 m 30 ls []) := by
    intro x1 x2 z0_47 ws H locs ls r_x1 r_x2 r_z0_47 m_z0_47 x_SN_p0_gd_gh_gg hw hl
    refine lv_iload_n hx hb dX10_readSaid_30 rfl (lv_at hl 1 rfl) ?_
    refine lv_if_ne (tgt := 46) hx hb dX10_readSaid_31 (by decide) (fun c_31 => ?_) (fun c_31 => ?_)
    · have r_x1 : RI x1 1 1 := rc_neL r_x1 rl_0 (ti_ne c_31) (by decide)
      refine lv_aload_n hx hb dX10_readSaid_46 rfl (lv_at hl 0 rfl) ?_
      refine tg_get (ci := 10) (ts := ty_MODEL) (C := RX10) (T := TX10) (N := 49) hx hb hts inX10 hown hK hw h_p0 rfl rfl 46 (by decide) (hts _ tw_1183) (fun _ h9 => h9) (ft := vI (-2147483648) 2147483647) rfl dX10_readSaid_47 (fun u_1 hv_u_1 m_u_1 => ?_)
      obtain ⟨vu_1, rfl, r_vu_1⟩ := hv_u_1
      obtain ⟨n9, hn9, rn9, r_vu_1, b9⟩ := SNp.getO hw x_SN_p0_gd_gh_gg m_u_1
      refine lv_bipush (v := 20) hx hb dX10_readSaid_50 (by decide) ?_
      refine lv_icmp_eq (tgt := 64) hx hb dX10_readSaid_52 (by decide) (fun c_52 => ?_) (fun c_52 => ?_)
      · have r_vu_1 : RI vu_1 20 20 := rc_eq1 r_vu_1 rl_20 (ti_eq c_52) (by decide)
        refine lv_aload_n hx hb dX10_readSaid_64 rfl (lv_at hl 0 rfl) ?_
        refine lv_iconst (v := 4) hx hb dX10_readSaid_65 (by decide) ?_
        refine tk_i (va_runV (As := [.int 4]) (rest := []) ⟨hx, hb, hml, hown, hts⟩ (c_X10_bad l D cy z H.size Ps ws hw.1 p0 4 h_p0 (rl_4.to (by decide))) (cwV 1 hts (gV tw_1336 tw_1338 ts_46 tw_15 tw_1339) rfl rfl rfl (by decide +kernel) ⟨Nat.le_of_ble_eq_true rfl, Nat.le_of_ble_eq_true rfl⟩) (tg_preV hw hK hSD hA (ci := 10) (q := (RX10, TX10, 49)) rfl h_p0 rfl) rfl rfl hl.1 rfl (lv_room (Nat.le_of_ble_eq_true rfl)) dX10_readSaid_66 ⟨Nat.le_of_ble_eq_true rfl, Nat.le_of_ble_eq_true rfl⟩) hw hA ⟨by decide, by decide⟩ (fun v_2 ws H locs hp_v_2 hw hF9 => ?_)
        have m_z0_47 := FLD.over hF9 m_z0_47 (by decide)
        have m_u_1 := FLD.over hF9 m_u_1 (by decide)
        have hn9 := FLD.over hF9 hn9 (by decide)
        have x_SN_p0_gd_gh_gg := SNp.over hF9 x_SN_p0_gd_gh_gg (by decide)
        have r_v_2 : RI v_2 0 0 := hp_v_2.1
        subst hQ
        exact W.zret (v := v_2) hx hb hr (tq_nz (r_v_2.to (by decide))) (fun t ht hW => ⟨⟨v_2, ws, rfl, ⟨⟨r_v_2.to (by decide), (fun h0 => ⟨⟨_, m_z0_47, r_z0_47⟩, trivial⟩), (fun h0 => absurd (Int32.toInt_inj.mp (by have h8 := r_v_2; unfold RI at h8; rw [Int32.toInt_zero]; omega)) h0)⟩, hw.1, hw.2.2.2.2.1⟩, by rw [ht]; exact hw.2.1, va_K.moved hW.alike hK, hw.2.2.1⟩, hw.2.2.2.1.F ht⟩) hw.2.2.2.1.2.2 dX10_readSaid_69
      · have r_vu_1 : RI vu_1 0 19 := rc_neU r_vu_1 rl_20 (ti_ne c_52) (by decide)
        refine lv_aload_n hx hb dX10_readSaid_55 rfl (lv_at hl 0 rfl) ?_
        refine tg_mem (ci := 10) (C := RX10) (T := TX10) (N := 49) hx hb hts inX10 hown hK hw 47 m_z0_47 rfl (by decide) (hts _ tw_1184) (fun _ h9 => h9) dX10_readSaid_56 ?_
        refine lv_bipush (v := 8) hx hb dX10_readSaid_59 (by decide) ?_
        refine lv_icmp_ne (tgt := 70) hx hb dX10_readSaid_61 (by decide) (fun c_61 => ?_) (fun c_61 => ?_)
        · refine lv_aload_n hx hb dX10_readSaid_70 rfl (lv_at hl 0 rfl) ?_
          refine lv_dup hx hb dX10_readSaid_71 rfl ?_
          refine tg_mem (ci := 10) (C := RX10) (T := TX10) (N := 49) hx hb hts inX10 hown hK hw 46 m_u_1 rfl (by decide) (hts _ tw_1183) (fun _ h9 => h9) dX10_readSaid_72 ?_
          refine lv_iconst (v := 1) hx hb dX10_readSaid_75 (by decide) ?_
          refine lv_iadd hx hb dX10_readSaid_76 (lv_topi (fun v_3 e_v_3 => ?_))
          obtain ⟨t_v_3, r_v_3⟩ := tq_add (lo := 1) (hi := 20) r_vu_1 rl_1 (by decide +kernel) e_v_3
          have t_v_3 : v_3.toInt = vu_1.toInt + 1 := t_v_3
          refine tg_put (ci := 10) (ts := ty_MODEL) (v := .int v_3) (ty := .int) (C := RX10) (T := TX10) (N := 49) hx hb hts inX10 tyX10 tyX10_ok nmX10 hown hK hw h_p0 rfl rfl 46 (by decide) (hts _ tw_1183) (fun _ h9 => h9) rfl (by decide +kernel) rfl rfl (ft := vI (-2147483648) 2147483647) rfl ⟨_, rfl, (r_v_3.to (by decide))⟩ (by decide) dX10_readSaid_77 (fun ws H locs hw n_k_4 hF9 => ?_)
          have m_z0_47 := FLD.over hF9 m_z0_47 (by decide)
          have hn9 := FLD.over hF9 hn9 (by decide)
          have x_SNI_p0_gd_1_gh_1_gg : SNI ws p0 (gd+1) (gh+1) (gg) := ⟨by omega, _, _, hn9, n_k_4, by have k1 := rn9.1; have k2 := r_v_3.2; omega⟩
          refine lv_aload_n hx hb dX10_readSaid_80 rfl (lv_at hl 0 rfl) ?_
          refine lv_dup hx hb dX10_readSaid_81 rfl ?_
          refine tg_mem (ci := 10) (C := RX10) (T := TX10) (N := 49) hx hb hts inX10 hown hK hw 47 m_z0_47 rfl (by decide) (hts _ tw_1184) (fun _ h9 => h9) dX10_readSaid_82 ?_
          refine lv_iconst (v := 1) hx hb dX10_readSaid_85 (by decide) ?_
          refine lv_iadd hx hb dX10_readSaid_86 (lv_topi (fun v_5 e_v_5 => ?_))
          obtain ⟨t_v_5, r_v_5⟩ := tq_add (lo := 3) (hi := 3) r_z0_47 rl_1 (by decide +kernel) e_v_5
          have t_v_5 : v_5.toInt = z0_47.toInt + 1 := t_v_5
          refine tg_put (ci := 10) (ts := ty_MODEL) (v := .int v_5) (ty := .int) (C := RX10) (T := TX10) (N := 49) hx hb hts inX10 tyX10 tyX10_ok nmX10 hown hK hw h_p0 rfl rfl 47 (by decide) (hts _ tw_1184) (fun _ h9 => h9) rfl (by decide +kernel) rfl rfl (ft := vI (-2147483648) 2147483647) rfl ⟨_, rfl, (r_v_5.to (by decide))⟩ (by decide) dX10_readSaid_87 (fun ws H locs hw n_k_6 hF9 => ?_)
          have hn9 := FLD.over hF9 hn9 (by decide)
          have n_k_4 := FLD.over hF9 n_k_4 (by decide)
          have x_SNI_p0_gd_1_gh_1_gg := SNI.over hF9 x_SNI_p0_gd_1_gh_1_gg (by decide)
          refine lv_aload_n hx hb dX10_readSaid_90 rfl (lv_at hl 0 rfl) ?_
          refine tk_v (va_runV (As := []) (rest := []) ⟨hx, hb, hml, hown, hts⟩ (c_X10_go l D cy z H.size Ps ws hw.1 p0 h_p0) (cwV 0 hts (gV tw_1298 tw_1300 ts_40 tw_15 tw_1301) rfl rfl rfl (by decide +kernel) ⟨Nat.le_of_ble_eq_true rfl, Nat.le_of_ble_eq_true rfl⟩) (tg_preV hw hK hSD hA (ci := 10) (q := (RX10, TX10, 49)) rfl h_p0 rfl) rfl rfl hl.1 rfl (lv_room (Nat.le_of_ble_eq_true rfl)) dX10_readSaid_91 ⟨Nat.le_of_ble_eq_true rfl, Nat.le_of_ble_eq_true rfl⟩) hw hA ⟨by decide, by decide⟩ (fun ws H locs hp_v_7 hw hF9 => ?_)
          have hn9 := FLD.over hF9 hn9 (by decide)
          have n_k_4 := FLD.over hF9 n_k_4 (by decide)
          have n_k_6 := FLD.over hF9 n_k_6 (by decide)
          have x_SNI_p0_gd_1_gh_1_gg := SNI.over hF9 x_SNI_p0_gd_1_gh_1_gg (by decide)
          refine lv_iconst (v := 1) hx hb dX10_readSaid_94 (by decide) ?_
          refine lv_istore_n (lv' := [(3, .int 1), (0, .ref p0), (1, .int x1), (2, .int x2)]) hx hb dX10_readSaid_95 rfl hl (by decide) rfl (fun ls hl => ?_)
          refine lv_iload_n hx hb dX10_readSaid_96 rfl (lv_at hl 2 rfl) ?_
          refine lv_if_eq (tgt := 108) hx hb dX10_readSaid_97 (by decide) (fun c_97 => ?_) (fun c_97 => ?_)
          · have r_x1 : RI x1 1 0 := rc_eq1 r_x1 rl_0 (ti_eq c_97) (by decide)
            exact (r_x1.no (by decide)).elim
          · refine lv_aload_n hx hb dX10_readSaid_100 rfl (lv_at hl 1 rfl) ?_
            refine tk_i (va_runV (As := []) (rest := []) ⟨hx, hb, hml, hown, hts⟩ (c_X10_readBracket__2 l D cy z H.size Ps ws hw.1 p0 v_5 (gd+1) (gh+1) (gg) h_p0 r_v_5 n_k_6 x_SNI_p0_gd_1_gh_1_gg) (cwV 0 hts (gV tw_1763 tw_1765 ts_114 tw_15 tw_1766) rfl rfl rfl (by decide +kernel) ⟨Nat.le_of_ble_eq_true rfl, Nat.le_of_ble_eq_true rfl⟩) (tg_preV hw hK hSD hA (ci := 10) (q := (RX10, TX10, 49)) rfl h_p0 rfl) rfl rfl hl.1 rfl (lv_room (Nat.le_of_ble_eq_true rfl)) dX10_readSaid_101 ⟨Nat.le_of_ble_eq_true rfl, Nat.le_of_ble_eq_true rfl⟩) hw hA ⟨by decide, by decide⟩ (fun v_8 ws H locs hp_v_8 hw hF9 => ?_)
            have r_v_8 : RI v_8 0 1 := hp_v_8.1
            by_cases c9_v_8 : v_8 = 0
            · have r_v_8 : RI v_8 0 0 := by rw [c9_v_8]; exact rl_0
              obtain ⟨v_9, m_v_9, r_v_9⟩ := ((hp_v_8.2.1 c9_v_8).1)
              refine lv_istore_n (lv' := [(3, .int v_8), (0, .ref p0), (1, .int x1), (2, .int x2)]) hx hb dX10_readSaid_104 rfl hl (by decide) rfl (fun ls hl => ?_)
              refine lv_goto (tgt := 166) hx hb dX10_readSaid_105 (by decide) ?_
              refine lv_aload_n hx hb dX10_readSaid_166 rfl (lv_at hl 1 rfl) ?_
              refine lv_dup hx hb dX10_readSaid_167 rfl ?_
              refine tg_mem (ci := 10) (C := RX10) (T := TX10) (N := 49) hx hb hts inX10 hown hK hw 47 m_v_9 rfl (by decide) (hts _ tw_1184) (fun _ h9 => h9) dX10_readSaid_168 ?_
              refine lv_iconst (v := 1) hx hb dX10_readSaid_171 (by decide) ?_
              refine lv_isub hx hb dX10_readSaid_172 (lv_topi (fun v_10 e_v_10 => ?_))
              obtain ⟨t_v_10, r_v_10⟩ := tq_sub (lo := 2) (hi := 2) r_v_9 rl_1 (by decide +kernel) e_v_10
              have t_v_10 : v_10.toInt = v_9.toInt - 1 := t_v_10
              refine tg_put (ci := 10) (ts := ty_MODEL) (v := .int v_10) (ty := .int) (C := RX10) (T := TX10) (N := 49) hx hb hts inX10 tyX10 tyX10_ok nmX10 hown hK hw h_p0 rfl rfl 47 (by decide) (hts _ tw_1184) (fun _ h9 => h9) rfl (by decide +kernel) rfl rfl (ft := vI (-2147483648) 2147483647) rfl ⟨_, rfl, (r_v_10.to (by decide))⟩ (by decide) dX10_readSaid_173 (fun ws H locs hw n_k_11 hF9 => ?_)
              refine lv_iload_n hx hb dX10_readSaid_176 rfl (lv_at hl 0 rfl) ?_
              subst hQ
              exact W.zret (v := v_8) hx hb hr (tq_nz (r_v_8.to (by decide))) (fun t ht hW => ⟨⟨v_8, ws, rfl, ⟨⟨r_v_8.to (by decide), (fun h0 => ⟨⟨_, n_k_11, r_v_10⟩, trivial⟩), (fun h0 => absurd (Int32.toInt_inj.mp (by have h8 := r_v_8; unfold RI at h8; rw [Int32.toInt_zero]; omega)) h0)⟩, hw.1, hw.2.2.2.2.1⟩, by rw [ht]; exact hw.2.1, va_K.moved hW.alike hK, hw.2.2.1⟩, hw.2.2.2.1.F ht⟩) hw.2.2.2.1.2.2 dX10_readSaid_177
            · have r_v_8 : RI v_8 1 1 := rc_neL r_v_8 rl_0 (ti_ne c9_v_8) (by decide)
              obtain ⟨v_12, m_v_12, r_v_12⟩ := ((hp_v_8.2.2 c9_v_8).1)
              obtain ⟨v_13, m_v_13, r_v_13⟩ := ((hp_v_8.2.2 c9_v_8).2.1)
              obtain ⟨v_14, m_v_14, r_v_14⟩ := ((hp_v_8.2.2 c9_v_8).2.2.1)
              have x_SNT_p0_gd_1_gh_1_gg := ((hp_v_8.2.2 c9_v_8).2.2.2.1)
              refine lv_istore_n (lv' := [(3, .int v_8), (0, .ref p0), (1, .int x1), (2, .int x2)]) hx hb dX10_readSaid_104 rfl hl (by decide) rfl (fun ls hl => ?_)
              refine lv_goto (tgt := 166) hx hb dX10_readSaid_105 (by decide) ?_
              refine lv_aload_n hx hb dX10_readSaid_166 rfl (lv_at hl 1 rfl) ?_
              refine lv_dup hx hb dX10_readSaid_167 rfl ?_
              refine tg_mem (ci := 10) (C := RX10) (T := TX10) (N := 49) hx hb hts inX10 hown hK hw 47 m_v_13 rfl (by decide) (hts _ tw_1184) (fun _ h9 => h9) dX10_readSaid_168 ?_
              refine lv_iconst (v := 1) hx hb dX10_readSaid_171 (by decide) ?_
              refine lv_isub hx hb dX10_readSaid_172 (lv_topi (fun v_15 e_v_15 => ?_))
              obtain ⟨t_v_15, r_v_15⟩ := tq_sub (lo := 2) (hi := 2) r_v_13 rl_1 (by decide +kernel) e_v_15
              have t_v_15 : v_15.toInt = v_13.toInt - 1 := t_v_15
              refine tg_put (ci := 10) (ts := ty_MODEL) (v := .int v_15) (ty := .int) (C := RX10) (T := TX10) (N := 49) hx hb hts inX10 tyX10 tyX10_ok nmX10 hown hK hw h_p0 rfl rfl 47 (by decide) (hts _ tw_1184) (fun _ h9 => h9) rfl (by decide +kernel) rfl rfl (ft := vI (-2147483648) 2147483647) rfl ⟨_, rfl, (r_v_15.to (by decide))⟩ (by decide) dX10_readSaid_173 (fun ws H locs hw n_k_16 hF9 => ?_)
              have m_v_12 := FLD.over hF9 m_v_12 (by decide)
              have m_v_14 := FLD.over hF9 m_v_14 (by decide)
              have x_SNT_p0_gd_1_gh_1_gg := SNT.over hF9 x_SNT_p0_gd_1_gh_1_gg (by decide)
              refine lv_iload_n hx hb dX10_readSaid_176 rfl (lv_at hl 0 rfl) ?_
              subst hQ
              exact W.zret (v := v_8) hx hb hr (tq_nz (r_v_8.to (by decide))) (fun t ht hW => ⟨⟨v_8, ws, rfl, ⟨⟨r_v_8.to (by decide), (fun h0 => absurd (ti_eq h0) (by have h8 := r_v_8; unfold RI at h8; rw [Int32.toInt_zero]; omega)), (fun h0 => ⟨⟨_, m_v_12, r_v_12⟩, ⟨_, m_v_14, r_v_14⟩, ⟨_, n_k_16, r_v_15⟩, x_SNT_p0_gd_1_gh_1_gg, trivial⟩)⟩, hw.1, hw.2.2.2.2.1⟩, by rw [ht]; exact hw.2.1, va_K.moved hW.alike hK, hw.2.2.1⟩, hw.2.2.2.1.F ht⟩) hw.2.2.2.1.2.2 dX10_readSaid_177
        · have r_z0_47 : RI z0_47 8 2 := rc_eq1 r_z0_47 rl_8 (ti_eq c_61) (by decide)
          exact (r_z0_47.no (by decide)).elim
    · have r_x1 : RI x1 0 0 := rc_eq1 r_x1 rl_0 (ti_eq c_31) (by decide)
      refine lv_iload_n hx hb dX10_readSaid_34 rfl (lv_at hl 2 rfl) ?_
      refine lv_bipush (v := 27) hx hb dX10_readSaid_35 (by decide) ?_
      refine lv_icmp_le (tgt := 46) hx hb dX10_readSaid_37 (by decide) (fun c_37 => ?_) (fun c_37 => ?_)
      · have r_x2 : RI x2 18 27 := rc_le1 r_x2 rl_27 (ti_le c_37) (by decide)
        refine lv_aload_n hx hb dX10_readSaid_46 rfl (lv_at hl 0 rfl) ?_
        refine tg_get (ci := 10) (ts := ty_MODEL) (C := RX10) (T := TX10) (N := 49) hx hb hts inX10 hown hK hw h_p0 rfl rfl 46 (by decide) (hts _ tw_1183) (fun _ h9 => h9) (ft := vI (-2147483648) 2147483647) rfl dX10_readSaid_47 (fun u_17 hv_u_17 m_u_17 => ?_)
        obtain ⟨vu_17, rfl, r_vu_17⟩ := hv_u_17
        obtain ⟨n9, hn9, rn9, r_vu_17, b9⟩ := SNp.getO hw x_SN_p0_gd_gh_gg m_u_17
        refine lv_bipush (v := 20) hx hb dX10_readSaid_50 (by decide) ?_
        refine lv_icmp_eq (tgt := 64) hx hb dX10_readSaid_52 (by decide) (fun c_52 => ?_) (fun c_52 => ?_)
        · have r_vu_17 : RI vu_17 20 20 := rc_eq1 r_vu_17 rl_20 (ti_eq c_52) (by decide)
          refine lv_aload_n hx hb dX10_readSaid_64 rfl (lv_at hl 0 rfl) ?_
          refine lv_iconst (v := 4) hx hb dX10_readSaid_65 (by decide) ?_
          refine tk_i (va_runV (As := [.int 4]) (rest := []) ⟨hx, hb, hml, hown, hts⟩ (c_X10_bad l D cy z H.size Ps ws hw.1 p0 4 h_p0 (rl_4.to (by decide))) (cwV 1 hts (gV tw_1336 tw_1338 ts_46 tw_15 tw_1339) rfl rfl rfl (by decide +kernel) ⟨Nat.le_of_ble_eq_true rfl, Nat.le_of_ble_eq_true rfl⟩) (tg_preV hw hK hSD hA (ci := 10) (q := (RX10, TX10, 49)) rfl h_p0 rfl) rfl rfl hl.1 rfl (lv_room (Nat.le_of_ble_eq_true rfl)) dX10_readSaid_66 ⟨Nat.le_of_ble_eq_true rfl, Nat.le_of_ble_eq_true rfl⟩) hw hA ⟨by decide, by decide⟩ (fun v_18 ws H locs hp_v_18 hw hF9 => ?_)
          have m_z0_47 := FLD.over hF9 m_z0_47 (by decide)
          have m_u_17 := FLD.over hF9 m_u_17 (by decide)
          have hn9 := FLD.over hF9 hn9 (by decide)
          have x_SN_p0_gd_gh_gg := SNp.over hF9 x_SN_p0_gd_gh_gg (by decide)
          have r_v_18 : RI v_18 0 0 := hp_v_18.1
          subst hQ
          exact W.zret (v := v_18) hx hb hr (tq_nz (r_v_18.to (by decide))) (fun t ht hW => ⟨⟨v_18, ws, rfl, ⟨⟨r_v_18.to (by decide), (fun h0 => ⟨⟨_, m_z0_47, r_z0_47⟩, trivial⟩), (fun h0 => absurd (Int32.toInt_inj.mp (by have h8 := r_v_18; unfold RI at h8; rw [Int32.toInt_zero]; omega)) h0)⟩, hw.1, hw.2.2.2.2.1⟩, by rw [ht]; exact hw.2.1, va_K.moved hW.alike hK, hw.2.2.1⟩, hw.2.2.2.1.F ht⟩) hw.2.2.2.1.2.2 dX10_readSaid_69
        · have r_vu_17 : RI vu_17 0 19 := rc_neU r_vu_17 rl_20 (ti_ne c_52) (by decide)
          refine lv_aload_n hx hb dX10_readSaid_55 rfl (lv_at hl 0 rfl) ?_
          refine tg_mem (ci := 10) (C := RX10) (T := TX10) (N := 49) hx hb hts inX10 hown hK hw 47 m_z0_47 rfl (by decide) (hts _ tw_1184) (fun _ h9 => h9) dX10_readSaid_56 ?_
          refine lv_bipush (v := 8) hx hb dX10_readSaid_59 (by decide) ?_
          refine lv_icmp_ne (tgt := 70) hx hb dX10_readSaid_61 (by decide) (fun c_61 => ?_) (fun c_61 => ?_)
          · refine lv_aload_n hx hb dX10_readSaid_70 rfl (lv_at hl 0 rfl) ?_
            refine lv_dup hx hb dX10_readSaid_71 rfl ?_
            refine tg_mem (ci := 10) (C := RX10) (T := TX10) (N := 49) hx hb hts inX10 hown hK hw 46 m_u_17 rfl (by decide) (hts _ tw_1183) (fun _ h9 => h9) dX10_readSaid_72 ?_
            refine lv_iconst (v := 1) hx hb dX10_readSaid_75 (by decide) ?_
            refine lv_iadd hx hb dX10_readSaid_76 (lv_topi (fun v_19 e_v_19 => ?_))
            obtain ⟨t_v_19, r_v_19⟩ := tq_add (lo := 1) (hi := 20) r_vu_17 rl_1 (by decide +kernel) e_v_19
            have t_v_19 : v_19.toInt = vu_17.toInt + 1 := t_v_19
            refine tg_put (ci := 10) (ts := ty_MODEL) (v := .int v_19) (ty := .int) (C := RX10) (T := TX10) (N := 49) hx hb hts inX10 tyX10 tyX10_ok nmX10 hown hK hw h_p0 rfl rfl 46 (by decide) (hts _ tw_1183) (fun _ h9 => h9) rfl (by decide +kernel) rfl rfl (ft := vI (-2147483648) 2147483647) rfl ⟨_, rfl, (r_v_19.to (by decide))⟩ (by decide) dX10_readSaid_77 (fun ws H locs hw n_k_20 hF9 => ?_)
            have m_z0_47 := FLD.over hF9 m_z0_47 (by decide)
            have hn9 := FLD.over hF9 hn9 (by decide)
            have x_SNI_p0_gd_1_gh_1_gg : SNI ws p0 (gd+1) (gh+1) (gg) := ⟨by omega, _, _, hn9, n_k_20, by have k1 := rn9.1; have k2 := r_v_19.2; omega⟩
            refine lv_aload_n hx hb dX10_readSaid_80 rfl (lv_at hl 0 rfl) ?_
            refine lv_dup hx hb dX10_readSaid_81 rfl ?_
            refine tg_mem (ci := 10) (C := RX10) (T := TX10) (N := 49) hx hb hts inX10 hown hK hw 47 m_z0_47 rfl (by decide) (hts _ tw_1184) (fun _ h9 => h9) dX10_readSaid_82 ?_
            refine lv_iconst (v := 1) hx hb dX10_readSaid_85 (by decide) ?_
            refine lv_iadd hx hb dX10_readSaid_86 (lv_topi (fun v_21 e_v_21 => ?_))
            obtain ⟨t_v_21, r_v_21⟩ := tq_add (lo := 3) (hi := 3) r_z0_47 rl_1 (by decide +kernel) e_v_21
            have t_v_21 : v_21.toInt = z0_47.toInt + 1 := t_v_21
            refine tg_put (ci := 10) (ts := ty_MODEL) (v := .int v_21) (ty := .int) (C := RX10) (T := TX10) (N := 49) hx hb hts inX10 tyX10 tyX10_ok nmX10 hown hK hw h_p0 rfl rfl 47 (by decide) (hts _ tw_1184) (fun _ h9 => h9) rfl (by decide +kernel) rfl rfl (ft := vI (-2147483648) 2147483647) rfl ⟨_, rfl, (r_v_21.to (by decide))⟩ (by decide) dX10_readSaid_87 (fun ws H locs hw n_k_22 hF9 => ?_)
            have hn9 := FLD.over hF9 hn9 (by decide)
            have n_k_20 := FLD.over hF9 n_k_20 (by decide)
            have x_SNI_p0_gd_1_gh_1_gg := SNI.over hF9 x_SNI_p0_gd_1_gh_1_gg (by decide)
            refine lv_aload_n hx hb dX10_readSaid_90 rfl (lv_at hl 0 rfl) ?_
            refine tk_v (va_runV (As := []) (rest := []) ⟨hx, hb, hml, hown, hts⟩ (c_X10_go l D cy z H.size Ps ws hw.1 p0 h_p0) (cwV 0 hts (gV tw_1298 tw_1300 ts_40 tw_15 tw_1301) rfl rfl rfl (by decide +kernel) ⟨Nat.le_of_ble_eq_true rfl, Nat.le_of_ble_eq_true rfl⟩) (tg_preV hw hK hSD hA (ci := 10) (q := (RX10, TX10, 49)) rfl h_p0 rfl) rfl rfl hl.1 rfl (lv_room (Nat.le_of_ble_eq_true rfl)) dX10_readSaid_91 ⟨Nat.le_of_ble_eq_true rfl, Nat.le_of_ble_eq_true rfl⟩) hw hA ⟨by decide, by decide⟩ (fun ws H locs hp_v_23 hw hF9 => ?_)
            have hn9 := FLD.over hF9 hn9 (by decide)
            have n_k_20 := FLD.over hF9 n_k_20 (by decide)
            have n_k_22 := FLD.over hF9 n_k_22 (by decide)
            have x_SNI_p0_gd_1_gh_1_gg := SNI.over hF9 x_SNI_p0_gd_1_gh_1_gg (by decide)
            refine lv_iconst (v := 1) hx hb dX10_readSaid_94 (by decide) ?_
            refine lv_istore_n (lv' := [(3, .int 1), (0, .ref p0), (1, .int x1), (2, .int x2)]) hx hb dX10_readSaid_95 rfl hl (by decide) rfl (fun ls hl => ?_)
            refine lv_iload_n hx hb dX10_readSaid_96 rfl (lv_at hl 2 rfl) ?_
            refine lv_if_eq (tgt := 108) hx hb dX10_readSaid_97 (by decide) (fun c_97 => ?_) (fun c_97 => ?_)
            · refine lv_iload_n hx hb dX10_readSaid_108 rfl (lv_at hl 3 rfl) ?_
              refine lv_bipush (v := 18) hx hb dX10_readSaid_109 (by decide) ?_
              refine lv_icmp_ne (tgt := 122) hx hb dX10_readSaid_111 (by decide) (fun c_111 => ?_) (fun c_111 => ?_)
              · have r_x2 : RI x2 19 27 := rc_neL r_x2 rl_18 (ti_ne c_111) (by decide)
                refine lv_iload_n hx hb dX10_readSaid_122 rfl (lv_at hl 3 rfl) ?_
                refine lv_bipush (v := 22) hx hb dX10_readSaid_123 (by decide) ?_
                refine lv_icmp_ge (tgt := 146) hx hb dX10_readSaid_125 (by decide) (fun c_125 => ?_) (fun c_125 => ?_)
                · have r_x2 : RI x2 22 27 := rc_le2 rl_22 r_x2 (ti_le c_125) (by decide)
                  refine lv_iload_n hx hb dX10_readSaid_146 rfl (lv_at hl 3 rfl) ?_
                  refine lv_bipush (v := 24) hx hb dX10_readSaid_147 (by decide) ?_
                  refine lv_icmp_ge (tgt := 160) hx hb dX10_readSaid_149 (by decide) (fun c_149 => ?_) (fun c_149 => ?_)
                  · have r_x2 : RI x2 24 27 := rc_le2 rl_24 r_x2 (ti_le c_149) (by decide)
                    refine lv_aload_n hx hb dX10_readSaid_160 rfl (lv_at hl 1 rfl) ?_
                    refine lv_iload_n hx hb dX10_readSaid_161 rfl (lv_at hl 3 rfl) ?_
                    refine tk_i (va_runV (As := [.int x2]) (rest := []) ⟨hx, hb, hml, hown, hts⟩ (c_X10_readCompare l D cy z H.size Ps ws hw.1 p0 x2 (gd+1) (gh+1) (gg) h_p0 r_x2 x_SNI_p0_gd_1_gh_1_gg) (cwV 1 hts (gV tw_1779 tw_1781 ts_118 tw_15 tw_1782) rfl rfl rfl (by decide +kernel) ⟨Nat.le_of_ble_eq_true rfl, Nat.le_of_ble_eq_true rfl⟩) (tg_preV hw hK hSD hA (ci := 10) (q := (RX10, TX10, 49)) rfl h_p0 rfl) rfl rfl hl.1 rfl (lv_room (Nat.le_of_ble_eq_true rfl)) dX10_readSaid_162 ⟨Nat.le_of_ble_eq_true rfl, Nat.le_of_ble_eq_true rfl⟩) hw hA ⟨by decide, by decide⟩ (fun v_24 ws H locs hp_v_24 hw hF9 => ?_)
                    have n_k_20 := FLD.over hF9 n_k_20 (by decide)
                    have n_k_22 := FLD.over hF9 n_k_22 (by decide)
                    have r_v_24 : RI v_24 0 1 := hp_v_24.1
                    by_cases c9_v_24 : v_24 = 0
                    · have r_v_24 : RI v_24 0 0 := by rw [c9_v_24]; exact rl_0
                      refine lv_istore_n (lv' := [(3, .int v_24), (0, .ref p0), (1, .int x1), (2, .int x2)]) hx hb dX10_readSaid_165 rfl hl (by decide) rfl (fun ls hl => ?_)
                      refine lv_aload_n hx hb dX10_readSaid_166 rfl (lv_at hl 1 rfl) ?_
                      refine lv_dup hx hb dX10_readSaid_167 rfl ?_
                      refine tg_mem (ci := 10) (C := RX10) (T := TX10) (N := 49) hx hb hts inX10 hown hK hw 47 n_k_22 rfl (by decide) (hts _ tw_1184) (fun _ h9 => h9) dX10_readSaid_168 ?_
                      refine lv_iconst (v := 1) hx hb dX10_readSaid_171 (by decide) ?_
                      refine lv_isub hx hb dX10_readSaid_172 (lv_topi (fun v_25 e_v_25 => ?_))
                      obtain ⟨t_v_25, r_v_25⟩ := tq_sub (lo := 2) (hi := 2) r_v_21 rl_1 (by decide +kernel) e_v_25
                      have t_v_25 : v_25.toInt = v_21.toInt - 1 := t_v_25
                      refine tg_put (ci := 10) (ts := ty_MODEL) (v := .int v_25) (ty := .int) (C := RX10) (T := TX10) (N := 49) hx hb hts inX10 tyX10 tyX10_ok nmX10 hown hK hw h_p0 rfl rfl 47 (by decide) (hts _ tw_1184) (fun _ h9 => h9) rfl (by decide +kernel) rfl rfl (ft := vI (-2147483648) 2147483647) rfl ⟨_, rfl, (r_v_25.to (by decide))⟩ (by decide) dX10_readSaid_173 (fun ws H locs hw n_k_26 hF9 => ?_)
                      have n_k_20 := FLD.over hF9 n_k_20 (by decide)
                      refine lv_iload_n hx hb dX10_readSaid_176 rfl (lv_at hl 0 rfl) ?_
                      subst hQ
                      exact W.zret (v := v_24) hx hb hr (tq_nz (r_v_24.to (by decide))) (fun t ht hW => ⟨⟨v_24, ws, rfl, ⟨⟨r_v_24.to (by decide), (fun h0 => ⟨⟨_, n_k_26, r_v_25⟩, trivial⟩), (fun h0 => absurd (Int32.toInt_inj.mp (by have h8 := r_v_24; unfold RI at h8; rw [Int32.toInt_zero]; omega)) h0)⟩, hw.1, hw.2.2.2.2.1⟩, by rw [ht]; exact hw.2.1, va_K.moved hW.alike hK, hw.2.2.1⟩, hw.2.2.2.1.F ht⟩) hw.2.2.2.1.2.2 dX10_readSaid_177
                    · have r_v_24 : RI v_24 1 1 := rc_neL r_v_24 rl_0 (ti_ne c9_v_24) (by decide)
                      obtain ⟨v_27, m_v_27, r_v_27⟩ := ((hp_v_24.2.2 c9_v_24).1)
                      obtain ⟨v_28, m_v_28, r_v_28⟩ := ((hp_v_24.2.2 c9_v_24).2.1)
                      have x_SNT_p0_gd_1_gh_1_gg := ((hp_v_24.2.2 c9_v_24).2.2.1)
                      refine lv_istore_n (lv' := [(3, .int v_24), (0, .ref p0), (1, .int x1), (2, .int x2)]) hx hb dX10_readSaid_165 rfl hl (by decide) rfl (fun ls hl => ?_)
                      refine lv_aload_n hx hb dX10_readSaid_166 rfl (lv_at hl 1 rfl) ?_
                      refine lv_dup hx hb dX10_readSaid_167 rfl ?_
                      refine tg_mem (ci := 10) (C := RX10) (T := TX10) (N := 49) hx hb hts inX10 hown hK hw 47 n_k_22 rfl (by decide) (hts _ tw_1184) (fun _ h9 => h9) dX10_readSaid_168 ?_
                      refine lv_iconst (v := 1) hx hb dX10_readSaid_171 (by decide) ?_
                      refine lv_isub hx hb dX10_readSaid_172 (lv_topi (fun v_29 e_v_29 => ?_))
                      obtain ⟨t_v_29, r_v_29⟩ := tq_sub (lo := 2) (hi := 2) r_v_21 rl_1 (by decide +kernel) e_v_29
                      have t_v_29 : v_29.toInt = v_21.toInt - 1 := t_v_29
                      refine tg_put (ci := 10) (ts := ty_MODEL) (v := .int v_29) (ty := .int) (C := RX10) (T := TX10) (N := 49) hx hb hts inX10 tyX10 tyX10_ok nmX10 hown hK hw h_p0 rfl rfl 47 (by decide) (hts _ tw_1184) (fun _ h9 => h9) rfl (by decide +kernel) rfl rfl (ft := vI (-2147483648) 2147483647) rfl ⟨_, rfl, (r_v_29.to (by decide))⟩ (by decide) dX10_readSaid_173 (fun ws H locs hw n_k_30 hF9 => ?_)
                      have n_k_20 := FLD.over hF9 n_k_20 (by decide)
                      have m_v_27 := FLD.over hF9 m_v_27 (by decide)
                      have m_v_28 := FLD.over hF9 m_v_28 (by decide)
                      have x_SNT_p0_gd_1_gh_1_gg := SNT.over hF9 x_SNT_p0_gd_1_gh_1_gg (by decide)
                      refine lv_iload_n hx hb dX10_readSaid_176 rfl (lv_at hl 0 rfl) ?_
                      subst hQ
                      exact W.zret (v := v_24) hx hb hr (tq_nz (r_v_24.to (by decide))) (fun t ht hW => ⟨⟨v_24, ws, rfl, ⟨⟨r_v_24.to (by decide), (fun h0 => absurd (ti_eq h0) (by have h8 := r_v_24; unfold RI at h8; rw [Int32.toInt_zero]; omega)), (fun h0 => ⟨⟨_, n_k_20, r_v_19⟩, ⟨_, m_v_28, r_v_28⟩, ⟨_, n_k_30, r_v_29⟩, x_SNT_p0_gd_1_gh_1_gg, trivial⟩)⟩, hw.1, hw.2.2.2.2.1⟩, by rw [ht]; exact hw.2.1, va_K.moved hW.alike hK, hw.2.2.1⟩, hw.2.2.2.1.F ht⟩) hw.2.2.2.1.2.2 dX10_readSaid_177
                  · have r_x2 : RI x2 22 23 := rc_lt1 r_x2 rl_24 (ti_nle c_149) (by decide)
                    refine lv_aload_n hx hb dX10_readSaid_152 rfl (lv_at hl 1 rfl) ?_
                    refine lv_iload_n hx hb dX10_readSaid_153 rfl (lv_at hl 3 rfl) ?_
                    refine tk_i (va_runV (As := [.int x2]) (rest := []) ⟨hx, hb, hml, hown, hts⟩ (c_X10_readOf l D cy z H.size Ps ws hw.1 p0 x2 (gd+1) (gh+1) (gg) h_p0 r_x2 x_SNI_p0_gd_1_gh_1_gg) (cwV 1 hts (gV tw_1775 tw_1777 ts_117 tw_15 tw_1778) rfl rfl rfl (by decide +kernel) ⟨Nat.le_of_ble_eq_true rfl, Nat.le_of_ble_eq_true rfl⟩) (tg_preV hw hK hSD hA (ci := 10) (q := (RX10, TX10, 49)) rfl h_p0 rfl) rfl rfl hl.1 rfl (lv_room (Nat.le_of_ble_eq_true rfl)) dX10_readSaid_154 ⟨Nat.le_of_ble_eq_true rfl, Nat.le_of_ble_eq_true rfl⟩) hw hA ⟨by decide, by decide⟩ (fun v_31 ws H locs hp_v_31 hw hF9 => ?_)
                    have n_k_20 := FLD.over hF9 n_k_20 (by decide)
                    have n_k_22 := FLD.over hF9 n_k_22 (by decide)
                    have r_v_31 : RI v_31 0 1 := hp_v_31.1
                    by_cases c9_v_31 : v_31 = 0
                    · have r_v_31 : RI v_31 0 0 := by rw [c9_v_31]; exact rl_0
                      refine lv_goto (tgt := 165) hx hb dX10_readSaid_157 (by decide) ?_
                      refine lv_istore_n (lv' := [(3, .int v_31), (0, .ref p0), (1, .int x1), (2, .int x2)]) hx hb dX10_readSaid_165 rfl hl (by decide) rfl (fun ls hl => ?_)
                      refine lv_aload_n hx hb dX10_readSaid_166 rfl (lv_at hl 1 rfl) ?_
                      refine lv_dup hx hb dX10_readSaid_167 rfl ?_
                      refine tg_mem (ci := 10) (C := RX10) (T := TX10) (N := 49) hx hb hts inX10 hown hK hw 47 n_k_22 rfl (by decide) (hts _ tw_1184) (fun _ h9 => h9) dX10_readSaid_168 ?_
                      refine lv_iconst (v := 1) hx hb dX10_readSaid_171 (by decide) ?_
                      refine lv_isub hx hb dX10_readSaid_172 (lv_topi (fun v_32 e_v_32 => ?_))
                      obtain ⟨t_v_32, r_v_32⟩ := tq_sub (lo := 2) (hi := 2) r_v_21 rl_1 (by decide +kernel) e_v_32
                      have t_v_32 : v_32.toInt = v_21.toInt - 1 := t_v_32
                      refine tg_put (ci := 10) (ts := ty_MODEL) (v := .int v_32) (ty := .int) (C := RX10) (T := TX10) (N := 49) hx hb hts inX10 tyX10 tyX10_ok nmX10 hown hK hw h_p0 rfl rfl 47 (by decide) (hts _ tw_1184) (fun _ h9 => h9) rfl (by decide +kernel) rfl rfl (ft := vI (-2147483648) 2147483647) rfl ⟨_, rfl, (r_v_32.to (by decide))⟩ (by decide) dX10_readSaid_173 (fun ws H locs hw n_k_33 hF9 => ?_)
                      have n_k_20 := FLD.over hF9 n_k_20 (by decide)
                      refine lv_iload_n hx hb dX10_readSaid_176 rfl (lv_at hl 0 rfl) ?_
                      subst hQ
                      exact W.zret (v := v_31) hx hb hr (tq_nz (r_v_31.to (by decide))) (fun t ht hW => ⟨⟨v_31, ws, rfl, ⟨⟨r_v_31.to (by decide), (fun h0 => ⟨⟨_, n_k_33, r_v_32⟩, trivial⟩), (fun h0 => absurd (Int32.toInt_inj.mp (by have h8 := r_v_31; unfold RI at h8; rw [Int32.toInt_zero]; omega)) h0)⟩, hw.1, hw.2.2.2.2.1⟩, by rw [ht]; exact hw.2.1, va_K.moved hW.alike hK, hw.2.2.1⟩, hw.2.2.2.1.F ht⟩) hw.2.2.2.1.2.2 dX10_readSaid_177
                    · have r_v_31 : RI v_31 1 1 := rc_neL r_v_31 rl_0 (ti_ne c9_v_31) (by decide)
                      obtain ⟨v_34, m_v_34, r_v_34⟩ := ((hp_v_31.2.2 c9_v_31).1)
                      obtain ⟨v_35, m_v_35, r_v_35⟩ := ((hp_v_31.2.2 c9_v_31).2.1)
                      have x_SNT_p0_gd_1_gh_1_gg := ((hp_v_31.2.2 c9_v_31).2.2.1)
                      refine lv_goto (tgt := 165) hx hb dX10_readSaid_157 (by decide) ?_
                      refine lv_istore_n (lv' := [(3, .int v_31), (0, .ref p0), (1, .int x1), (2, .int x2)]) hx hb dX10_readSaid_165 rfl hl (by decide) rfl (fun ls hl => ?_)
                      refine lv_aload_n hx hb dX10_readSaid_166 rfl (lv_at hl 1 rfl) ?_
                      refine lv_dup hx hb dX10_readSaid_167 rfl ?_
                      refine tg_mem (ci := 10) (C := RX10) (T := TX10) (N := 49) hx hb hts inX10 hown hK hw 47 n_k_22 rfl (by decide) (hts _ tw_1184) (fun _ h9 => h9) dX10_readSaid_168 ?_
                      refine lv_iconst (v := 1) hx hb dX10_readSaid_171 (by decide) ?_
                      refine lv_isub hx hb dX10_readSaid_172 (lv_topi (fun v_36 e_v_36 => ?_))
                      obtain ⟨t_v_36, r_v_36⟩ := tq_sub (lo := 2) (hi := 2) r_v_21 rl_1 (by decide +kernel) e_v_36
                      have t_v_36 : v_36.toInt = v_21.toInt - 1 := t_v_36
                      refine tg_put (ci := 10) (ts := ty_MODEL) (v := .int v_36) (ty := .int) (C := RX10) (T := TX10) (N := 49) hx hb hts inX10 tyX10 tyX10_ok nmX10 hown hK hw h_p0 rfl rfl 47 (by decide) (hts _ tw_1184) (fun _ h9 => h9) rfl (by decide +kernel) rfl rfl (ft := vI (-2147483648) 2147483647) rfl ⟨_, rfl, (r_v_36.to (by decide))⟩ (by decide) dX10_readSaid_173 (fun ws H locs hw n_k_37 hF9 => ?_)
                      have n_k_20 := FLD.over hF9 n_k_20 (by decide)
                      have m_v_34 := FLD.over hF9 m_v_34 (by decide)
                      have m_v_35 := FLD.over hF9 m_v_35 (by decide)
                      have x_SNT_p0_gd_1_gh_1_gg := SNT.over hF9 x_SNT_p0_gd_1_gh_1_gg (by decide)
                      refine lv_iload_n hx hb dX10_readSaid_176 rfl (lv_at hl 0 rfl) ?_
                      subst hQ
                      exact W.zret (v := v_31) hx hb hr (tq_nz (r_v_31.to (by decide))) (fun t ht hW => ⟨⟨v_31, ws, rfl, ⟨⟨r_v_31.to (by decide), (fun h0 => absurd (ti_eq h0) (by have h8 := r_v_31; unfold RI at h8; rw [Int32.toInt_zero]; omega)), (fun h0 => ⟨⟨_, n_k_20, r_v_19⟩, ⟨_, m_v_35, r_v_35⟩, ⟨_, n_k_37, r_v_36⟩, x_SNT_p0_gd_1_gh_1_gg, trivial⟩)⟩, hw.1, hw.2.2.2.2.1⟩, by rw [ht]; exact hw.2.1, va_K.moved hW.alike hK, hw.2.2.1⟩, hw.2.2.2.1.F ht⟩) hw.2.2.2.1.2.2 dX10_readSaid_177
                · have r_x2 : RI x2 19 21 := rc_lt1 r_x2 rl_22 (ti_nle c_125) (by decide)
                  refine lv_aload_n hx hb dX10_readSaid_128 rfl (lv_at hl 1 rfl) ?_
                  refine lv_aload_n hx hb dX10_readSaid_129 rfl (lv_at hl 1 rfl) ?_
                  refine lv_bipush (v := 50) hx hb dX10_readSaid_130 (by decide) ?_
                  refine lv_iload_n hx hb dX10_readSaid_132 rfl (lv_at hl 3 rfl) ?_
                  refine lv_iadd hx hb dX10_readSaid_133 (lv_topi (fun v_38 e_v_38 => ?_))
                  obtain ⟨t_v_38, r_v_38⟩ := tq_add (lo := 69) (hi := 71) rl_50 r_x2 (by decide +kernel) e_v_38
                  have t_v_38 : v_38.toInt = 50 + x2.toInt := t_v_38
                  refine lv_iconst (v := 0) hx hb dX10_readSaid_134 (by decide) ?_
                  refine lv_iconst (v := 0) hx hb dX10_readSaid_135 (by decide) ?_
                  refine lv_iconst (v := 0) hx hb dX10_readSaid_136 (by decide) ?_
                  refine tk_i (va_runV (As := [.int v_38, .int 0, .int 0, .int 0]) (rest := [.ref p0]) ⟨hx, hb, hml, hown, hts⟩ (c_X10_saysOne l D cy z H.size Ps ws hw.1 p0 v_38 0 0 0 (gd+1) (gh+1) (gg) h_p0 (r_v_38.to (by decide)) (rl_0.to (by decide)) (rl_0.to (by decide)) (rl_0.to (by decide)) x_SNI_p0_gd_1_gh_1_gg) (cwV 4 hts (gV tw_1771 tw_1773 ts_116 tw_15 tw_1774) rfl rfl rfl (by decide +kernel) ⟨Nat.le_of_ble_eq_true rfl, Nat.le_of_ble_eq_true rfl⟩) (tg_preV hw hK hSD hA (ci := 10) (q := (RX10, TX10, 49)) rfl h_p0 rfl) rfl rfl hl.1 rfl (lv_room (Nat.le_of_ble_eq_true rfl)) dX10_readSaid_137 ⟨Nat.le_of_ble_eq_true rfl, Nat.le_of_ble_eq_true rfl⟩) hw hA ⟨by decide, by decide⟩ (fun v_39 ws H locs hp_v_39 hw hF9 => ?_)
                  have n_k_20 := FLD.over hF9 n_k_20 (by decide)
                  have n_k_22 := FLD.over hF9 n_k_22 (by decide)
                  have r_v_39 : RI v_39 0 39 := hp_v_39.1
                  have x_SNL_p0_gd_1_gh_1_gg_v_39 := hp_v_39.2.2.2.1.1
                  refine tg_put (ci := 10) (ts := ty_MODEL) (v := .int v_39) (ty := .int) (C := RX10) (T := TX10) (N := 49) hx hb hts inX10 tyX10 tyX10_ok nmX10 hown hK hw h_p0 rfl rfl 48 (by decide) (hts _ tw_1185) (fun _ h9 => h9) rfl (by decide +kernel) rfl rfl (ft := vI (-2147483648) 2147483647) rfl ⟨_, rfl, (r_v_39.to (by decide))⟩ (by decide) dX10_readSaid_140 (fun ws H locs hw n_k_40 hF9 => ?_)
                  have n_k_20 := FLD.over hF9 n_k_20 (by decide)
                  have n_k_22 := FLD.over hF9 n_k_22 (by decide)
                  have x_SNL_p0_gd_1_gh_1_gg_v_39 := SNL.over hF9 x_SNL_p0_gd_1_gh_1_gg_v_39 (by decide)
                  have x_SNT_p0_gd_1_gh_1_gg : SNT ws p0 (gd+1) (gh+1) (gg) := (x_SNL_p0_gd_1_gh_1_gg_v_39.weak (d' := gd+1) (h' := gh+1) (g' := gg) (by have k1 := x_SNL_p0_gd_1_gh_1_gg_v_39.le; have d_8 := SNp.le x_SN_p0_gd_gh_gg; omega)).snt n_k_40
                  refine lv_goto (tgt := 166) hx hb dX10_readSaid_143 (by decide) ?_
                  refine lv_aload_n hx hb dX10_readSaid_166 rfl (lv_at hl 1 rfl) ?_
                  refine lv_dup hx hb dX10_readSaid_167 rfl ?_
                  refine tg_mem (ci := 10) (C := RX10) (T := TX10) (N := 49) hx hb hts inX10 hown hK hw 47 n_k_22 rfl (by decide) (hts _ tw_1184) (fun _ h9 => h9) dX10_readSaid_168 ?_
                  refine lv_iconst (v := 1) hx hb dX10_readSaid_171 (by decide) ?_
                  refine lv_isub hx hb dX10_readSaid_172 (lv_topi (fun v_41 e_v_41 => ?_))
                  obtain ⟨t_v_41, r_v_41⟩ := tq_sub (lo := 2) (hi := 2) r_v_21 rl_1 (by decide +kernel) e_v_41
                  have t_v_41 : v_41.toInt = v_21.toInt - 1 := t_v_41
                  refine tg_put (ci := 10) (ts := ty_MODEL) (v := .int v_41) (ty := .int) (C := RX10) (T := TX10) (N := 49) hx hb hts inX10 tyX10 tyX10_ok nmX10 hown hK hw h_p0 rfl rfl 47 (by decide) (hts _ tw_1184) (fun _ h9 => h9) rfl (by decide +kernel) rfl rfl (ft := vI (-2147483648) 2147483647) rfl ⟨_, rfl, (r_v_41.to (by decide))⟩ (by decide) dX10_readSaid_173 (fun ws H locs hw n_k_42 hF9 => ?_)
                  have n_k_20 := FLD.over hF9 n_k_20 (by decide)
                  have n_k_40 := FLD.over hF9 n_k_40 (by decide)
                  have x_SNL_p0_gd_1_gh_1_gg_v_39 := SNL.over hF9 x_SNL_p0_gd_1_gh_1_gg_v_39 (by decide)
                  have x_SNT_p0_gd_1_gh_1_gg := SNT.over hF9 x_SNT_p0_gd_1_gh_1_gg (by decide)
                  refine lv_iload_n hx hb dX10_readSaid_176 rfl (lv_at hl 0 rfl) ?_
                  subst hQ
                  exact W.zret (v := 1) hx hb hr (rfl) (fun t ht hW => ⟨⟨1, ws, rfl, ⟨⟨rl_1.to (by decide), (fun h0 => absurd h0 (by decide)), (fun h0 => ⟨⟨_, n_k_20, r_v_19⟩, ⟨_, n_k_40, r_v_39⟩, ⟨_, n_k_42, r_v_41⟩, x_SNT_p0_gd_1_gh_1_gg, trivial⟩)⟩, hw.1, hw.2.2.2.2.1⟩, by rw [ht]; exact hw.2.1, va_K.moved hW.alike hK, hw.2.2.1⟩, hw.2.2.2.1.F ht⟩) hw.2.2.2.1.2.2 dX10_readSaid_177
              · have r_x2 : RI x2 18 18 := rc_eq1 r_x2 rl_18 (ti_eq c_111) (by decide)
                refine lv_aload_n hx hb dX10_readSaid_114 rfl (lv_at hl 1 rfl) ?_
                refine tk_i (va_runV (As := []) (rest := []) ⟨hx, hb, hml, hown, hts⟩ (c_X10_readNot__5 l D cy z H.size Ps ws hw.1 p0 v_21 (gd+1) (gh+1) (gg) h_p0 r_v_21 n_k_22 x_SNI_p0_gd_1_gh_1_gg) (cwV 0 hts (gV tw_1767 tw_1769 ts_115 tw_15 tw_1770) rfl rfl rfl (by decide +kernel) ⟨Nat.le_of_ble_eq_true rfl, Nat.le_of_ble_eq_true rfl⟩) (tg_preV hw hK hSD hA (ci := 10) (q := (RX10, TX10, 49)) rfl h_p0 rfl) rfl rfl hl.1 rfl (lv_room (Nat.le_of_ble_eq_true rfl)) dX10_readSaid_115 ⟨Nat.le_of_ble_eq_true rfl, Nat.le_of_ble_eq_true rfl⟩) hw hA ⟨by decide, by decide⟩ (fun v_43 ws H locs hp_v_43 hw hF9 => ?_)
                have r_v_43 : RI v_43 0 1 := hp_v_43.1
                by_cases c9_v_43 : v_43 = 0
                · have r_v_43 : RI v_43 0 0 := by rw [c9_v_43]; exact rl_0
                  obtain ⟨v_44, m_v_44, r_v_44⟩ := ((hp_v_43.2.1 c9_v_43).1)
                  refine lv_istore_n (lv' := [(3, .int v_43), (0, .ref p0), (1, .int x1), (2, .int x2)]) hx hb dX10_readSaid_118 rfl hl (by decide) rfl (fun ls hl => ?_)
                  refine lv_goto (tgt := 166) hx hb dX10_readSaid_119 (by decide) ?_
                  refine lv_aload_n hx hb dX10_readSaid_166 rfl (lv_at hl 1 rfl) ?_
                  refine lv_dup hx hb dX10_readSaid_167 rfl ?_
                  refine tg_mem (ci := 10) (C := RX10) (T := TX10) (N := 49) hx hb hts inX10 hown hK hw 47 m_v_44 rfl (by decide) (hts _ tw_1184) (fun _ h9 => h9) dX10_readSaid_168 ?_
                  refine lv_iconst (v := 1) hx hb dX10_readSaid_171 (by decide) ?_
                  refine lv_isub hx hb dX10_readSaid_172 (lv_topi (fun v_45 e_v_45 => ?_))
                  obtain ⟨t_v_45, r_v_45⟩ := tq_sub (lo := 2) (hi := 2) r_v_44 rl_1 (by decide +kernel) e_v_45
                  have t_v_45 : v_45.toInt = v_44.toInt - 1 := t_v_45
                  refine tg_put (ci := 10) (ts := ty_MODEL) (v := .int v_45) (ty := .int) (C := RX10) (T := TX10) (N := 49) hx hb hts inX10 tyX10 tyX10_ok nmX10 hown hK hw h_p0 rfl rfl 47 (by decide) (hts _ tw_1184) (fun _ h9 => h9) rfl (by decide +kernel) rfl rfl (ft := vI (-2147483648) 2147483647) rfl ⟨_, rfl, (r_v_45.to (by decide))⟩ (by decide) dX10_readSaid_173 (fun ws H locs hw n_k_46 hF9 => ?_)
                  refine lv_iload_n hx hb dX10_readSaid_176 rfl (lv_at hl 0 rfl) ?_
                  subst hQ
                  exact W.zret (v := v_43) hx hb hr (tq_nz (r_v_43.to (by decide))) (fun t ht hW => ⟨⟨v_43, ws, rfl, ⟨⟨r_v_43.to (by decide), (fun h0 => ⟨⟨_, n_k_46, r_v_45⟩, trivial⟩), (fun h0 => absurd (Int32.toInt_inj.mp (by have h8 := r_v_43; unfold RI at h8; rw [Int32.toInt_zero]; omega)) h0)⟩, hw.1, hw.2.2.2.2.1⟩, by rw [ht]; exact hw.2.1, va_K.moved hW.alike hK, hw.2.2.1⟩, hw.2.2.2.1.F ht⟩) hw.2.2.2.1.2.2 dX10_readSaid_177
                · have r_v_43 : RI v_43 1 1 := rc_neL r_v_43 rl_0 (ti_ne c9_v_43) (by decide)
                  obtain ⟨v_47, m_v_47, r_v_47⟩ := ((hp_v_43.2.2 c9_v_43).1)
                  obtain ⟨v_48, m_v_48, r_v_48⟩ := ((hp_v_43.2.2 c9_v_43).2.1)
                  obtain ⟨v_49, m_v_49, r_v_49⟩ := ((hp_v_43.2.2 c9_v_43).2.2.1)
                  have x_SNT_p0_gd_1_gh_1_gg := ((hp_v_43.2.2 c9_v_43).2.2.2.1)
                  refine lv_istore_n (lv' := [(3, .int v_43), (0, .ref p0), (1, .int x1), (2, .int x2)]) hx hb dX10_readSaid_118 rfl hl (by decide) rfl (fun ls hl => ?_)
                  refine lv_goto (tgt := 166) hx hb dX10_readSaid_119 (by decide) ?_
                  refine lv_aload_n hx hb dX10_readSaid_166 rfl (lv_at hl 1 rfl) ?_
                  refine lv_dup hx hb dX10_readSaid_167 rfl ?_
                  refine tg_mem (ci := 10) (C := RX10) (T := TX10) (N := 49) hx hb hts inX10 hown hK hw 47 m_v_48 rfl (by decide) (hts _ tw_1184) (fun _ h9 => h9) dX10_readSaid_168 ?_
                  refine lv_iconst (v := 1) hx hb dX10_readSaid_171 (by decide) ?_
                  refine lv_isub hx hb dX10_readSaid_172 (lv_topi (fun v_50 e_v_50 => ?_))
                  obtain ⟨t_v_50, r_v_50⟩ := tq_sub (lo := 2) (hi := 2) r_v_48 rl_1 (by decide +kernel) e_v_50
                  have t_v_50 : v_50.toInt = v_48.toInt - 1 := t_v_50
                  refine tg_put (ci := 10) (ts := ty_MODEL) (v := .int v_50) (ty := .int) (C := RX10) (T := TX10) (N := 49) hx hb hts inX10 tyX10 tyX10_ok nmX10 hown hK hw h_p0 rfl rfl 47 (by decide) (hts _ tw_1184) (fun _ h9 => h9) rfl (by decide +kernel) rfl rfl (ft := vI (-2147483648) 2147483647) rfl ⟨_, rfl, (r_v_50.to (by decide))⟩ (by decide) dX10_readSaid_173 (fun ws H locs hw n_k_51 hF9 => ?_)
                  have m_v_47 := FLD.over hF9 m_v_47 (by decide)
                  have m_v_49 := FLD.over hF9 m_v_49 (by decide)
                  have x_SNT_p0_gd_1_gh_1_gg := SNT.over hF9 x_SNT_p0_gd_1_gh_1_gg (by decide)
                  refine lv_iload_n hx hb dX10_readSaid_176 rfl (lv_at hl 0 rfl) ?_
                  subst hQ
                  exact W.zret (v := v_43) hx hb hr (tq_nz (r_v_43.to (by decide))) (fun t ht hW => ⟨⟨v_43, ws, rfl, ⟨⟨r_v_43.to (by decide), (fun h0 => absurd (ti_eq h0) (by have h8 := r_v_43; unfold RI at h8; rw [Int32.toInt_zero]; omega)), (fun h0 => ⟨⟨_, m_v_47, r_v_47⟩, ⟨_, m_v_49, r_v_49⟩, ⟨_, n_k_51, r_v_50⟩, x_SNT_p0_gd_1_gh_1_gg, trivial⟩)⟩, hw.1, hw.2.2.2.2.1⟩, by rw [ht]; exact hw.2.1, va_K.moved hW.alike hK, hw.2.2.1⟩, hw.2.2.2.1.F ht⟩) hw.2.2.2.1.2.2 dX10_readSaid_177
            · exact absurd (r_x1.eq.trans rl_0.eq.symm) ((ti_ne c_97))
          · have r_z0_47 : RI z0_47 8 2 := rc_eq1 r_z0_47 rl_8 (ti_eq c_61) (by decide)
            exact (r_z0_47.no (by decide)).elim
      · have r_x2 : RI x2 28 28 := rc_lt2 rl_27 r_x2 (ti_nle c_37) (by decide)
        refine lv_aload_n hx hb dX10_readSaid_40 rfl (lv_at hl 0 rfl) ?_
        refine lv_iconst (v := 1) hx hb dX10_readSaid_41 (by decide) ?_
        refine tk_i (va_runV (As := [.int 1]) (rest := []) ⟨hx, hb, hml, hown, hts⟩ (c_X10_bad l D cy z H.size Ps ws hw.1 p0 1 h_p0 (rl_1.to (by decide))) (cwV 1 hts (gV tw_1336 tw_1338 ts_46 tw_15 tw_1339) rfl rfl rfl (by decide +kernel) ⟨Nat.le_of_ble_eq_true rfl, Nat.le_of_ble_eq_true rfl⟩) (tg_preV hw hK hSD hA (ci := 10) (q := (RX10, TX10, 49)) rfl h_p0 rfl) rfl rfl hl.1 rfl (lv_room (Nat.le_of_ble_eq_true rfl)) dX10_readSaid_42 ⟨Nat.le_of_ble_eq_true rfl, Nat.le_of_ble_eq_true rfl⟩) hw hA ⟨by decide, by decide⟩ (fun v_52 ws H locs hp_v_52 hw hF9 => ?_)
        have m_z0_47 := FLD.over hF9 m_z0_47 (by decide)
        have x_SN_p0_gd_gh_gg := SNp.over hF9 x_SN_p0_gd_gh_gg (by decide)
        have r_v_52 : RI v_52 0 0 := hp_v_52.1
        subst hQ
        exact W.zret (v := v_52) hx hb hr (tq_nz (r_v_52.to (by decide))) (fun t ht hW => ⟨⟨v_52, ws, rfl, ⟨⟨r_v_52.to (by decide), (fun h0 => ⟨⟨_, m_z0_47, r_z0_47⟩, trivial⟩), (fun h0 => absurd (Int32.toInt_inj.mp (by have h8 := r_v_52; unfold RI at h8; rw [Int32.toInt_zero]; omega)) h0)⟩, hw.1, hw.2.2.2.2.1⟩, by rw [ht]; exact hw.2.1, va_K.moved hW.alike hK, hw.2.2.1⟩, hw.2.2.2.1.F ht⟩) hw.2.2.2.1.2.2 dX10_readSaid_45
  have B10 : ∀ (nf : Nat) (x1 : Int32) (x2 : Int32) (z0_47 : Int32) (ws : va_W) (H : Heap) (locs : List Loc) (ls : Array Slot), 28 - x2.toInt < (nf : Int) → RI x1 0 1 → RI x2 18 28 → RI z0_47 2 2 → FLD ws p0 10 47 (.int z0_47) → SNp ws p0 (gd) (gh) (gg) → WD D cy GG A s wr_X10_readSaid__2 wa_X10_readSaid__2 Ps w0 Ps ws H locs → lv_has ls 4 [(0, .ref p0), (1, .int x1), (2, .int x2)] → W p l e (headSpec (Cond.code yX10_readSaid cX10_readSaid 4 (some .boolean) :: gT) ({ frames := 28, cells := 0, slots := 0, locals := 5600 } : Room)).room s m ([.ref p0] : List Value).toArray below meth c H locs 0 0 Q (F0 m 10 ls []) := by
    intro nf10
    induction nf10 with
    | zero =>
      intro x1 x2 z0_47 ws H locs ls hn10 r_x1 r_x2 r_z0_47 m_z0_47 x_SN_p0_gd_gh_gg hw hl
      exact absurd hn10 (by have q0 := r_x2.1; have u0 := r_x2.2; omega)
    | succ nf10 ih10 =>
      intro x1 x2 z0_47 ws H locs ls hn10 r_x1 r_x2 r_z0_47 m_z0_47 x_SN_p0_gd_gh_gg hw hl
      refine lv_iload_n hx hb dX10_readSaid_10 rfl (lv_at hl 2 rfl) ?_
      refine lv_bipush (v := 27) hx hb dX10_readSaid_11 (by decide) ?_
      refine lv_icmp_gt (tgt := 30) hx hb dX10_readSaid_13 (by decide) (fun c_13 => ?_) (fun c_13 => ?_)
      · have r_x2 : RI x2 28 28 := rc_lt2 rl_27 r_x2 (ti_lt c_13) (by decide)
        exact B30 x1 x2 z0_47 ws _ _ ls r_x1 (r_x2.to (by decide)) r_z0_47 m_z0_47 x_SN_p0_gd_gh_gg hw hl
      · have r_x2 : RI x2 18 27 := rc_le1 r_x2 rl_27 (ti_nlt c_13) (by decide)
        refine lv_aload_n hx hb dX10_readSaid_16 rfl (lv_at hl 0 rfl) ?_
        refine lv_iload_n hx hb dX10_readSaid_17 rfl (lv_at hl 2 rfl) ?_
        refine tk_ir (va_runV (As := [.int x2]) (rest := []) ⟨hx, hb, hml, hown, hts⟩ (c_X10_isWord l D cy z H.size Ps ws hw.1 p0 x2 h_p0 (r_x2.to (by decide))) (cwV 1 hts (gV tw_1318 tw_1320 ts_43 tw_15 tw_1321) rfl rfl rfl (by decide +kernel) ⟨Nat.le_of_ble_eq_true rfl, Nat.le_of_ble_eq_true rfl⟩) (tg_preV hw hK hSD hA (ci := 10) (q := (RX10, TX10, 49)) rfl h_p0 rfl) rfl rfl hl.1 rfl (lv_room (Nat.le_of_ble_eq_true rfl)) dX10_readSaid_18 ⟨Nat.le_of_ble_eq_true rfl, Nat.le_of_ble_eq_true rfl⟩) hw hA (fun v_53  H locs hp_v_53 hw => ?_)
        have r_v_53 : RI v_53 0 1 := hp_v_53.1
        refine lv_if_ne (tgt := 30) hx hb dX10_readSaid_21 (by decide) (fun c_21 => ?_) (fun c_21 => ?_)
        · have r_v_53 : RI v_53 1 1 := rc_neL r_v_53 rl_0 (ti_ne c_21) (by decide)
          exact B30 x1 x2 z0_47 ws _ _ ls r_x1 (r_x2.to (by decide)) r_z0_47 m_z0_47 x_SN_p0_gd_gh_gg hw hl
        · have r_v_53 : RI v_53 0 0 := rc_eq1 r_v_53 rl_0 (ti_eq c_21) (by decide)
          obtain ⟨v_54, e_v_54⟩ : ∃ q9 : Int32, q9 = x2 + Int32.ofInt 1 := ⟨_, rfl⟩
          obtain ⟨t_v_54, r_v_54⟩ := tq_add (lo := 19) (hi := 28) r_x2 (show RI (Int32.ofInt 1) 1 1 by unfold RI; decide +kernel) (by decide +kernel) e_v_54
          have t_v_54 : v_54.toInt = x2.toInt + 1 := t_v_54
          refine lv_iinc (v := v_54) (lv' := [(2, .int v_54), (0, .ref p0), (1, .int x1)]) hx hb dX10_readSaid_24 hl (k := 2) rfl e_v_54.symm (by decide) rfl (fun ls hl => ?_)
          refine lv_goto (tgt := 10) hx hb dX10_readSaid_27 (by decide) ?_
          exact ih10 x1 v_54 z0_47 ws _ _ ls (by have q0 := r_v_54.1; have u0 := r_v_54.2; have o0 := r_x2.1; have p0 := r_x2.2; omega) r_x1 (r_v_54.to (by decide)) r_z0_47 m_z0_47 x_SN_p0_gd_gh_gg hw (lv_sub hl [1, 2, 0] rfl)
  refine lv_aload_n hx hb dX10_readSaid_0 rfl (lv_at hl 0 rfl) ?_
  refine lv_bipush (v := 40) hx hb dX10_readSaid_1 (by decide) ?_
  refine tk_ir (va_runV (As := [.int 40]) (rest := []) ⟨hx, hb, hml, hown, hts⟩ (c_X10_isSign l D cy z s.heap.size Ps w0 hw.1 p0 40 h_p0 (rl_40.to (by decide))) (cwV 1 hts (gV tw_1413 tw_1415 ts_63 tw_15 tw_1416) rfl rfl rfl (by decide +kernel) ⟨Nat.le_of_ble_eq_true rfl, Nat.le_of_ble_eq_true rfl⟩) (tg_preV hw hK hSD hA (ci := 10) (q := (RX10, TX10, 49)) rfl h_p0 rfl) rfl rfl hl.1 rfl (lv_room (Nat.le_of_ble_eq_true rfl)) dX10_readSaid_3 ⟨Nat.le_of_ble_eq_true rfl, Nat.le_of_ble_eq_true rfl⟩) hw hA (fun v_55  H locs hp_v_55 hw => ?_)
  have r_v_55 : RI v_55 0 1 := hp_v_55.1
  by_cases c9_v_55 : v_55 = 0
  · have r_v_55 : RI v_55 0 0 := by rw [c9_v_55]; exact rl_0
    refine lv_istore_n (lv' := [(1, .int v_55), (0, .ref p0)]) hx hb dX10_readSaid_6 rfl hl (by decide) rfl (fun ls hl => ?_)
    refine lv_bipush (v := 18) hx hb dX10_readSaid_7 (by decide) ?_
    refine lv_istore_n (lv' := [(2, .int 18), (1, .int v_55), (0, .ref p0)]) hx hb dX10_readSaid_9 rfl hl (by decide) rfl (fun ls hl => ?_)
    exact B10 4294967298 v_55 18 f0_47 w0 _ _ ls (by have q0 := rl_18.1; have u0 := rl_18.2; omega) (r_v_55.to (by decide)) (rl_18.to (by decide)) r_f0_47 m_f0_47 x_SN_p0_gd_gh_gg hw (lv_sub hl [2, 1, 0] rfl)
  · have r_v_55 : RI v_55 1 1 := rc_neL r_v_55 rl_0 (ti_ne c9_v_55) (by decide)
    obtain ⟨v_56, m_v_56, r_v_56⟩ := ((hp_v_55.2.2 c9_v_55).1)
    refine lv_istore_n (lv' := [(1, .int v_55), (0, .ref p0)]) hx hb dX10_readSaid_6 rfl hl (by decide) rfl (fun ls hl => ?_)
    refine lv_bipush (v := 18) hx hb dX10_readSaid_7 (by decide) ?_
    refine lv_istore_n (lv' := [(2, .int 18), (1, .int v_55), (0, .ref p0)]) hx hb dX10_readSaid_9 rfl hl (by decide) rfl (fun ls hl => ?_)
    exact B10 4294967298 v_55 18 f0_47 w0 _ _ ls (by have q0 := rl_18.1; have u0 := rl_18.2; omega) (r_v_55.to (by decide)) (rl_18.to (by decide)) r_f0_47 m_f0_47 x_SN_p0_gd_gh_gg hw (lv_sub hl [2, 1, 0] rfl)
abbrev wr_X10_readAnd__2 : List (Nat × Nat) := [(10, 5), (10, 6), (10, 7), (10, 8), (10, 9), (10, 10), (10, 11), (10, 12), (10, 13), (10, 45), (10, 46), (10, 47), (10, 48)]
abbrev wa_X10_readAnd__2 : List Nat := [54]
set_option maxHeartbeats 4000000 in
set_option maxRecDepth 100000 in
theorem c_X10_readAnd__2 (l : Launch) (D : va_G) (cy : Nat → ClassId) (z : Nat → Nat) (sz : Nat) (Ps : PSI) (w0 : va_W) (hT : HT cy GG Ps w0) (p0 : Nat) (f0_47 : Int32) (gd : Int) (gh : Int) (gg : Int) (h_p0 : (p0, 55) ∈ Ps) (r_f0_47 : RI f0_47 2 2) (m_f0_47 : FLD w0 p0 10 47 (.int f0_47)) (x_SN_p0_gd_gh_gg : SNp w0 p0 (gd) (gh) (gg)) : Met l yX10_readAnd (Cond.code yX10_readAnd cX10_readAnd 2 (some .boolean) :: gT) ({ frames := 29, cells := 0, slots := 0, locals := 5800 } : Room) (va_Pc [.ref p0] (PRE D cy z w0 sz)) (va_Qi (fun (r : Int32) (u : va_W) => (RI r 0 1 ∧ (r = 0 → (∃ v9 : Int32, FLD u p0 10 47 (.int v9) ∧ RI v9 2 2) ∧ True) ∧ (¬ r = 0 → (∃ v9 : Int32, FLD u p0 10 46 (.int v9) ∧ RI v9 1 20) ∧ (∃ v9 : Int32, FLD u p0 10 47 (.int v9) ∧ RI v9 2 2) ∧ (∃ v9 : Int32, FLD u p0 10 48 (.int v9) ∧ RI v9 0 39) ∧ SNT u p0 (gd+1) (gh+1) (gg) ∧ True)) ∧ HT cy GG Ps u ∧ FR wr_X10_readAnd__2 wa_X10_readAnd__2 Ps w0 u) (BB D cy (va_A w0 sz) (fun (u : va_W) => u)) (va_A w0 sz)) 0 0 (va_A w0 sz) := by
  refine Met.ofW (cc := cX10_readAnd) (maxL := 2) (ret := (some .boolean)) (by decide) rfl ?_
  intro p e s m args below meth c s₁ B hml hv
  obtain ⟨rfl, hsz, hP, hK, hD0, hSD⟩ := hv
  have hx := B.exec
  have hb := B.bytes
  have hr := B.returns
  have hlocks := B.notSynchronized
  have hts : ∀ w ∈ gT, w.before _ s = true := fun w h => atoms_spec (ws := Cond.code yX10_readAnd cX10_readAnd 2 (some .boolean) :: gT) B.pre w (List.mem_cons_of_mem _ h)
  have hown : s.vm.findClass RX10 = some m.cls := findClass_of_methodNamed B.named
  subst hsz
  have hD := hD0.self (sz := s.heap.size)
  generalize hAe : va_A w0 s.heap.size = A at hD hSD ⊢
  have hA : ∀ q : Nat, s.heap.size ≤ q → A q := fun q h => by rw [← hAe]; exact Or.inr h
  have hl := lv_entry ([.ref p0]) (n := 2) (Nat.le_of_ble_eq_true rfl)
  rw [lg_entry_eq]
  generalize (lg_sl ([.ref p0]) ++ List.replicate (2 - (lg_sl ([.ref p0])).length) Slot.unset).toArray = ls at hl ⊢
  have hl : lv_has ls 2 [(0, .ref p0)] := hl
  refine nameQ (fun Q hQ => ?_)
  have hw : WD D cy GG A s wr_X10_readAnd__2 wa_X10_readAnd__2 Ps w0 Ps w0 s.heap [] := ⟨hT, hP, hD, va_S.rf, FR.rf, hT.1, [], (List.append_nil _).symm⟩
  have B14 : ∀ (nf : Nat) (x1 : Int32) (z0_46 : Int32) (z0_47 : Int32) (z0_48 : Int32) (gz : Int) (ws : va_W) (H : Heap) (locs : List Loc) (ls : Array Slot), 21 - gz < (nf : Int) → RI x1 0 39 → RI z0_46 1 20 → FLD ws p0 10 46 (.int z0_46) → RI z0_47 2 2 → FLD ws p0 10 47 (.int z0_47) → RI z0_48 0 39 → FLD ws p0 10 48 (.int z0_48) → (SNL ws p0 (gd+1) (gz) (gg) x1 ∧ gh + 1 ≤ gz) → WD D cy GG A s wr_X10_readAnd__2 wa_X10_readAnd__2 Ps w0 Ps ws H locs → lv_has ls 2 [(0, .ref p0), (1, .int x1)] → W p l e (headSpec (Cond.code yX10_readAnd cX10_readAnd 2 (some .boolean) :: gT) ({ frames := 29, cells := 0, slots := 0, locals := 5800 } : Room)).room s m ([.ref p0] : List Value).toArray below meth c H locs 0 0 Q (F0 m 14 ls []) := by
    intro nf14
    induction nf14 with
    | zero =>
      intro x1 z0_46 z0_47 z0_48 gz ws H locs ls hn14 r_x1 r_z0_46 m_z0_46 r_z0_47 m_z0_47 r_z0_48 m_z0_48 x_SNW_p0_gd_1_gz_gg__1 hw hl
      exact absurd hn14 (by have q9 := SNL.le x_SNW_p0_gd_1_gz_gg__1.1; omega)
    | succ nf14 ih14 =>
      intro x1 z0_46 z0_47 z0_48 gz ws H locs ls hn14 r_x1 r_z0_46 m_z0_46 r_z0_47 m_z0_47 r_z0_48 m_z0_48 x_SNW_p0_gd_1_gz_gg__1 hw hl
      refine lv_aload_n hx hb dX10_readAnd_14 rfl (lv_at hl 0 rfl) ?_
      refine lv_bipush (v := 17) hx hb dX10_readAnd_15 (by decide) ?_
      refine tk_ir (va_runV (As := [.int 17]) (rest := []) ⟨hx, hb, hml, hown, hts⟩ (c_X10_isWord l D cy z H.size Ps ws hw.1 p0 17 h_p0 (rl_17.to (by decide))) (cwV 1 hts (gV tw_1318 tw_1320 ts_43 tw_15 tw_1321) rfl rfl rfl (by decide +kernel) ⟨Nat.le_of_ble_eq_true rfl, Nat.le_of_ble_eq_true rfl⟩) (tg_preV hw hK hSD hA (ci := 10) (q := (RX10, TX10, 49)) rfl h_p0 rfl) rfl rfl hl.1 rfl (lv_room (Nat.le_of_ble_eq_true rfl)) dX10_readAnd_17 ⟨Nat.le_of_ble_eq_true rfl, Nat.le_of_ble_eq_true rfl⟩) hw hA (fun v_1  H locs hp_v_1 hw => ?_)
      have r_v_1 : RI v_1 0 1 := hp_v_1.1
      refine lv_if_eq (tgt := 51) hx hb dX10_readAnd_20 (by decide) (fun c_20 => ?_) (fun c_20 => ?_)
      · have r_v_1 : RI v_1 0 0 := rc_eq1 r_v_1 rl_0 (ti_eq c_20) (by decide)
        refine lv_aload_n hx hb dX10_readAnd_51 rfl (lv_at hl 0 rfl) ?_
        refine lv_iload_n hx hb dX10_readAnd_52 rfl (lv_at hl 1 rfl) ?_
        refine tg_put (ci := 10) (ts := ty_MODEL) (v := .int x1) (ty := .int) (C := RX10) (T := TX10) (N := 49) hx hb hts inX10 tyX10 tyX10_ok nmX10 hown hK hw h_p0 rfl rfl 48 (by decide) (hts _ tw_1185) (fun _ h9 => h9) rfl (by decide +kernel) rfl rfl (ft := vI (-2147483648) 2147483647) rfl ⟨_, rfl, (r_x1.to (by decide))⟩ (by decide) dX10_readAnd_53 (fun ws H locs hw n_k_2 hF9 => ?_)
        have m_z0_46 := FLD.over hF9 m_z0_46 (by decide)
        have m_z0_47 := FLD.over hF9 m_z0_47 (by decide)
        have x_SNW_p0_gd_1_gz_gg__1 := SNW.over hF9 x_SNW_p0_gd_1_gz_gg__1 (by decide)
        have f6 := SNL.le x_SNW_p0_gd_1_gz_gg__1.1
        have f7 := x_SNW_p0_gd_1_gz_gg__1.2
        have x_SNT_p0_gd_1_gh_1_gg : SNT ws p0 (gd+1) (gh+1) (gg) := (SNL.snt x_SNW_p0_gd_1_gz_gg__1.1 n_k_2).weak (by have d_8 := SNp.le x_SN_p0_gd_gh_gg; omega)
        refine lv_iconst (v := 1) hx hb dX10_readAnd_56 (by decide) ?_
        subst hQ
        exact W.zret (v := 1) hx hb hr (rfl) (fun t ht hW => ⟨⟨1, ws, rfl, ⟨⟨rl_1.to (by decide), (fun h0 => absurd h0 (by decide)), (fun h0 => ⟨⟨_, m_z0_46, r_z0_46⟩, ⟨_, m_z0_47, r_z0_47⟩, ⟨_, n_k_2, r_x1⟩, x_SNT_p0_gd_1_gh_1_gg, trivial⟩)⟩, hw.1, hw.2.2.2.2.1⟩, by rw [ht]; exact hw.2.1, va_K.moved hW.alike hK, hw.2.2.1⟩, hw.2.2.2.1.F ht⟩) hw.2.2.2.1.2.2 dX10_readAnd_57
      · have r_v_1 : RI v_1 1 1 := rc_neL r_v_1 rl_0 (ti_ne c_20) (by decide)
        refine lv_aload_n hx hb dX10_readAnd_23 rfl (lv_at hl 0 rfl) ?_
        refine tk_v (va_runV (As := []) (rest := []) ⟨hx, hb, hml, hown, hts⟩ (c_X10_go l D cy z H.size Ps ws hw.1 p0 h_p0) (cwV 0 hts (gV tw_1298 tw_1300 ts_40 tw_15 tw_1301) rfl rfl rfl (by decide +kernel) ⟨Nat.le_of_ble_eq_true rfl, Nat.le_of_ble_eq_true rfl⟩) (tg_preV hw hK hSD hA (ci := 10) (q := (RX10, TX10, 49)) rfl h_p0 rfl) rfl rfl hl.1 rfl (lv_room (Nat.le_of_ble_eq_true rfl)) dX10_readAnd_24 ⟨Nat.le_of_ble_eq_true rfl, Nat.le_of_ble_eq_true rfl⟩) hw hA ⟨by decide, by decide⟩ (fun ws H locs hp_v_3 hw hF9 => ?_)
        have m_z0_46 := FLD.over hF9 m_z0_46 (by decide)
        have m_z0_47 := FLD.over hF9 m_z0_47 (by decide)
        have m_z0_48 := FLD.over hF9 m_z0_48 (by decide)
        have x_SNW_p0_gd_1_gz_gg__1 := SNW.over hF9 x_SNW_p0_gd_1_gz_gg__1 (by decide)
        refine lv_aload_n hx hb dX10_readAnd_27 rfl (lv_at hl 0 rfl) ?_
        have f9 := SNL.sn x_SNW_p0_gd_1_gz_gg__1.1
        have f8 := f9.2
        have f7 := x_SNW_p0_gd_1_gz_gg__1.2
        have f6 := SNL.le x_SNW_p0_gd_1_gz_gg__1.1
        have x_SN_p0_gd_1_gz_max_gg__Int32_toInt_x1___1_ : SNp ws p0 (gd+1) (gz) (max gg (Int32.toInt x1 + 1)) := f9.1
        refine tk_i (va_runV (As := []) (rest := []) ⟨hx, hb, hml, hown, hts⟩ (c_X10_readSaid__2 l D cy z H.size Ps ws hw.1 p0 z0_47 (gd+1) (gz) (max gg (Int32.toInt x1 + 1)) h_p0 r_z0_47 m_z0_47 x_SN_p0_gd_1_gz_max_gg__Int32_toInt_x1___1_) (cwV 0 hts (gV tw_1759 tw_1761 ts_113 tw_15 tw_1762) rfl rfl rfl (by decide +kernel) ⟨Nat.le_of_ble_eq_true rfl, Nat.le_of_ble_eq_true rfl⟩) (tg_preV hw hK hSD hA (ci := 10) (q := (RX10, TX10, 49)) rfl h_p0 rfl) rfl rfl hl.1 rfl (lv_room (Nat.le_of_ble_eq_true rfl)) dX10_readAnd_28 ⟨Nat.le_of_ble_eq_true rfl, Nat.le_of_ble_eq_true rfl⟩) hw hA ⟨by decide, by decide⟩ (fun v_4 ws H locs hp_v_4 hw hF9 => ?_)
        have r_v_4 : RI v_4 0 1 := hp_v_4.1
        by_cases c9_v_4 : v_4 = 0
        · have r_v_4 : RI v_4 0 0 := by rw [c9_v_4]; exact rl_0
          obtain ⟨v_5, m_v_5, r_v_5⟩ := ((hp_v_4.2.1 c9_v_4).1)
          refine lv_if_ne (tgt := 36) hx hb dX10_readAnd_31 (by decide) (fun c_31 => ?_) (fun c_31 => ?_)
          · exact absurd (r_v_4.eq.trans rl_0.eq.symm) ((ti_ne c_31))
          · refine lv_iconst (v := 0) hx hb dX10_readAnd_34 (by decide) ?_
            subst hQ
            exact W.zret (v := 0) hx hb hr (rfl) (fun t ht hW => ⟨⟨0, ws, rfl, ⟨⟨rl_0.to (by decide), (fun h0 => ⟨⟨_, m_v_5, r_v_5⟩, trivial⟩), (fun h0 => absurd rfl h0)⟩, hw.1, hw.2.2.2.2.1⟩, by rw [ht]; exact hw.2.1, va_K.moved hW.alike hK, hw.2.2.1⟩, hw.2.2.2.1.F ht⟩) hw.2.2.2.1.2.2 dX10_readAnd_35
        · have r_v_4 : RI v_4 1 1 := rc_neL r_v_4 rl_0 (ti_ne c9_v_4) (by decide)
          obtain ⟨v_6, m_v_6, r_v_6⟩ := ((hp_v_4.2.2 c9_v_4).1)
          obtain ⟨v_7, m_v_7, r_v_7⟩ := ((hp_v_4.2.2 c9_v_4).2.1)
          obtain ⟨v_8, m_v_8, r_v_8⟩ := ((hp_v_4.2.2 c9_v_4).2.2.1)
          have x_SNT_p0_gd_2_gz_1_max_gg__Int32_toInt_x1___1_ := ((hp_v_4.2.2 c9_v_4).2.2.2.1)
          refine lv_if_ne (tgt := 36) hx hb dX10_readAnd_31 (by decide) (fun c_31 => ?_) (fun c_31 => ?_)
          · refine lv_aload_n hx hb dX10_readAnd_36 rfl (lv_at hl 0 rfl) ?_
            refine lv_iconst (v := 2) hx hb dX10_readAnd_37 (by decide) ?_
            refine lv_iload_n hx hb dX10_readAnd_38 rfl (lv_at hl 1 rfl) ?_
            refine lv_aload_n hx hb dX10_readAnd_39 rfl (lv_at hl 0 rfl) ?_
            refine tg_mem (ci := 10) (C := RX10) (T := TX10) (N := 49) hx hb hts inX10 hown hK hw 48 m_v_7 rfl (by decide) (hts _ tw_1185) (fun _ h9 => h9) dX10_readAnd_40 ?_
            refine lv_iconst (v := 0) hx hb dX10_readAnd_43 (by decide) ?_
            have l9 := SNT.top hw x_SNT_p0_gd_2_gz_1_max_gg__Int32_toInt_x1___1_ m_v_7
            have l8 := SNT.sn x_SNT_p0_gd_2_gz_1_max_gg__Int32_toInt_x1___1_
            have x_SNI_p0_gd_1_gz_1_gg : SNI ws p0 (gd+1) (gz+1) (gg) := SNp.sni l8 (by have d_8 := SNp.le x_SN_p0_gd_gh_gg; omega)
            have x_LTN_p0_x1 : LTN ws p0 (x1) := SNp.ltn l8 f8
            have x_LTN_p0_v_7 : LTN ws p0 (v_7) := l9.ltn
            refine tk_i (va_runV (As := [.int 2, .int x1, .int v_7, .int 0]) (rest := []) ⟨hx, hb, hml, hown, hts⟩ (c_X10_saysOne__1 l D cy z H.size Ps ws hw.1 p0 2 x1 v_7 0 (gd+1) (gz+1) (gg) h_p0 (rl_2.to (by decide)) (r_x1.to (by decide)) (r_v_7.to (by decide)) (rl_0.to (by decide)) x_SNI_p0_gd_1_gz_1_gg x_LTN_p0_x1 x_LTN_p0_v_7) (cwV 4 hts (gV tw_1771 tw_1773 ts_116 tw_15 tw_1774) rfl rfl rfl (by decide +kernel) ⟨Nat.le_of_ble_eq_true rfl, Nat.le_of_ble_eq_true rfl⟩) (tg_preV hw hK hSD hA (ci := 10) (q := (RX10, TX10, 49)) rfl h_p0 rfl) rfl rfl hl.1 rfl (lv_room (Nat.le_of_ble_eq_true rfl)) dX10_readAnd_44 ⟨Nat.le_of_ble_eq_true rfl, Nat.le_of_ble_eq_true rfl⟩) hw hA ⟨by decide, by decide⟩ (fun v_9 ws H locs hp_v_9 hw hF9 => ?_)
            have m_v_6 := FLD.over hF9 m_v_6 (by decide)
            have m_v_7 := FLD.over hF9 m_v_7 (by decide)
            have m_v_8 := FLD.over hF9 m_v_8 (by decide)
            have r_v_9 : RI v_9 0 39 := hp_v_9.1
            have x_SNL_p0_gd_1_gz_1_gg_v_9 := hp_v_9.2.2.2.1.1
            refine lv_istore_n (lv' := [(1, .int v_9), (0, .ref p0)]) hx hb dX10_readAnd_47 rfl hl (by decide) rfl (fun ls hl => ?_)
            refine lv_goto (tgt := 14) hx hb dX10_readAnd_48 (by decide) ?_
            have x_SNW_p0_gd_1_gz_1_gg_v_9 : (SNL ws p0 (gd+1) (gz+1) (gg) v_9 ∧ gh + 1 ≤ gz+1) := ⟨x_SNL_p0_gd_1_gz_1_gg_v_9, by omega⟩
            exact ih14 v_9 v_6 v_8 v_7 (gz+1) ws _ _ ls (by have d_8 := SNp.le x_SN_p0_gd_gh_gg; omega) r_v_9 r_v_6 m_v_6 r_v_8 m_v_8 r_v_7 m_v_7 x_SNW_p0_gd_1_gz_1_gg_v_9 hw (lv_sub hl [1, 0] rfl)
          · have r_v_4 : RI v_4 1 0 := rc_eq1 r_v_4 rl_0 (ti_eq c_31) (by decide)
            exact (r_v_4.no (by decide)).elim
  refine lv_aload_n hx hb dX10_readAnd_0 rfl (lv_at hl 0 rfl) ?_
  refine tk_i (va_runV (As := []) (rest := []) ⟨hx, hb, hml, hown, hts⟩ (c_X10_readSaid__2 l D cy z s.heap.size Ps w0 hw.1 p0 f0_47 (gd) (gh) (gg) h_p0 r_f0_47 m_f0_47 x_SN_p0_gd_gh_gg) (cwV 0 hts (gV tw_1759 tw_1761 ts_113 tw_15 tw_1762) rfl rfl rfl (by decide +kernel) ⟨Nat.le_of_ble_eq_true rfl, Nat.le_of_ble_eq_true rfl⟩) (tg_preV hw hK hSD hA (ci := 10) (q := (RX10, TX10, 49)) rfl h_p0 rfl) rfl rfl hl.1 rfl (lv_room (Nat.le_of_ble_eq_true rfl)) dX10_readAnd_1 ⟨Nat.le_of_ble_eq_true rfl, Nat.le_of_ble_eq_true rfl⟩) hw hA ⟨by decide, by decide⟩ (fun v_10 ws H locs hp_v_10 hw hF9 => ?_)
  have r_v_10 : RI v_10 0 1 := hp_v_10.1
  by_cases c9_v_10 : v_10 = 0
  · have r_v_10 : RI v_10 0 0 := by rw [c9_v_10]; exact rl_0
    obtain ⟨v_11, m_v_11, r_v_11⟩ := ((hp_v_10.2.1 c9_v_10).1)
    refine lv_if_ne (tgt := 9) hx hb dX10_readAnd_4 (by decide) (fun c_4 => ?_) (fun c_4 => ?_)
    · exact absurd (r_v_10.eq.trans rl_0.eq.symm) ((ti_ne c_4))
    · refine lv_iconst (v := 0) hx hb dX10_readAnd_7 (by decide) ?_
      subst hQ
      exact W.zret (v := 0) hx hb hr (rfl) (fun t ht hW => ⟨⟨0, ws, rfl, ⟨⟨rl_0.to (by decide), (fun h0 => ⟨⟨_, m_v_11, r_v_11⟩, trivial⟩), (fun h0 => absurd rfl h0)⟩, hw.1, hw.2.2.2.2.1⟩, by rw [ht]; exact hw.2.1, va_K.moved hW.alike hK, hw.2.2.1⟩, hw.2.2.2.1.F ht⟩) hw.2.2.2.1.2.2 dX10_readAnd_8
  · have r_v_10 : RI v_10 1 1 := rc_neL r_v_10 rl_0 (ti_ne c9_v_10) (by decide)
    obtain ⟨v_12, m_v_12, r_v_12⟩ := ((hp_v_10.2.2 c9_v_10).1)
    obtain ⟨v_13, m_v_13, r_v_13⟩ := ((hp_v_10.2.2 c9_v_10).2.1)
    obtain ⟨v_14, m_v_14, r_v_14⟩ := ((hp_v_10.2.2 c9_v_10).2.2.1)
    have x_SNT_p0_gd_1_gh_1_gg := ((hp_v_10.2.2 c9_v_10).2.2.2.1)
    refine lv_if_ne (tgt := 9) hx hb dX10_readAnd_4 (by decide) (fun c_4 => ?_) (fun c_4 => ?_)
    · refine lv_aload_n hx hb dX10_readAnd_9 rfl (lv_at hl 0 rfl) ?_
      refine tg_mem (ci := 10) (C := RX10) (T := TX10) (N := 49) hx hb hts inX10 hown hK hw 48 m_v_13 rfl (by decide) (hts _ tw_1185) (fun _ h9 => h9) dX10_readAnd_10 ?_
      refine lv_istore_n (lv' := [(1, .int v_13), (0, .ref p0)]) hx hb dX10_readAnd_13 rfl hl (by decide) rfl (fun ls hl => ?_)
      have x_SNW_p0_gd_1_gh_1_gg_v_13 : (SNL ws p0 (gd+1) (gh+1) (gg) v_13 ∧ gh + 1 ≤ gh+1) := ⟨SNT.top hw x_SNT_p0_gd_1_gh_1_gg m_v_13, by omega⟩
      exact B14 4294967298 v_13 v_12 v_14 v_13 (gh+1) ws _ _ ls (by have d_8 := SNp.le x_SN_p0_gd_gh_gg; omega) r_v_13 r_v_12 m_v_12 r_v_14 m_v_14 r_v_13 m_v_13 x_SNW_p0_gd_1_gh_1_gg_v_13 hw (lv_sub hl [1, 0] rfl)
    · have r_v_10 : RI v_10 1 0 := rc_eq1 r_v_10 rl_0 (ti_eq c_4) (by decide)
      exact (r_v_10.no (by decide)).elim
abbrev wr_X10_readOr__2 : List (Nat × Nat) := [(10, 5), (10, 6), (10, 7), (10, 8), (10, 9), (10, 10), (10, 11), (10, 12), (10, 13), (10, 45), (10, 46), (10, 47), (10, 48)]
abbrev wa_X10_readOr__2 : List Nat := [54]
set_option maxHeartbeats 4000000 in
set_option maxRecDepth 100000 in
theorem c_X10_readOr__2 (l : Launch) (D : va_G) (cy : Nat → ClassId) (z : Nat → Nat) (sz : Nat) (Ps : PSI) (w0 : va_W) (hT : HT cy GG Ps w0) (p0 : Nat) (f0_47 : Int32) (gd : Int) (gh : Int) (gg : Int) (h_p0 : (p0, 55) ∈ Ps) (r_f0_47 : RI f0_47 2 2) (m_f0_47 : FLD w0 p0 10 47 (.int f0_47)) (x_SN_p0_gd_gh_gg : SNp w0 p0 (gd) (gh) (gg)) : Met l yX10_readOr (Cond.code yX10_readOr cX10_readOr 2 (some .boolean) :: gT) ({ frames := 30, cells := 0, slots := 0, locals := 6000 } : Room) (va_Pc [.ref p0] (PRE D cy z w0 sz)) (va_Qi (fun (r : Int32) (u : va_W) => (RI r 0 1 ∧ (r = 0 → (∃ v9 : Int32, FLD u p0 10 47 (.int v9) ∧ RI v9 2 2) ∧ True) ∧ (¬ r = 0 → (∃ v9 : Int32, FLD u p0 10 46 (.int v9) ∧ RI v9 1 20) ∧ (∃ v9 : Int32, FLD u p0 10 47 (.int v9) ∧ RI v9 2 2) ∧ (∃ v9 : Int32, FLD u p0 10 48 (.int v9) ∧ RI v9 0 39) ∧ SNT u p0 (gd+1) (gh+1) (gg) ∧ True)) ∧ HT cy GG Ps u ∧ FR wr_X10_readOr__2 wa_X10_readOr__2 Ps w0 u) (BB D cy (va_A w0 sz) (fun (u : va_W) => u)) (va_A w0 sz)) 0 0 (va_A w0 sz) := by
  refine Met.ofW (cc := cX10_readOr) (maxL := 2) (ret := (some .boolean)) (by decide) rfl ?_
  intro p e s m args below meth c s₁ B hml hv
  obtain ⟨rfl, hsz, hP, hK, hD0, hSD⟩ := hv
  have hx := B.exec
  have hb := B.bytes
  have hr := B.returns
  have hlocks := B.notSynchronized
  have hts : ∀ w ∈ gT, w.before _ s = true := fun w h => atoms_spec (ws := Cond.code yX10_readOr cX10_readOr 2 (some .boolean) :: gT) B.pre w (List.mem_cons_of_mem _ h)
  have hown : s.vm.findClass RX10 = some m.cls := findClass_of_methodNamed B.named
  subst hsz
  have hD := hD0.self (sz := s.heap.size)
  generalize hAe : va_A w0 s.heap.size = A at hD hSD ⊢
  have hA : ∀ q : Nat, s.heap.size ≤ q → A q := fun q h => by rw [← hAe]; exact Or.inr h
  have hl := lv_entry ([.ref p0]) (n := 2) (Nat.le_of_ble_eq_true rfl)
  rw [lg_entry_eq]
  generalize (lg_sl ([.ref p0]) ++ List.replicate (2 - (lg_sl ([.ref p0])).length) Slot.unset).toArray = ls at hl ⊢
  have hl : lv_has ls 2 [(0, .ref p0)] := hl
  refine nameQ (fun Q hQ => ?_)
  have hw : WD D cy GG A s wr_X10_readOr__2 wa_X10_readOr__2 Ps w0 Ps w0 s.heap [] := ⟨hT, hP, hD, va_S.rf, FR.rf, hT.1, [], (List.append_nil _).symm⟩
  have B14 : ∀ (nf : Nat) (x1 : Int32) (z0_46 : Int32) (z0_47 : Int32) (z0_48 : Int32) (gz : Int) (ws : va_W) (H : Heap) (locs : List Loc) (ls : Array Slot), 21 - gz < (nf : Int) → RI x1 0 39 → RI z0_46 1 20 → FLD ws p0 10 46 (.int z0_46) → RI z0_47 2 2 → FLD ws p0 10 47 (.int z0_47) → RI z0_48 0 39 → FLD ws p0 10 48 (.int z0_48) → (SNL ws p0 (gd+1) (gz) (gg) x1 ∧ gh + 1 ≤ gz) → WD D cy GG A s wr_X10_readOr__2 wa_X10_readOr__2 Ps w0 Ps ws H locs → lv_has ls 2 [(0, .ref p0), (1, .int x1)] → W p l e (headSpec (Cond.code yX10_readOr cX10_readOr 2 (some .boolean) :: gT) ({ frames := 30, cells := 0, slots := 0, locals := 6000 } : Room)).room s m ([.ref p0] : List Value).toArray below meth c H locs 0 0 Q (F0 m 14 ls []) := by
    intro nf14
    induction nf14 with
    | zero =>
      intro x1 z0_46 z0_47 z0_48 gz ws H locs ls hn14 r_x1 r_z0_46 m_z0_46 r_z0_47 m_z0_47 r_z0_48 m_z0_48 x_SNW_p0_gd_1_gz_gg__1 hw hl
      exact absurd hn14 (by have q9 := SNL.le x_SNW_p0_gd_1_gz_gg__1.1; omega)
    | succ nf14 ih14 =>
      intro x1 z0_46 z0_47 z0_48 gz ws H locs ls hn14 r_x1 r_z0_46 m_z0_46 r_z0_47 m_z0_47 r_z0_48 m_z0_48 x_SNW_p0_gd_1_gz_gg__1 hw hl
      refine lv_aload_n hx hb dX10_readOr_14 rfl (lv_at hl 0 rfl) ?_
      refine lv_bipush (v := 16) hx hb dX10_readOr_15 (by decide) ?_
      refine tk_ir (va_runV (As := [.int 16]) (rest := []) ⟨hx, hb, hml, hown, hts⟩ (c_X10_isWord l D cy z H.size Ps ws hw.1 p0 16 h_p0 (rl_16.to (by decide))) (cwV 1 hts (gV tw_1318 tw_1320 ts_43 tw_15 tw_1321) rfl rfl rfl (by decide +kernel) ⟨Nat.le_of_ble_eq_true rfl, Nat.le_of_ble_eq_true rfl⟩) (tg_preV hw hK hSD hA (ci := 10) (q := (RX10, TX10, 49)) rfl h_p0 rfl) rfl rfl hl.1 rfl (lv_room (Nat.le_of_ble_eq_true rfl)) dX10_readOr_17 ⟨Nat.le_of_ble_eq_true rfl, Nat.le_of_ble_eq_true rfl⟩) hw hA (fun v_1  H locs hp_v_1 hw => ?_)
      have r_v_1 : RI v_1 0 1 := hp_v_1.1
      refine lv_if_eq (tgt := 51) hx hb dX10_readOr_20 (by decide) (fun c_20 => ?_) (fun c_20 => ?_)
      · have r_v_1 : RI v_1 0 0 := rc_eq1 r_v_1 rl_0 (ti_eq c_20) (by decide)
        refine lv_aload_n hx hb dX10_readOr_51 rfl (lv_at hl 0 rfl) ?_
        refine lv_iload_n hx hb dX10_readOr_52 rfl (lv_at hl 1 rfl) ?_
        refine tg_put (ci := 10) (ts := ty_MODEL) (v := .int x1) (ty := .int) (C := RX10) (T := TX10) (N := 49) hx hb hts inX10 tyX10 tyX10_ok nmX10 hown hK hw h_p0 rfl rfl 48 (by decide) (hts _ tw_1185) (fun _ h9 => h9) rfl (by decide +kernel) rfl rfl (ft := vI (-2147483648) 2147483647) rfl ⟨_, rfl, (r_x1.to (by decide))⟩ (by decide) dX10_readOr_53 (fun ws H locs hw n_k_2 hF9 => ?_)
        have m_z0_46 := FLD.over hF9 m_z0_46 (by decide)
        have m_z0_47 := FLD.over hF9 m_z0_47 (by decide)
        have x_SNW_p0_gd_1_gz_gg__1 := SNW.over hF9 x_SNW_p0_gd_1_gz_gg__1 (by decide)
        have f6 := SNL.le x_SNW_p0_gd_1_gz_gg__1.1
        have f7 := x_SNW_p0_gd_1_gz_gg__1.2
        have x_SNT_p0_gd_1_gh_1_gg : SNT ws p0 (gd+1) (gh+1) (gg) := (SNL.snt x_SNW_p0_gd_1_gz_gg__1.1 n_k_2).weak (by have d_8 := SNp.le x_SN_p0_gd_gh_gg; omega)
        refine lv_iconst (v := 1) hx hb dX10_readOr_56 (by decide) ?_
        subst hQ
        exact W.zret (v := 1) hx hb hr (rfl) (fun t ht hW => ⟨⟨1, ws, rfl, ⟨⟨rl_1.to (by decide), (fun h0 => absurd h0 (by decide)), (fun h0 => ⟨⟨_, m_z0_46, r_z0_46⟩, ⟨_, m_z0_47, r_z0_47⟩, ⟨_, n_k_2, r_x1⟩, x_SNT_p0_gd_1_gh_1_gg, trivial⟩)⟩, hw.1, hw.2.2.2.2.1⟩, by rw [ht]; exact hw.2.1, va_K.moved hW.alike hK, hw.2.2.1⟩, hw.2.2.2.1.F ht⟩) hw.2.2.2.1.2.2 dX10_readOr_57
      · have r_v_1 : RI v_1 1 1 := rc_neL r_v_1 rl_0 (ti_ne c_20) (by decide)
        refine lv_aload_n hx hb dX10_readOr_23 rfl (lv_at hl 0 rfl) ?_
        refine tk_v (va_runV (As := []) (rest := []) ⟨hx, hb, hml, hown, hts⟩ (c_X10_go l D cy z H.size Ps ws hw.1 p0 h_p0) (cwV 0 hts (gV tw_1298 tw_1300 ts_40 tw_15 tw_1301) rfl rfl rfl (by decide +kernel) ⟨Nat.le_of_ble_eq_true rfl, Nat.le_of_ble_eq_true rfl⟩) (tg_preV hw hK hSD hA (ci := 10) (q := (RX10, TX10, 49)) rfl h_p0 rfl) rfl rfl hl.1 rfl (lv_room (Nat.le_of_ble_eq_true rfl)) dX10_readOr_24 ⟨Nat.le_of_ble_eq_true rfl, Nat.le_of_ble_eq_true rfl⟩) hw hA ⟨by decide, by decide⟩ (fun ws H locs hp_v_3 hw hF9 => ?_)
        have m_z0_46 := FLD.over hF9 m_z0_46 (by decide)
        have m_z0_47 := FLD.over hF9 m_z0_47 (by decide)
        have m_z0_48 := FLD.over hF9 m_z0_48 (by decide)
        have x_SNW_p0_gd_1_gz_gg__1 := SNW.over hF9 x_SNW_p0_gd_1_gz_gg__1 (by decide)
        refine lv_aload_n hx hb dX10_readOr_27 rfl (lv_at hl 0 rfl) ?_
        have f9 := SNL.sn x_SNW_p0_gd_1_gz_gg__1.1
        have f8 := f9.2
        have f7 := x_SNW_p0_gd_1_gz_gg__1.2
        have f6 := SNL.le x_SNW_p0_gd_1_gz_gg__1.1
        have x_SN_p0_gd_1_gz_max_gg__Int32_toInt_x1___1_ : SNp ws p0 (gd+1) (gz) (max gg (Int32.toInt x1 + 1)) := f9.1
        refine tk_i (va_runV (As := []) (rest := []) ⟨hx, hb, hml, hown, hts⟩ (c_X10_readAnd__2 l D cy z H.size Ps ws hw.1 p0 z0_47 (gd+1) (gz) (max gg (Int32.toInt x1 + 1)) h_p0 r_z0_47 m_z0_47 x_SN_p0_gd_1_gz_max_gg__Int32_toInt_x1___1_) (cwV 0 hts (gV tw_1755 tw_1757 ts_112 tw_15 tw_1758) rfl rfl rfl (by decide +kernel) ⟨Nat.le_of_ble_eq_true rfl, Nat.le_of_ble_eq_true rfl⟩) (tg_preV hw hK hSD hA (ci := 10) (q := (RX10, TX10, 49)) rfl h_p0 rfl) rfl rfl hl.1 rfl (lv_room (Nat.le_of_ble_eq_true rfl)) dX10_readOr_28 ⟨Nat.le_of_ble_eq_true rfl, Nat.le_of_ble_eq_true rfl⟩) hw hA ⟨by decide, by decide⟩ (fun v_4 ws H locs hp_v_4 hw hF9 => ?_)
        have r_v_4 : RI v_4 0 1 := hp_v_4.1
        by_cases c9_v_4 : v_4 = 0
        · have r_v_4 : RI v_4 0 0 := by rw [c9_v_4]; exact rl_0
          obtain ⟨v_5, m_v_5, r_v_5⟩ := ((hp_v_4.2.1 c9_v_4).1)
          refine lv_if_ne (tgt := 36) hx hb dX10_readOr_31 (by decide) (fun c_31 => ?_) (fun c_31 => ?_)
          · exact absurd (r_v_4.eq.trans rl_0.eq.symm) ((ti_ne c_31))
          · refine lv_iconst (v := 0) hx hb dX10_readOr_34 (by decide) ?_
            subst hQ
            exact W.zret (v := 0) hx hb hr (rfl) (fun t ht hW => ⟨⟨0, ws, rfl, ⟨⟨rl_0.to (by decide), (fun h0 => ⟨⟨_, m_v_5, r_v_5⟩, trivial⟩), (fun h0 => absurd rfl h0)⟩, hw.1, hw.2.2.2.2.1⟩, by rw [ht]; exact hw.2.1, va_K.moved hW.alike hK, hw.2.2.1⟩, hw.2.2.2.1.F ht⟩) hw.2.2.2.1.2.2 dX10_readOr_35
        · have r_v_4 : RI v_4 1 1 := rc_neL r_v_4 rl_0 (ti_ne c9_v_4) (by decide)
          obtain ⟨v_6, m_v_6, r_v_6⟩ := ((hp_v_4.2.2 c9_v_4).1)
          obtain ⟨v_7, m_v_7, r_v_7⟩ := ((hp_v_4.2.2 c9_v_4).2.1)
          obtain ⟨v_8, m_v_8, r_v_8⟩ := ((hp_v_4.2.2 c9_v_4).2.2.1)
          have x_SNT_p0_gd_2_gz_1_max_gg__Int32_toInt_x1___1_ := ((hp_v_4.2.2 c9_v_4).2.2.2.1)
          refine lv_if_ne (tgt := 36) hx hb dX10_readOr_31 (by decide) (fun c_31 => ?_) (fun c_31 => ?_)
          · refine lv_aload_n hx hb dX10_readOr_36 rfl (lv_at hl 0 rfl) ?_
            refine lv_iconst (v := 3) hx hb dX10_readOr_37 (by decide) ?_
            refine lv_iload_n hx hb dX10_readOr_38 rfl (lv_at hl 1 rfl) ?_
            refine lv_aload_n hx hb dX10_readOr_39 rfl (lv_at hl 0 rfl) ?_
            refine tg_mem (ci := 10) (C := RX10) (T := TX10) (N := 49) hx hb hts inX10 hown hK hw 48 m_v_8 rfl (by decide) (hts _ tw_1185) (fun _ h9 => h9) dX10_readOr_40 ?_
            refine lv_iconst (v := 0) hx hb dX10_readOr_43 (by decide) ?_
            have l9 := SNT.top hw x_SNT_p0_gd_2_gz_1_max_gg__Int32_toInt_x1___1_ m_v_8
            have l8 := SNT.sn x_SNT_p0_gd_2_gz_1_max_gg__Int32_toInt_x1___1_
            have x_SNI_p0_gd_1_gz_1_gg : SNI ws p0 (gd+1) (gz+1) (gg) := SNp.sni l8 (by have d_8 := SNp.le x_SN_p0_gd_gh_gg; omega)
            have x_LTN_p0_x1 : LTN ws p0 (x1) := SNp.ltn l8 f8
            have x_LTN_p0_v_8 : LTN ws p0 (v_8) := l9.ltn
            refine tk_i (va_runV (As := [.int 3, .int x1, .int v_8, .int 0]) (rest := []) ⟨hx, hb, hml, hown, hts⟩ (c_X10_saysOne__1 l D cy z H.size Ps ws hw.1 p0 3 x1 v_8 0 (gd+1) (gz+1) (gg) h_p0 (rl_3.to (by decide)) (r_x1.to (by decide)) (r_v_8.to (by decide)) (rl_0.to (by decide)) x_SNI_p0_gd_1_gz_1_gg x_LTN_p0_x1 x_LTN_p0_v_8) (cwV 4 hts (gV tw_1771 tw_1773 ts_116 tw_15 tw_1774) rfl rfl rfl (by decide +kernel) ⟨Nat.le_of_ble_eq_true rfl, Nat.le_of_ble_eq_true rfl⟩) (tg_preV hw hK hSD hA (ci := 10) (q := (RX10, TX10, 49)) rfl h_p0 rfl) rfl rfl hl.1 rfl (lv_room (Nat.le_of_ble_eq_true rfl)) dX10_readOr_44 ⟨Nat.le_of_ble_eq_true rfl, Nat.le_of_ble_eq_true rfl⟩) hw hA ⟨by decide, by decide⟩ (fun v_9 ws H locs hp_v_9 hw hF9 => ?_)
            have m_v_6 := FLD.over hF9 m_v_6 (by decide)
            have m_v_7 := FLD.over hF9 m_v_7 (by decide)
            have m_v_8 := FLD.over hF9 m_v_8 (by decide)
            have r_v_9 : RI v_9 0 39 := hp_v_9.1
            have x_SNL_p0_gd_1_gz_1_gg_v_9 := hp_v_9.2.2.2.1.1
            refine lv_istore_n (lv' := [(1, .int v_9), (0, .ref p0)]) hx hb dX10_readOr_47 rfl hl (by decide) rfl (fun ls hl => ?_)
            refine lv_goto (tgt := 14) hx hb dX10_readOr_48 (by decide) ?_
            have x_SNW_p0_gd_1_gz_1_gg_v_9 : (SNL ws p0 (gd+1) (gz+1) (gg) v_9 ∧ gh + 1 ≤ gz+1) := ⟨x_SNL_p0_gd_1_gz_1_gg_v_9, by omega⟩
            exact ih14 v_9 v_6 v_7 v_8 (gz+1) ws _ _ ls (by have d_8 := SNp.le x_SN_p0_gd_gh_gg; omega) r_v_9 r_v_6 m_v_6 r_v_7 m_v_7 r_v_8 m_v_8 x_SNW_p0_gd_1_gz_1_gg_v_9 hw (lv_sub hl [1, 0] rfl)
          · have r_v_4 : RI v_4 1 0 := rc_eq1 r_v_4 rl_0 (ti_eq c_31) (by decide)
            exact (r_v_4.no (by decide)).elim
  refine lv_aload_n hx hb dX10_readOr_0 rfl (lv_at hl 0 rfl) ?_
  refine tk_i (va_runV (As := []) (rest := []) ⟨hx, hb, hml, hown, hts⟩ (c_X10_readAnd__2 l D cy z s.heap.size Ps w0 hw.1 p0 f0_47 (gd) (gh) (gg) h_p0 r_f0_47 m_f0_47 x_SN_p0_gd_gh_gg) (cwV 0 hts (gV tw_1755 tw_1757 ts_112 tw_15 tw_1758) rfl rfl rfl (by decide +kernel) ⟨Nat.le_of_ble_eq_true rfl, Nat.le_of_ble_eq_true rfl⟩) (tg_preV hw hK hSD hA (ci := 10) (q := (RX10, TX10, 49)) rfl h_p0 rfl) rfl rfl hl.1 rfl (lv_room (Nat.le_of_ble_eq_true rfl)) dX10_readOr_1 ⟨Nat.le_of_ble_eq_true rfl, Nat.le_of_ble_eq_true rfl⟩) hw hA ⟨by decide, by decide⟩ (fun v_10 ws H locs hp_v_10 hw hF9 => ?_)
  have r_v_10 : RI v_10 0 1 := hp_v_10.1
  by_cases c9_v_10 : v_10 = 0
  · have r_v_10 : RI v_10 0 0 := by rw [c9_v_10]; exact rl_0
    obtain ⟨v_11, m_v_11, r_v_11⟩ := ((hp_v_10.2.1 c9_v_10).1)
    refine lv_if_ne (tgt := 9) hx hb dX10_readOr_4 (by decide) (fun c_4 => ?_) (fun c_4 => ?_)
    · exact absurd (r_v_10.eq.trans rl_0.eq.symm) ((ti_ne c_4))
    · refine lv_iconst (v := 0) hx hb dX10_readOr_7 (by decide) ?_
      subst hQ
      exact W.zret (v := 0) hx hb hr (rfl) (fun t ht hW => ⟨⟨0, ws, rfl, ⟨⟨rl_0.to (by decide), (fun h0 => ⟨⟨_, m_v_11, r_v_11⟩, trivial⟩), (fun h0 => absurd rfl h0)⟩, hw.1, hw.2.2.2.2.1⟩, by rw [ht]; exact hw.2.1, va_K.moved hW.alike hK, hw.2.2.1⟩, hw.2.2.2.1.F ht⟩) hw.2.2.2.1.2.2 dX10_readOr_8
  · have r_v_10 : RI v_10 1 1 := rc_neL r_v_10 rl_0 (ti_ne c9_v_10) (by decide)
    obtain ⟨v_12, m_v_12, r_v_12⟩ := ((hp_v_10.2.2 c9_v_10).1)
    obtain ⟨v_13, m_v_13, r_v_13⟩ := ((hp_v_10.2.2 c9_v_10).2.1)
    obtain ⟨v_14, m_v_14, r_v_14⟩ := ((hp_v_10.2.2 c9_v_10).2.2.1)
    have x_SNT_p0_gd_1_gh_1_gg := ((hp_v_10.2.2 c9_v_10).2.2.2.1)
    refine lv_if_ne (tgt := 9) hx hb dX10_readOr_4 (by decide) (fun c_4 => ?_) (fun c_4 => ?_)
    · refine lv_aload_n hx hb dX10_readOr_9 rfl (lv_at hl 0 rfl) ?_
      refine tg_mem (ci := 10) (C := RX10) (T := TX10) (N := 49) hx hb hts inX10 hown hK hw 48 m_v_14 rfl (by decide) (hts _ tw_1185) (fun _ h9 => h9) dX10_readOr_10 ?_
      refine lv_istore_n (lv' := [(1, .int v_14), (0, .ref p0)]) hx hb dX10_readOr_13 rfl hl (by decide) rfl (fun ls hl => ?_)
      have x_SNW_p0_gd_1_gh_1_gg_v_14 : (SNL ws p0 (gd+1) (gh+1) (gg) v_14 ∧ gh + 1 ≤ gh+1) := ⟨SNT.top hw x_SNT_p0_gd_1_gh_1_gg m_v_14, by omega⟩
      exact B14 4294967298 v_14 v_12 v_13 v_14 (gh+1) ws _ _ ls (by have d_8 := SNp.le x_SN_p0_gd_gh_gg; omega) r_v_14 r_v_12 m_v_12 r_v_13 m_v_13 r_v_14 m_v_14 x_SNW_p0_gd_1_gh_1_gg_v_14 hw (lv_sub hl [1, 0] rfl)
    · have r_v_10 : RI v_10 1 0 := rc_eq1 r_v_10 rl_0 (ti_eq c_4) (by decide)
      exact (r_v_10.no (by decide)).elim
abbrev wr_X10_readBracket__1 : List (Nat × Nat) := [(10, 5), (10, 6), (10, 7), (10, 8), (10, 9), (10, 10), (10, 11), (10, 12), (10, 13), (10, 45), (10, 46), (10, 47), (10, 48)]
abbrev wa_X10_readBracket__1 : List Nat := [54]
set_option maxHeartbeats 4000000 in
set_option maxRecDepth 100000 in
theorem c_X10_readBracket__1 (l : Launch) (D : va_G) (cy : Nat → ClassId) (z : Nat → Nat) (sz : Nat) (Ps : PSI) (w0 : va_W) (hT : HT cy GG Ps w0) (p0 : Nat) (f0_47 : Int32) (gd : Int) (gh : Int) (gg : Int) (h_p0 : (p0, 55) ∈ Ps) (r_f0_47 : RI f0_47 2 2) (m_f0_47 : FLD w0 p0 10 47 (.int f0_47)) (x_SNI_p0_gd_gh_gg : SNI w0 p0 (gd) (gh) (gg)) : Met l yX10_readBracket (Cond.code yX10_readBracket cX10_readBracket 1 (some .boolean) :: gT) ({ frames := 31, cells := 0, slots := 0, locals := 6200 } : Room) (va_Pc [.ref p0] (PRE D cy z w0 sz)) (va_Qi (fun (r : Int32) (u : va_W) => (RI r 0 1 ∧ (r = 0 → (∃ v9 : Int32, FLD u p0 10 47 (.int v9) ∧ RI v9 2 2) ∧ True) ∧ (¬ r = 0 → (∃ v9 : Int32, FLD u p0 10 46 (.int v9) ∧ RI v9 1 20) ∧ (∃ v9 : Int32, FLD u p0 10 47 (.int v9) ∧ RI v9 2 2) ∧ (∃ v9 : Int32, FLD u p0 10 48 (.int v9) ∧ RI v9 0 39) ∧ SNT u p0 (gd) (gh) (gg) ∧ True)) ∧ HT cy GG Ps u ∧ FR wr_X10_readBracket__1 wa_X10_readBracket__1 Ps w0 u) (BB D cy (va_A w0 sz) (fun (u : va_W) => u)) (va_A w0 sz)) 0 0 (va_A w0 sz) := by
  refine Met.ofW (cc := cX10_readBracket) (maxL := 1) (ret := (some .boolean)) (by decide) rfl ?_
  intro p e s m args below meth c s₁ B hml hv
  obtain ⟨rfl, hsz, hP, hK, hD0, hSD⟩ := hv
  have hx := B.exec
  have hb := B.bytes
  have hr := B.returns
  have hlocks := B.notSynchronized
  have hts : ∀ w ∈ gT, w.before _ s = true := fun w h => atoms_spec (ws := Cond.code yX10_readBracket cX10_readBracket 1 (some .boolean) :: gT) B.pre w (List.mem_cons_of_mem _ h)
  have hown : s.vm.findClass RX10 = some m.cls := findClass_of_methodNamed B.named
  subst hsz
  have hD := hD0.self (sz := s.heap.size)
  generalize hAe : va_A w0 s.heap.size = A at hD hSD ⊢
  have hA : ∀ q : Nat, s.heap.size ≤ q → A q := fun q h => by rw [← hAe]; exact Or.inr h
  have hl := lv_entry ([.ref p0]) (n := 1) (Nat.le_of_ble_eq_true rfl)
  rw [lg_entry_eq]
  generalize (lg_sl ([.ref p0]) ++ List.replicate (1 - (lg_sl ([.ref p0])).length) Slot.unset).toArray = ls at hl ⊢
  have hl : lv_has ls 1 [(0, .ref p0)] := hl
  refine nameQ (fun Q hQ => ?_)
  have hw : WD D cy GG A s wr_X10_readBracket__1 wa_X10_readBracket__1 Ps w0 Ps w0 s.heap [] := ⟨hT, hP, hD, va_S.rf, FR.rf, hT.1, [], (List.append_nil _).symm⟩
  refine lv_aload_n hx hb dX10_readBracket_0 rfl (lv_at hl 0 rfl) ?_
  have d_8 := x_SNI_p0_gd_gh_gg.1
  have x_SN_p0_gd_1_gh_gg : SNp w0 p0 (gd+1) (gh) (gg) := x_SNI_p0_gd_gh_gg.2
  refine tk_i (va_runV (As := []) (rest := []) ⟨hx, hb, hml, hown, hts⟩ (c_X10_readOr__2 l D cy z s.heap.size Ps w0 hw.1 p0 f0_47 (gd+1) (gh) (gg) h_p0 r_f0_47 m_f0_47 x_SN_p0_gd_1_gh_gg) (cwV 0 hts (gV tw_1751 tw_1753 ts_111 tw_15 tw_1754) rfl rfl rfl (by decide +kernel) ⟨Nat.le_of_ble_eq_true rfl, Nat.le_of_ble_eq_true rfl⟩) (tg_preV hw hK hSD hA (ci := 10) (q := (RX10, TX10, 49)) rfl h_p0 rfl) rfl rfl hl.1 rfl (lv_room (Nat.le_of_ble_eq_true rfl)) dX10_readBracket_1 ⟨Nat.le_of_ble_eq_true rfl, Nat.le_of_ble_eq_true rfl⟩) hw hA ⟨by decide, by decide⟩ (fun v_1 ws H locs hp_v_1 hw hF9 => ?_)
  have r_v_1 : RI v_1 0 1 := hp_v_1.1
  by_cases c9_v_1 : v_1 = 0
  · have r_v_1 : RI v_1 0 0 := by rw [c9_v_1]; exact rl_0
    obtain ⟨v_2, m_v_2, r_v_2⟩ := ((hp_v_1.2.1 c9_v_1).1)
    refine lv_if_ne (tgt := 9) hx hb dX10_readBracket_4 (by decide) (fun c_4 => ?_) (fun c_4 => ?_)
    · exact absurd (r_v_1.eq.trans rl_0.eq.symm) ((ti_ne c_4))
    · refine lv_iconst (v := 0) hx hb dX10_readBracket_7 (by decide) ?_
      subst hQ
      exact W.zret (v := 0) hx hb hr (rfl) (fun t ht hW => ⟨⟨0, ws, rfl, ⟨⟨rl_0.to (by decide), (fun h0 => ⟨⟨_, m_v_2, r_v_2⟩, trivial⟩), (fun h0 => absurd rfl h0)⟩, hw.1, hw.2.2.2.2.1⟩, by rw [ht]; exact hw.2.1, va_K.moved hW.alike hK, hw.2.2.1⟩, hw.2.2.2.1.F ht⟩) hw.2.2.2.1.2.2 dX10_readBracket_8
  · have r_v_1 : RI v_1 1 1 := rc_neL r_v_1 rl_0 (ti_ne c9_v_1) (by decide)
    obtain ⟨v_3, m_v_3, r_v_3⟩ := ((hp_v_1.2.2 c9_v_1).1)
    obtain ⟨v_4, m_v_4, r_v_4⟩ := ((hp_v_1.2.2 c9_v_1).2.1)
    obtain ⟨v_5, m_v_5, r_v_5⟩ := ((hp_v_1.2.2 c9_v_1).2.2.1)
    have x_SNT_p0_gd_2_gh_1_gg := ((hp_v_1.2.2 c9_v_1).2.2.2.1)
    refine lv_if_ne (tgt := 9) hx hb dX10_readBracket_4 (by decide) (fun c_4 => ?_) (fun c_4 => ?_)
    · refine lv_aload_n hx hb dX10_readBracket_9 rfl (lv_at hl 0 rfl) ?_
      refine lv_bipush (v := 41) hx hb dX10_readBracket_10 (by decide) ?_
      refine tk_ir (va_runV (As := [.int 41]) (rest := []) ⟨hx, hb, hml, hown, hts⟩ (c_X10_isSign l D cy z H.size Ps ws hw.1 p0 41 h_p0 (rl_41.to (by decide))) (cwV 1 hts (gV tw_1413 tw_1415 ts_63 tw_15 tw_1416) rfl rfl rfl (by decide +kernel) ⟨Nat.le_of_ble_eq_true rfl, Nat.le_of_ble_eq_true rfl⟩) (tg_preV hw hK hSD hA (ci := 10) (q := (RX10, TX10, 49)) rfl h_p0 rfl) rfl rfl hl.1 rfl (lv_room (Nat.le_of_ble_eq_true rfl)) dX10_readBracket_12 ⟨Nat.le_of_ble_eq_true rfl, Nat.le_of_ble_eq_true rfl⟩) hw hA (fun v_6  H locs hp_v_6 hw => ?_)
      have r_v_6 : RI v_6 0 1 := hp_v_6.1
      by_cases c9_v_6 : v_6 = 0
      · have r_v_6 : RI v_6 0 0 := by rw [c9_v_6]; exact rl_0
        refine lv_if_ne (tgt := 24) hx hb dX10_readBracket_15 (by decide) (fun c_15 => ?_) (fun c_15 => ?_)
        · exact absurd (r_v_6.eq.trans rl_0.eq.symm) ((ti_ne c_15))
        · refine lv_aload_n hx hb dX10_readBracket_18 rfl (lv_at hl 0 rfl) ?_
          refine lv_iconst (v := 1) hx hb dX10_readBracket_19 (by decide) ?_
          refine tk_i (va_runV (As := [.int 1]) (rest := []) ⟨hx, hb, hml, hown, hts⟩ (c_X10_bad l D cy z H.size Ps ws hw.1 p0 1 h_p0 (rl_1.to (by decide))) (cwV 1 hts (gV tw_1336 tw_1338 ts_46 tw_15 tw_1339) rfl rfl rfl (by decide +kernel) ⟨Nat.le_of_ble_eq_true rfl, Nat.le_of_ble_eq_true rfl⟩) (tg_preV hw hK hSD hA (ci := 10) (q := (RX10, TX10, 49)) rfl h_p0 rfl) rfl rfl hl.1 rfl (lv_room (Nat.le_of_ble_eq_true rfl)) dX10_readBracket_20 ⟨Nat.le_of_ble_eq_true rfl, Nat.le_of_ble_eq_true rfl⟩) hw hA ⟨by decide, by decide⟩ (fun v_7 ws H locs hp_v_7 hw hF9 => ?_)
          have m_v_3 := FLD.over hF9 m_v_3 (by decide)
          have m_v_4 := FLD.over hF9 m_v_4 (by decide)
          have m_v_5 := FLD.over hF9 m_v_5 (by decide)
          have x_SNT_p0_gd_2_gh_1_gg := SNT.over hF9 x_SNT_p0_gd_2_gh_1_gg (by decide)
          have r_v_7 : RI v_7 0 0 := hp_v_7.1
          subst hQ
          exact W.zret (v := v_7) hx hb hr (tq_nz (r_v_7.to (by decide))) (fun t ht hW => ⟨⟨v_7, ws, rfl, ⟨⟨r_v_7.to (by decide), (fun h0 => ⟨⟨_, m_v_4, r_v_4⟩, trivial⟩), (fun h0 => absurd (Int32.toInt_inj.mp (by have h8 := r_v_7; unfold RI at h8; rw [Int32.toInt_zero]; omega)) h0)⟩, hw.1, hw.2.2.2.2.1⟩, by rw [ht]; exact hw.2.1, va_K.moved hW.alike hK, hw.2.2.1⟩, hw.2.2.2.1.F ht⟩) hw.2.2.2.1.2.2 dX10_readBracket_23
      · have r_v_6 : RI v_6 1 1 := rc_neL r_v_6 rl_0 (ti_ne c9_v_6) (by decide)
        obtain ⟨v_8, m_v_8, r_v_8⟩ := ((hp_v_6.2.2 c9_v_6).1)
        refine lv_if_ne (tgt := 24) hx hb dX10_readBracket_15 (by decide) (fun c_15 => ?_) (fun c_15 => ?_)
        · refine lv_aload_n hx hb dX10_readBracket_24 rfl (lv_at hl 0 rfl) ?_
          refine tk_v (va_runV (As := []) (rest := []) ⟨hx, hb, hml, hown, hts⟩ (c_X10_go l D cy z H.size Ps ws hw.1 p0 h_p0) (cwV 0 hts (gV tw_1298 tw_1300 ts_40 tw_15 tw_1301) rfl rfl rfl (by decide +kernel) ⟨Nat.le_of_ble_eq_true rfl, Nat.le_of_ble_eq_true rfl⟩) (tg_preV hw hK hSD hA (ci := 10) (q := (RX10, TX10, 49)) rfl h_p0 rfl) rfl rfl hl.1 rfl (lv_room (Nat.le_of_ble_eq_true rfl)) dX10_readBracket_25 ⟨Nat.le_of_ble_eq_true rfl, Nat.le_of_ble_eq_true rfl⟩) hw hA ⟨by decide, by decide⟩ (fun ws H locs hp_v_9 hw hF9 => ?_)
          have m_v_3 := FLD.over hF9 m_v_3 (by decide)
          have m_v_4 := FLD.over hF9 m_v_4 (by decide)
          have m_v_5 := FLD.over hF9 m_v_5 (by decide)
          have x_SNT_p0_gd_2_gh_1_gg := SNT.over hF9 x_SNT_p0_gd_2_gh_1_gg (by decide)
          have x_SNT_p0_gd_gh_gg : SNT ws p0 (gd) (gh) (gg) := x_SNT_p0_gd_2_gh_1_gg.weak (by have d_8 := SNp.le x_SNI_p0_gd_gh_gg.2; have d_7 := x_SNI_p0_gd_gh_gg.1; omega)
          refine lv_iconst (v := 1) hx hb dX10_readBracket_28 (by decide) ?_
          subst hQ
          exact W.zret (v := 1) hx hb hr (rfl) (fun t ht hW => ⟨⟨1, ws, rfl, ⟨⟨rl_1.to (by decide), (fun h0 => absurd h0 (by decide)), (fun h0 => ⟨⟨_, m_v_3, r_v_3⟩, ⟨_, m_v_4, r_v_4⟩, ⟨_, m_v_5, r_v_5⟩, x_SNT_p0_gd_gh_gg, trivial⟩)⟩, hw.1, hw.2.2.2.2.1⟩, by rw [ht]; exact hw.2.1, va_K.moved hW.alike hK, hw.2.2.1⟩, hw.2.2.2.1.F ht⟩) hw.2.2.2.1.2.2 dX10_readBracket_29
        · have r_v_6 : RI v_6 1 0 := rc_eq1 r_v_6 rl_0 (ti_eq c_15) (by decide)
          exact (r_v_6.no (by decide)).elim
    · have r_v_1 : RI v_1 1 0 := rc_eq1 r_v_1 rl_0 (ti_eq c_4) (by decide)
      exact (r_v_1.no (by decide)).elim
abbrev wr_X10_readNot__6 : List (Nat × Nat) := [(10, 5), (10, 6), (10, 7), (10, 8), (10, 9), (10, 10), (10, 11), (10, 12), (10, 13), (10, 45), (10, 46), (10, 47), (10, 48)]
abbrev wa_X10_readNot__6 : List Nat := [54]
set_option maxHeartbeats 4000000 in
set_option maxRecDepth 100000 in
theorem c_X10_readNot__6 (l : Launch) (D : va_G) (cy : Nat → ClassId) (z : Nat → Nat) (sz : Nat) (Ps : PSI) (w0 : va_W) (hT : HT cy GG Ps w0) (p0 : Nat) (f0_47 : Int32) (gd : Int) (gh : Int) (gg : Int) (h_p0 : (p0, 55) ∈ Ps) (r_f0_47 : RI f0_47 2 2) (m_f0_47 : FLD w0 p0 10 47 (.int f0_47)) (x_SNI_p0_gd_gh_gg : SNI w0 p0 (gd) (gh) (gg)) : Met l yX10_readNot (Cond.code yX10_readNot cX10_readNot 1 (some .boolean) :: gT) ({ frames := 29, cells := 0, slots := 0, locals := 5800 } : Room) (va_Pc [.ref p0] (PRE D cy z w0 sz)) (va_Qi (fun (r : Int32) (u : va_W) => (RI r 0 1 ∧ (r = 0 → (∃ v9 : Int32, FLD u p0 10 47 (.int v9) ∧ RI v9 2 2) ∧ True) ∧ (¬ r = 0 → (∃ v9 : Int32, FLD u p0 10 46 (.int v9) ∧ RI v9 1 20) ∧ (∃ v9 : Int32, FLD u p0 10 47 (.int v9) ∧ RI v9 2 2) ∧ (∃ v9 : Int32, FLD u p0 10 48 (.int v9) ∧ RI v9 0 39) ∧ SNT u p0 (gd) (gh) (gg) ∧ True)) ∧ HT cy GG Ps u ∧ FR wr_X10_readNot__6 wa_X10_readNot__6 Ps w0 u) (BB D cy (va_A w0 sz) (fun (u : va_W) => u)) (va_A w0 sz)) 0 0 (va_A w0 sz) := by
  refine Met.ofW (cc := cX10_readNot) (maxL := 1) (ret := (some .boolean)) (by decide) rfl ?_
  intro p e s m args below meth c s₁ B hml hv
  obtain ⟨rfl, hsz, hP, hK, hD0, hSD⟩ := hv
  have hx := B.exec
  have hb := B.bytes
  have hr := B.returns
  have hlocks := B.notSynchronized
  have hts : ∀ w ∈ gT, w.before _ s = true := fun w h => atoms_spec (ws := Cond.code yX10_readNot cX10_readNot 1 (some .boolean) :: gT) B.pre w (List.mem_cons_of_mem _ h)
  have hown : s.vm.findClass RX10 = some m.cls := findClass_of_methodNamed B.named
  subst hsz
  have hD := hD0.self (sz := s.heap.size)
  generalize hAe : va_A w0 s.heap.size = A at hD hSD ⊢
  have hA : ∀ q : Nat, s.heap.size ≤ q → A q := fun q h => by rw [← hAe]; exact Or.inr h
  have hl := lv_entry ([.ref p0]) (n := 1) (Nat.le_of_ble_eq_true rfl)
  rw [lg_entry_eq]
  generalize (lg_sl ([.ref p0]) ++ List.replicate (1 - (lg_sl ([.ref p0])).length) Slot.unset).toArray = ls at hl ⊢
  have hl : lv_has ls 1 [(0, .ref p0)] := hl
  refine nameQ (fun Q hQ => ?_)
  have hw : WD D cy GG A s wr_X10_readNot__6 wa_X10_readNot__6 Ps w0 Ps w0 s.heap [] := ⟨hT, hP, hD, va_S.rf, FR.rf, hT.1, [], (List.append_nil _).symm⟩
  refine lv_aload_n hx hb dX10_readNot_0 rfl (lv_at hl 0 rfl) ?_
  have x_SN_p0_gd_1_gh_gg : SNp w0 p0 (gd+1) (gh) (gg) := x_SNI_p0_gd_gh_gg.2
  refine tk_i (va_runV (As := []) (rest := []) ⟨hx, hb, hml, hown, hts⟩ (c_X10_readSaid__2 l D cy z s.heap.size Ps w0 hw.1 p0 f0_47 (gd+1) (gh) (gg) h_p0 r_f0_47 m_f0_47 x_SN_p0_gd_1_gh_gg) (cwV 0 hts (gV tw_1759 tw_1761 ts_113 tw_15 tw_1762) rfl rfl rfl (by decide +kernel) ⟨Nat.le_of_ble_eq_true rfl, Nat.le_of_ble_eq_true rfl⟩) (tg_preV hw hK hSD hA (ci := 10) (q := (RX10, TX10, 49)) rfl h_p0 rfl) rfl rfl hl.1 rfl (lv_room (Nat.le_of_ble_eq_true rfl)) dX10_readNot_1 ⟨Nat.le_of_ble_eq_true rfl, Nat.le_of_ble_eq_true rfl⟩) hw hA ⟨by decide, by decide⟩ (fun v_1 ws H locs hp_v_1 hw hF9 => ?_)
  have r_v_1 : RI v_1 0 1 := hp_v_1.1
  by_cases c9_v_1 : v_1 = 0
  · have r_v_1 : RI v_1 0 0 := by rw [c9_v_1]; exact rl_0
    obtain ⟨v_2, m_v_2, r_v_2⟩ := ((hp_v_1.2.1 c9_v_1).1)
    refine lv_if_ne (tgt := 9) hx hb dX10_readNot_4 (by decide) (fun c_4 => ?_) (fun c_4 => ?_)
    · exact absurd (r_v_1.eq.trans rl_0.eq.symm) ((ti_ne c_4))
    · refine lv_iconst (v := 0) hx hb dX10_readNot_7 (by decide) ?_
      subst hQ
      exact W.zret (v := 0) hx hb hr (rfl) (fun t ht hW => ⟨⟨0, ws, rfl, ⟨⟨rl_0.to (by decide), (fun h0 => ⟨⟨_, m_v_2, r_v_2⟩, trivial⟩), (fun h0 => absurd rfl h0)⟩, hw.1, hw.2.2.2.2.1⟩, by rw [ht]; exact hw.2.1, va_K.moved hW.alike hK, hw.2.2.1⟩, hw.2.2.2.1.F ht⟩) hw.2.2.2.1.2.2 dX10_readNot_8
  · have r_v_1 : RI v_1 1 1 := rc_neL r_v_1 rl_0 (ti_ne c9_v_1) (by decide)
    obtain ⟨v_3, m_v_3, r_v_3⟩ := ((hp_v_1.2.2 c9_v_1).1)
    obtain ⟨v_4, m_v_4, r_v_4⟩ := ((hp_v_1.2.2 c9_v_1).2.1)
    obtain ⟨v_5, m_v_5, r_v_5⟩ := ((hp_v_1.2.2 c9_v_1).2.2.1)
    have x_SNT_p0_gd_2_gh_1_gg := ((hp_v_1.2.2 c9_v_1).2.2.2.1)
    refine lv_if_ne (tgt := 9) hx hb dX10_readNot_4 (by decide) (fun c_4 => ?_) (fun c_4 => ?_)
    · refine lv_aload_n hx hb dX10_readNot_9 rfl (lv_at hl 0 rfl) ?_
      refine lv_aload_n hx hb dX10_readNot_10 rfl (lv_at hl 0 rfl) ?_
      refine lv_iconst (v := 1) hx hb dX10_readNot_11 (by decide) ?_
      refine lv_aload_n hx hb dX10_readNot_12 rfl (lv_at hl 0 rfl) ?_
      refine tg_mem (ci := 10) (C := RX10) (T := TX10) (N := 49) hx hb hts inX10 hown hK hw 48 m_v_4 rfl (by decide) (hts _ tw_1185) (fun _ h9 => h9) dX10_readNot_13 ?_
      refine lv_iconst (v := 0) hx hb dX10_readNot_16 (by decide) ?_
      refine lv_iconst (v := 0) hx hb dX10_readNot_17 (by decide) ?_
      have l9 := SNT.top hw x_SNT_p0_gd_2_gh_1_gg m_v_4
      have l8 := l9.le
      have x_SNI_p0_gd_1_gh_1_gg : SNI ws p0 (gd+1) (gh+1) (gg) := SNp.sni (SNT.sn x_SNT_p0_gd_2_gh_1_gg) (by have d_8 := SNp.le x_SNI_p0_gd_gh_gg.2; have d_7 := x_SNI_p0_gd_gh_gg.1; omega)
      have x_LTN_p0_v_4 : LTN ws p0 (v_4) := l9.ltn
      refine tk_i (va_runV (As := [.int 1, .int v_4, .int 0, .int 0]) (rest := [.ref p0]) ⟨hx, hb, hml, hown, hts⟩ (c_X10_saysOne__2 l D cy z H.size Ps ws hw.1 p0 1 v_4 0 0 (gd+1) (gh+1) (gg) h_p0 rl_1 (r_v_4.to (by decide)) (rl_0.to (by decide)) (rl_0.to (by decide)) x_SNI_p0_gd_1_gh_1_gg x_LTN_p0_v_4) (cwV 4 hts (gV tw_1771 tw_1773 ts_116 tw_15 tw_1774) rfl rfl rfl (by decide +kernel) ⟨Nat.le_of_ble_eq_true rfl, Nat.le_of_ble_eq_true rfl⟩) (tg_preV hw hK hSD hA (ci := 10) (q := (RX10, TX10, 49)) rfl h_p0 rfl) rfl rfl hl.1 rfl (lv_room (Nat.le_of_ble_eq_true rfl)) dX10_readNot_18 ⟨Nat.le_of_ble_eq_true rfl, Nat.le_of_ble_eq_true rfl⟩) hw hA ⟨by decide, by decide⟩ (fun v_6 ws H locs hp_v_6 hw hF9 => ?_)
      have m_v_3 := FLD.over hF9 m_v_3 (by decide)
      have m_v_4 := FLD.over hF9 m_v_4 (by decide)
      have m_v_5 := FLD.over hF9 m_v_5 (by decide)
      have r_v_6 : RI v_6 0 39 := hp_v_6.1
      have x_SNL_p0_gd_1_gh_1_gg_v_6 := hp_v_6.2.2.2.1.1
      refine tg_put (ci := 10) (ts := ty_MODEL) (v := .int v_6) (ty := .int) (C := RX10) (T := TX10) (N := 49) hx hb hts inX10 tyX10 tyX10_ok nmX10 hown hK hw h_p0 rfl rfl 48 (by decide) (hts _ tw_1185) (fun _ h9 => h9) rfl (by decide +kernel) rfl rfl (ft := vI (-2147483648) 2147483647) rfl ⟨_, rfl, (r_v_6.to (by decide))⟩ (by decide) dX10_readNot_21 (fun ws H locs hw n_k_7 hF9 => ?_)
      have m_v_3 := FLD.over hF9 m_v_3 (by decide)
      have m_v_5 := FLD.over hF9 m_v_5 (by decide)
      have x_SNL_p0_gd_1_gh_1_gg_v_6 := SNL.over hF9 x_SNL_p0_gd_1_gh_1_gg_v_6 (by decide)
      have x_SNT_p0_gd_gh_gg : SNT ws p0 (gd) (gh) (gg) := (x_SNL_p0_gd_1_gh_1_gg_v_6.weak (d' := gd) (h' := gh) (g' := gg) (by have k1 := x_SNL_p0_gd_1_gh_1_gg_v_6.le; have d_8 := SNp.le x_SNI_p0_gd_gh_gg.2; have d_7 := x_SNI_p0_gd_gh_gg.1; omega)).snt n_k_7
      refine lv_iconst (v := 1) hx hb dX10_readNot_24 (by decide) ?_
      subst hQ
      exact W.zret (v := 1) hx hb hr (rfl) (fun t ht hW => ⟨⟨1, ws, rfl, ⟨⟨rl_1.to (by decide), (fun h0 => absurd h0 (by decide)), (fun h0 => ⟨⟨_, m_v_3, r_v_3⟩, ⟨_, m_v_5, r_v_5⟩, ⟨_, n_k_7, r_v_6⟩, x_SNT_p0_gd_gh_gg, trivial⟩)⟩, hw.1, hw.2.2.2.2.1⟩, by rw [ht]; exact hw.2.1, va_K.moved hW.alike hK, hw.2.2.1⟩, hw.2.2.2.1.F ht⟩) hw.2.2.2.1.2.2 dX10_readNot_25
    · have r_v_1 : RI v_1 1 0 := rc_eq1 r_v_1 rl_0 (ti_eq c_4) (by decide)
      exact (r_v_1.no (by decide)).elim
abbrev wr_X10_readSaid__1 : List (Nat × Nat) := [(10, 5), (10, 6), (10, 7), (10, 8), (10, 9), (10, 10), (10, 11), (10, 12), (10, 13), (10, 45), (10, 46), (10, 47), (10, 48)]
abbrev wa_X10_readSaid__1 : List Nat := [54]
set_option maxHeartbeats 4000000 in
set_option maxRecDepth 100000 in
theorem c_X10_readSaid__1 (l : Launch) (D : va_G) (cy : Nat → ClassId) (z : Nat → Nat) (sz : Nat) (Ps : PSI) (w0 : va_W) (hT : HT cy GG Ps w0) (p0 : Nat) (f0_47 : Int32) (gd : Int) (gh : Int) (gg : Int) (h_p0 : (p0, 55) ∈ Ps) (r_f0_47 : RI f0_47 1 1) (m_f0_47 : FLD w0 p0 10 47 (.int f0_47)) (x_SN_p0_gd_gh_gg : SNp w0 p0 (gd) (gh) (gg)) : Met l yX10_readSaid (Cond.code yX10_readSaid cX10_readSaid 4 (some .boolean) :: gT) ({ frames := 32, cells := 0, slots := 0, locals := 6400 } : Room) (va_Pc [.ref p0] (PRE D cy z w0 sz)) (va_Qi (fun (r : Int32) (u : va_W) => (RI r 0 1 ∧ (r = 0 → (∃ v9 : Int32, FLD u p0 10 47 (.int v9) ∧ RI v9 1 1) ∧ True) ∧ (¬ r = 0 → (∃ v9 : Int32, FLD u p0 10 46 (.int v9) ∧ RI v9 1 20) ∧ (∃ v9 : Int32, FLD u p0 10 48 (.int v9) ∧ RI v9 0 39) ∧ (∃ v9 : Int32, FLD u p0 10 47 (.int v9) ∧ RI v9 1 1) ∧ SNT u p0 (gd+1) (gh+1) (gg) ∧ True)) ∧ HT cy GG Ps u ∧ FR wr_X10_readSaid__1 wa_X10_readSaid__1 Ps w0 u) (BB D cy (va_A w0 sz) (fun (u : va_W) => u)) (va_A w0 sz)) 0 0 (va_A w0 sz) := by
  refine Met.ofW (cc := cX10_readSaid) (maxL := 4) (ret := (some .boolean)) (by decide) rfl ?_
  intro p e s m args below meth c s₁ B hml hv
  obtain ⟨rfl, hsz, hP, hK, hD0, hSD⟩ := hv
  have hx := B.exec
  have hb := B.bytes
  have hr := B.returns
  have hlocks := B.notSynchronized
  have hts : ∀ w ∈ gT, w.before _ s = true := fun w h => atoms_spec (ws := Cond.code yX10_readSaid cX10_readSaid 4 (some .boolean) :: gT) B.pre w (List.mem_cons_of_mem _ h)
  have hown : s.vm.findClass RX10 = some m.cls := findClass_of_methodNamed B.named
  subst hsz
  have hD := hD0.self (sz := s.heap.size)
  generalize hAe : va_A w0 s.heap.size = A at hD hSD ⊢
  have hA : ∀ q : Nat, s.heap.size ≤ q → A q := fun q h => by rw [← hAe]; exact Or.inr h
  have hl := lv_entry ([.ref p0]) (n := 4) (Nat.le_of_ble_eq_true rfl)
  rw [lg_entry_eq]
  generalize (lg_sl ([.ref p0]) ++ List.replicate (4 - (lg_sl ([.ref p0])).length) Slot.unset).toArray = ls at hl ⊢
  have hl : lv_has ls 4 [(0, .ref p0)] := hl
  refine nameQ (fun Q hQ => ?_)
  have hw : WD D cy GG A s wr_X10_readSaid__1 wa_X10_readSaid__1 Ps w0 Ps w0 s.heap [] := ⟨hT, hP, hD, va_S.rf, FR.rf, hT.1, [], (List.append_nil _).symm⟩
  have B30 : ∀ (x1 : Int32) (x2 : Int32) (z0_47 : Int32) (ws : va_W) (H : Heap) (locs : List Loc) (ls : Array Slot), RI x1 0 1 → RI x2 18 28 → RI z0_47 1 1 → FLD ws p0 10 47 (.int z0_47) → SNp ws p0 (gd) (gh) (gg) → WD D cy GG A s wr_X10_readSaid__1 wa_X10_readSaid__1 Ps w0 Ps ws H locs → lv_has ls 4 [(0, .ref p0), (1, .int x1), (2, .int x2)] → W p l e (headSpec (Cond.code yX10_readSaid cX10_readSaid 4 (some .boolean) :: gT) ({ frames := 32, cells := 0, slots := 0, locals := 6400 } : Room)).room s m ([.ref p0] : List Value).toArray below meth c H locs 0 0 Q (F0 m 30 ls []) := by
    intro x1 x2 z0_47 ws H locs ls r_x1 r_x2 r_z0_47 m_z0_47 x_SN_p0_gd_gh_gg hw hl
    refine lv_iload_n hx hb dX10_readSaid_30 rfl (lv_at hl 1 rfl) ?_
    refine lv_if_ne (tgt := 46) hx hb dX10_readSaid_31 (by decide) (fun c_31 => ?_) (fun c_31 => ?_)
    · have r_x1 : RI x1 1 1 := rc_neL r_x1 rl_0 (ti_ne c_31) (by decide)
      refine lv_aload_n hx hb dX10_readSaid_46 rfl (lv_at hl 0 rfl) ?_
      refine tg_get (ci := 10) (ts := ty_MODEL) (C := RX10) (T := TX10) (N := 49) hx hb hts inX10 hown hK hw h_p0 rfl rfl 46 (by decide) (hts _ tw_1183) (fun _ h9 => h9) (ft := vI (-2147483648) 2147483647) rfl dX10_readSaid_47 (fun u_1 hv_u_1 m_u_1 => ?_)
      obtain ⟨vu_1, rfl, r_vu_1⟩ := hv_u_1
      obtain ⟨n9, hn9, rn9, r_vu_1, b9⟩ := SNp.getO hw x_SN_p0_gd_gh_gg m_u_1
      refine lv_bipush (v := 20) hx hb dX10_readSaid_50 (by decide) ?_
      refine lv_icmp_eq (tgt := 64) hx hb dX10_readSaid_52 (by decide) (fun c_52 => ?_) (fun c_52 => ?_)
      · have r_vu_1 : RI vu_1 20 20 := rc_eq1 r_vu_1 rl_20 (ti_eq c_52) (by decide)
        refine lv_aload_n hx hb dX10_readSaid_64 rfl (lv_at hl 0 rfl) ?_
        refine lv_iconst (v := 4) hx hb dX10_readSaid_65 (by decide) ?_
        refine tk_i (va_runV (As := [.int 4]) (rest := []) ⟨hx, hb, hml, hown, hts⟩ (c_X10_bad l D cy z H.size Ps ws hw.1 p0 4 h_p0 (rl_4.to (by decide))) (cwV 1 hts (gV tw_1336 tw_1338 ts_46 tw_15 tw_1339) rfl rfl rfl (by decide +kernel) ⟨Nat.le_of_ble_eq_true rfl, Nat.le_of_ble_eq_true rfl⟩) (tg_preV hw hK hSD hA (ci := 10) (q := (RX10, TX10, 49)) rfl h_p0 rfl) rfl rfl hl.1 rfl (lv_room (Nat.le_of_ble_eq_true rfl)) dX10_readSaid_66 ⟨Nat.le_of_ble_eq_true rfl, Nat.le_of_ble_eq_true rfl⟩) hw hA ⟨by decide, by decide⟩ (fun v_2 ws H locs hp_v_2 hw hF9 => ?_)
        have m_z0_47 := FLD.over hF9 m_z0_47 (by decide)
        have m_u_1 := FLD.over hF9 m_u_1 (by decide)
        have hn9 := FLD.over hF9 hn9 (by decide)
        have x_SN_p0_gd_gh_gg := SNp.over hF9 x_SN_p0_gd_gh_gg (by decide)
        have r_v_2 : RI v_2 0 0 := hp_v_2.1
        subst hQ
        exact W.zret (v := v_2) hx hb hr (tq_nz (r_v_2.to (by decide))) (fun t ht hW => ⟨⟨v_2, ws, rfl, ⟨⟨r_v_2.to (by decide), (fun h0 => ⟨⟨_, m_z0_47, r_z0_47⟩, trivial⟩), (fun h0 => absurd (Int32.toInt_inj.mp (by have h8 := r_v_2; unfold RI at h8; rw [Int32.toInt_zero]; omega)) h0)⟩, hw.1, hw.2.2.2.2.1⟩, by rw [ht]; exact hw.2.1, va_K.moved hW.alike hK, hw.2.2.1⟩, hw.2.2.2.1.F ht⟩) hw.2.2.2.1.2.2 dX10_readSaid_69
      · have r_vu_1 : RI vu_1 0 19 := rc_neU r_vu_1 rl_20 (ti_ne c_52) (by decide)
        refine lv_aload_n hx hb dX10_readSaid_55 rfl (lv_at hl 0 rfl) ?_
        refine tg_mem (ci := 10) (C := RX10) (T := TX10) (N := 49) hx hb hts inX10 hown hK hw 47 m_z0_47 rfl (by decide) (hts _ tw_1184) (fun _ h9 => h9) dX10_readSaid_56 ?_
        refine lv_bipush (v := 8) hx hb dX10_readSaid_59 (by decide) ?_
        refine lv_icmp_ne (tgt := 70) hx hb dX10_readSaid_61 (by decide) (fun c_61 => ?_) (fun c_61 => ?_)
        · refine lv_aload_n hx hb dX10_readSaid_70 rfl (lv_at hl 0 rfl) ?_
          refine lv_dup hx hb dX10_readSaid_71 rfl ?_
          refine tg_mem (ci := 10) (C := RX10) (T := TX10) (N := 49) hx hb hts inX10 hown hK hw 46 m_u_1 rfl (by decide) (hts _ tw_1183) (fun _ h9 => h9) dX10_readSaid_72 ?_
          refine lv_iconst (v := 1) hx hb dX10_readSaid_75 (by decide) ?_
          refine lv_iadd hx hb dX10_readSaid_76 (lv_topi (fun v_3 e_v_3 => ?_))
          obtain ⟨t_v_3, r_v_3⟩ := tq_add (lo := 1) (hi := 20) r_vu_1 rl_1 (by decide +kernel) e_v_3
          have t_v_3 : v_3.toInt = vu_1.toInt + 1 := t_v_3
          refine tg_put (ci := 10) (ts := ty_MODEL) (v := .int v_3) (ty := .int) (C := RX10) (T := TX10) (N := 49) hx hb hts inX10 tyX10 tyX10_ok nmX10 hown hK hw h_p0 rfl rfl 46 (by decide) (hts _ tw_1183) (fun _ h9 => h9) rfl (by decide +kernel) rfl rfl (ft := vI (-2147483648) 2147483647) rfl ⟨_, rfl, (r_v_3.to (by decide))⟩ (by decide) dX10_readSaid_77 (fun ws H locs hw n_k_4 hF9 => ?_)
          have m_z0_47 := FLD.over hF9 m_z0_47 (by decide)
          have hn9 := FLD.over hF9 hn9 (by decide)
          have x_SNI_p0_gd_1_gh_1_gg : SNI ws p0 (gd+1) (gh+1) (gg) := ⟨by omega, _, _, hn9, n_k_4, by have k1 := rn9.1; have k2 := r_v_3.2; omega⟩
          refine lv_aload_n hx hb dX10_readSaid_80 rfl (lv_at hl 0 rfl) ?_
          refine lv_dup hx hb dX10_readSaid_81 rfl ?_
          refine tg_mem (ci := 10) (C := RX10) (T := TX10) (N := 49) hx hb hts inX10 hown hK hw 47 m_z0_47 rfl (by decide) (hts _ tw_1184) (fun _ h9 => h9) dX10_readSaid_82 ?_
          refine lv_iconst (v := 1) hx hb dX10_readSaid_85 (by decide) ?_
          refine lv_iadd hx hb dX10_readSaid_86 (lv_topi (fun v_5 e_v_5 => ?_))
          obtain ⟨t_v_5, r_v_5⟩ := tq_add (lo := 2) (hi := 2) r_z0_47 rl_1 (by decide +kernel) e_v_5
          have t_v_5 : v_5.toInt = z0_47.toInt + 1 := t_v_5
          refine tg_put (ci := 10) (ts := ty_MODEL) (v := .int v_5) (ty := .int) (C := RX10) (T := TX10) (N := 49) hx hb hts inX10 tyX10 tyX10_ok nmX10 hown hK hw h_p0 rfl rfl 47 (by decide) (hts _ tw_1184) (fun _ h9 => h9) rfl (by decide +kernel) rfl rfl (ft := vI (-2147483648) 2147483647) rfl ⟨_, rfl, (r_v_5.to (by decide))⟩ (by decide) dX10_readSaid_87 (fun ws H locs hw n_k_6 hF9 => ?_)
          have hn9 := FLD.over hF9 hn9 (by decide)
          have n_k_4 := FLD.over hF9 n_k_4 (by decide)
          have x_SNI_p0_gd_1_gh_1_gg := SNI.over hF9 x_SNI_p0_gd_1_gh_1_gg (by decide)
          refine lv_aload_n hx hb dX10_readSaid_90 rfl (lv_at hl 0 rfl) ?_
          refine tk_v (va_runV (As := []) (rest := []) ⟨hx, hb, hml, hown, hts⟩ (c_X10_go l D cy z H.size Ps ws hw.1 p0 h_p0) (cwV 0 hts (gV tw_1298 tw_1300 ts_40 tw_15 tw_1301) rfl rfl rfl (by decide +kernel) ⟨Nat.le_of_ble_eq_true rfl, Nat.le_of_ble_eq_true rfl⟩) (tg_preV hw hK hSD hA (ci := 10) (q := (RX10, TX10, 49)) rfl h_p0 rfl) rfl rfl hl.1 rfl (lv_room (Nat.le_of_ble_eq_true rfl)) dX10_readSaid_91 ⟨Nat.le_of_ble_eq_true rfl, Nat.le_of_ble_eq_true rfl⟩) hw hA ⟨by decide, by decide⟩ (fun ws H locs hp_v_7 hw hF9 => ?_)
          have hn9 := FLD.over hF9 hn9 (by decide)
          have n_k_4 := FLD.over hF9 n_k_4 (by decide)
          have n_k_6 := FLD.over hF9 n_k_6 (by decide)
          have x_SNI_p0_gd_1_gh_1_gg := SNI.over hF9 x_SNI_p0_gd_1_gh_1_gg (by decide)
          refine lv_iconst (v := 1) hx hb dX10_readSaid_94 (by decide) ?_
          refine lv_istore_n (lv' := [(3, .int 1), (0, .ref p0), (1, .int x1), (2, .int x2)]) hx hb dX10_readSaid_95 rfl hl (by decide) rfl (fun ls hl => ?_)
          refine lv_iload_n hx hb dX10_readSaid_96 rfl (lv_at hl 2 rfl) ?_
          refine lv_if_eq (tgt := 108) hx hb dX10_readSaid_97 (by decide) (fun c_97 => ?_) (fun c_97 => ?_)
          · have r_x1 : RI x1 1 0 := rc_eq1 r_x1 rl_0 (ti_eq c_97) (by decide)
            exact (r_x1.no (by decide)).elim
          · refine lv_aload_n hx hb dX10_readSaid_100 rfl (lv_at hl 1 rfl) ?_
            refine tk_i (va_runV (As := []) (rest := []) ⟨hx, hb, hml, hown, hts⟩ (c_X10_readBracket__1 l D cy z H.size Ps ws hw.1 p0 v_5 (gd+1) (gh+1) (gg) h_p0 r_v_5 n_k_6 x_SNI_p0_gd_1_gh_1_gg) (cwV 0 hts (gV tw_1763 tw_1765 ts_114 tw_15 tw_1766) rfl rfl rfl (by decide +kernel) ⟨Nat.le_of_ble_eq_true rfl, Nat.le_of_ble_eq_true rfl⟩) (tg_preV hw hK hSD hA (ci := 10) (q := (RX10, TX10, 49)) rfl h_p0 rfl) rfl rfl hl.1 rfl (lv_room (Nat.le_of_ble_eq_true rfl)) dX10_readSaid_101 ⟨Nat.le_of_ble_eq_true rfl, Nat.le_of_ble_eq_true rfl⟩) hw hA ⟨by decide, by decide⟩ (fun v_8 ws H locs hp_v_8 hw hF9 => ?_)
            have r_v_8 : RI v_8 0 1 := hp_v_8.1
            by_cases c9_v_8 : v_8 = 0
            · have r_v_8 : RI v_8 0 0 := by rw [c9_v_8]; exact rl_0
              obtain ⟨v_9, m_v_9, r_v_9⟩ := ((hp_v_8.2.1 c9_v_8).1)
              refine lv_istore_n (lv' := [(3, .int v_8), (0, .ref p0), (1, .int x1), (2, .int x2)]) hx hb dX10_readSaid_104 rfl hl (by decide) rfl (fun ls hl => ?_)
              refine lv_goto (tgt := 166) hx hb dX10_readSaid_105 (by decide) ?_
              refine lv_aload_n hx hb dX10_readSaid_166 rfl (lv_at hl 1 rfl) ?_
              refine lv_dup hx hb dX10_readSaid_167 rfl ?_
              refine tg_mem (ci := 10) (C := RX10) (T := TX10) (N := 49) hx hb hts inX10 hown hK hw 47 m_v_9 rfl (by decide) (hts _ tw_1184) (fun _ h9 => h9) dX10_readSaid_168 ?_
              refine lv_iconst (v := 1) hx hb dX10_readSaid_171 (by decide) ?_
              refine lv_isub hx hb dX10_readSaid_172 (lv_topi (fun v_10 e_v_10 => ?_))
              obtain ⟨t_v_10, r_v_10⟩ := tq_sub (lo := 1) (hi := 1) r_v_9 rl_1 (by decide +kernel) e_v_10
              have t_v_10 : v_10.toInt = v_9.toInt - 1 := t_v_10
              refine tg_put (ci := 10) (ts := ty_MODEL) (v := .int v_10) (ty := .int) (C := RX10) (T := TX10) (N := 49) hx hb hts inX10 tyX10 tyX10_ok nmX10 hown hK hw h_p0 rfl rfl 47 (by decide) (hts _ tw_1184) (fun _ h9 => h9) rfl (by decide +kernel) rfl rfl (ft := vI (-2147483648) 2147483647) rfl ⟨_, rfl, (r_v_10.to (by decide))⟩ (by decide) dX10_readSaid_173 (fun ws H locs hw n_k_11 hF9 => ?_)
              refine lv_iload_n hx hb dX10_readSaid_176 rfl (lv_at hl 0 rfl) ?_
              subst hQ
              exact W.zret (v := v_8) hx hb hr (tq_nz (r_v_8.to (by decide))) (fun t ht hW => ⟨⟨v_8, ws, rfl, ⟨⟨r_v_8.to (by decide), (fun h0 => ⟨⟨_, n_k_11, r_v_10⟩, trivial⟩), (fun h0 => absurd (Int32.toInt_inj.mp (by have h8 := r_v_8; unfold RI at h8; rw [Int32.toInt_zero]; omega)) h0)⟩, hw.1, hw.2.2.2.2.1⟩, by rw [ht]; exact hw.2.1, va_K.moved hW.alike hK, hw.2.2.1⟩, hw.2.2.2.1.F ht⟩) hw.2.2.2.1.2.2 dX10_readSaid_177
            · have r_v_8 : RI v_8 1 1 := rc_neL r_v_8 rl_0 (ti_ne c9_v_8) (by decide)
              obtain ⟨v_12, m_v_12, r_v_12⟩ := ((hp_v_8.2.2 c9_v_8).1)
              obtain ⟨v_13, m_v_13, r_v_13⟩ := ((hp_v_8.2.2 c9_v_8).2.1)
              obtain ⟨v_14, m_v_14, r_v_14⟩ := ((hp_v_8.2.2 c9_v_8).2.2.1)
              have x_SNT_p0_gd_1_gh_1_gg := ((hp_v_8.2.2 c9_v_8).2.2.2.1)
              refine lv_istore_n (lv' := [(3, .int v_8), (0, .ref p0), (1, .int x1), (2, .int x2)]) hx hb dX10_readSaid_104 rfl hl (by decide) rfl (fun ls hl => ?_)
              refine lv_goto (tgt := 166) hx hb dX10_readSaid_105 (by decide) ?_
              refine lv_aload_n hx hb dX10_readSaid_166 rfl (lv_at hl 1 rfl) ?_
              refine lv_dup hx hb dX10_readSaid_167 rfl ?_
              refine tg_mem (ci := 10) (C := RX10) (T := TX10) (N := 49) hx hb hts inX10 hown hK hw 47 m_v_13 rfl (by decide) (hts _ tw_1184) (fun _ h9 => h9) dX10_readSaid_168 ?_
              refine lv_iconst (v := 1) hx hb dX10_readSaid_171 (by decide) ?_
              refine lv_isub hx hb dX10_readSaid_172 (lv_topi (fun v_15 e_v_15 => ?_))
              obtain ⟨t_v_15, r_v_15⟩ := tq_sub (lo := 1) (hi := 1) r_v_13 rl_1 (by decide +kernel) e_v_15
              have t_v_15 : v_15.toInt = v_13.toInt - 1 := t_v_15
              refine tg_put (ci := 10) (ts := ty_MODEL) (v := .int v_15) (ty := .int) (C := RX10) (T := TX10) (N := 49) hx hb hts inX10 tyX10 tyX10_ok nmX10 hown hK hw h_p0 rfl rfl 47 (by decide) (hts _ tw_1184) (fun _ h9 => h9) rfl (by decide +kernel) rfl rfl (ft := vI (-2147483648) 2147483647) rfl ⟨_, rfl, (r_v_15.to (by decide))⟩ (by decide) dX10_readSaid_173 (fun ws H locs hw n_k_16 hF9 => ?_)
              have m_v_12 := FLD.over hF9 m_v_12 (by decide)
              have m_v_14 := FLD.over hF9 m_v_14 (by decide)
              have x_SNT_p0_gd_1_gh_1_gg := SNT.over hF9 x_SNT_p0_gd_1_gh_1_gg (by decide)
              refine lv_iload_n hx hb dX10_readSaid_176 rfl (lv_at hl 0 rfl) ?_
              subst hQ
              exact W.zret (v := v_8) hx hb hr (tq_nz (r_v_8.to (by decide))) (fun t ht hW => ⟨⟨v_8, ws, rfl, ⟨⟨r_v_8.to (by decide), (fun h0 => absurd (ti_eq h0) (by have h8 := r_v_8; unfold RI at h8; rw [Int32.toInt_zero]; omega)), (fun h0 => ⟨⟨_, m_v_12, r_v_12⟩, ⟨_, m_v_14, r_v_14⟩, ⟨_, n_k_16, r_v_15⟩, x_SNT_p0_gd_1_gh_1_gg, trivial⟩)⟩, hw.1, hw.2.2.2.2.1⟩, by rw [ht]; exact hw.2.1, va_K.moved hW.alike hK, hw.2.2.1⟩, hw.2.2.2.1.F ht⟩) hw.2.2.2.1.2.2 dX10_readSaid_177
        · have r_z0_47 : RI z0_47 8 1 := rc_eq1 r_z0_47 rl_8 (ti_eq c_61) (by decide)
          exact (r_z0_47.no (by decide)).elim
    · have r_x1 : RI x1 0 0 := rc_eq1 r_x1 rl_0 (ti_eq c_31) (by decide)
      refine lv_iload_n hx hb dX10_readSaid_34 rfl (lv_at hl 2 rfl) ?_
      refine lv_bipush (v := 27) hx hb dX10_readSaid_35 (by decide) ?_
      refine lv_icmp_le (tgt := 46) hx hb dX10_readSaid_37 (by decide) (fun c_37 => ?_) (fun c_37 => ?_)
      · have r_x2 : RI x2 18 27 := rc_le1 r_x2 rl_27 (ti_le c_37) (by decide)
        refine lv_aload_n hx hb dX10_readSaid_46 rfl (lv_at hl 0 rfl) ?_
        refine tg_get (ci := 10) (ts := ty_MODEL) (C := RX10) (T := TX10) (N := 49) hx hb hts inX10 hown hK hw h_p0 rfl rfl 46 (by decide) (hts _ tw_1183) (fun _ h9 => h9) (ft := vI (-2147483648) 2147483647) rfl dX10_readSaid_47 (fun u_17 hv_u_17 m_u_17 => ?_)
        obtain ⟨vu_17, rfl, r_vu_17⟩ := hv_u_17
        obtain ⟨n9, hn9, rn9, r_vu_17, b9⟩ := SNp.getO hw x_SN_p0_gd_gh_gg m_u_17
        refine lv_bipush (v := 20) hx hb dX10_readSaid_50 (by decide) ?_
        refine lv_icmp_eq (tgt := 64) hx hb dX10_readSaid_52 (by decide) (fun c_52 => ?_) (fun c_52 => ?_)
        · have r_vu_17 : RI vu_17 20 20 := rc_eq1 r_vu_17 rl_20 (ti_eq c_52) (by decide)
          refine lv_aload_n hx hb dX10_readSaid_64 rfl (lv_at hl 0 rfl) ?_
          refine lv_iconst (v := 4) hx hb dX10_readSaid_65 (by decide) ?_
          refine tk_i (va_runV (As := [.int 4]) (rest := []) ⟨hx, hb, hml, hown, hts⟩ (c_X10_bad l D cy z H.size Ps ws hw.1 p0 4 h_p0 (rl_4.to (by decide))) (cwV 1 hts (gV tw_1336 tw_1338 ts_46 tw_15 tw_1339) rfl rfl rfl (by decide +kernel) ⟨Nat.le_of_ble_eq_true rfl, Nat.le_of_ble_eq_true rfl⟩) (tg_preV hw hK hSD hA (ci := 10) (q := (RX10, TX10, 49)) rfl h_p0 rfl) rfl rfl hl.1 rfl (lv_room (Nat.le_of_ble_eq_true rfl)) dX10_readSaid_66 ⟨Nat.le_of_ble_eq_true rfl, Nat.le_of_ble_eq_true rfl⟩) hw hA ⟨by decide, by decide⟩ (fun v_18 ws H locs hp_v_18 hw hF9 => ?_)
          have m_z0_47 := FLD.over hF9 m_z0_47 (by decide)
          have m_u_17 := FLD.over hF9 m_u_17 (by decide)
          have hn9 := FLD.over hF9 hn9 (by decide)
          have x_SN_p0_gd_gh_gg := SNp.over hF9 x_SN_p0_gd_gh_gg (by decide)
          have r_v_18 : RI v_18 0 0 := hp_v_18.1
          subst hQ
          exact W.zret (v := v_18) hx hb hr (tq_nz (r_v_18.to (by decide))) (fun t ht hW => ⟨⟨v_18, ws, rfl, ⟨⟨r_v_18.to (by decide), (fun h0 => ⟨⟨_, m_z0_47, r_z0_47⟩, trivial⟩), (fun h0 => absurd (Int32.toInt_inj.mp (by have h8 := r_v_18; unfold RI at h8; rw [Int32.toInt_zero]; omega)) h0)⟩, hw.1, hw.2.2.2.2.1⟩, by rw [ht]; exact hw.2.1, va_K.moved hW.alike hK, hw.2.2.1⟩, hw.2.2.2.1.F ht⟩) hw.2.2.2.1.2.2 dX10_readSaid_69
        · have r_vu_17 : RI vu_17 0 19 := rc_neU r_vu_17 rl_20 (ti_ne c_52) (by decide)
          refine lv_aload_n hx hb dX10_readSaid_55 rfl (lv_at hl 0 rfl) ?_
          refine tg_mem (ci := 10) (C := RX10) (T := TX10) (N := 49) hx hb hts inX10 hown hK hw 47 m_z0_47 rfl (by decide) (hts _ tw_1184) (fun _ h9 => h9) dX10_readSaid_56 ?_
          refine lv_bipush (v := 8) hx hb dX10_readSaid_59 (by decide) ?_
          refine lv_icmp_ne (tgt := 70) hx hb dX10_readSaid_61 (by decide) (fun c_61 => ?_) (fun c_61 => ?_)
          · refine lv_aload_n hx hb dX10_readSaid_70 rfl (lv_at hl 0 rfl) ?_
            refine lv_dup hx hb dX10_readSaid_71 rfl ?_
            refine tg_mem (ci := 10) (C := RX10) (T := TX10) (N := 49) hx hb hts inX10 hown hK hw 46 m_u_17 rfl (by decide) (hts _ tw_1183) (fun _ h9 => h9) dX10_readSaid_72 ?_
            refine lv_iconst (v := 1) hx hb dX10_readSaid_75 (by decide) ?_
            refine lv_iadd hx hb dX10_readSaid_76 (lv_topi (fun v_19 e_v_19 => ?_))
            obtain ⟨t_v_19, r_v_19⟩ := tq_add (lo := 1) (hi := 20) r_vu_17 rl_1 (by decide +kernel) e_v_19
            have t_v_19 : v_19.toInt = vu_17.toInt + 1 := t_v_19
            refine tg_put (ci := 10) (ts := ty_MODEL) (v := .int v_19) (ty := .int) (C := RX10) (T := TX10) (N := 49) hx hb hts inX10 tyX10 tyX10_ok nmX10 hown hK hw h_p0 rfl rfl 46 (by decide) (hts _ tw_1183) (fun _ h9 => h9) rfl (by decide +kernel) rfl rfl (ft := vI (-2147483648) 2147483647) rfl ⟨_, rfl, (r_v_19.to (by decide))⟩ (by decide) dX10_readSaid_77 (fun ws H locs hw n_k_20 hF9 => ?_)
            have m_z0_47 := FLD.over hF9 m_z0_47 (by decide)
            have hn9 := FLD.over hF9 hn9 (by decide)
            have x_SNI_p0_gd_1_gh_1_gg : SNI ws p0 (gd+1) (gh+1) (gg) := ⟨by omega, _, _, hn9, n_k_20, by have k1 := rn9.1; have k2 := r_v_19.2; omega⟩
            refine lv_aload_n hx hb dX10_readSaid_80 rfl (lv_at hl 0 rfl) ?_
            refine lv_dup hx hb dX10_readSaid_81 rfl ?_
            refine tg_mem (ci := 10) (C := RX10) (T := TX10) (N := 49) hx hb hts inX10 hown hK hw 47 m_z0_47 rfl (by decide) (hts _ tw_1184) (fun _ h9 => h9) dX10_readSaid_82 ?_
            refine lv_iconst (v := 1) hx hb dX10_readSaid_85 (by decide) ?_
            refine lv_iadd hx hb dX10_readSaid_86 (lv_topi (fun v_21 e_v_21 => ?_))
            obtain ⟨t_v_21, r_v_21⟩ := tq_add (lo := 2) (hi := 2) r_z0_47 rl_1 (by decide +kernel) e_v_21
            have t_v_21 : v_21.toInt = z0_47.toInt + 1 := t_v_21
            refine tg_put (ci := 10) (ts := ty_MODEL) (v := .int v_21) (ty := .int) (C := RX10) (T := TX10) (N := 49) hx hb hts inX10 tyX10 tyX10_ok nmX10 hown hK hw h_p0 rfl rfl 47 (by decide) (hts _ tw_1184) (fun _ h9 => h9) rfl (by decide +kernel) rfl rfl (ft := vI (-2147483648) 2147483647) rfl ⟨_, rfl, (r_v_21.to (by decide))⟩ (by decide) dX10_readSaid_87 (fun ws H locs hw n_k_22 hF9 => ?_)
            have hn9 := FLD.over hF9 hn9 (by decide)
            have n_k_20 := FLD.over hF9 n_k_20 (by decide)
            have x_SNI_p0_gd_1_gh_1_gg := SNI.over hF9 x_SNI_p0_gd_1_gh_1_gg (by decide)
            refine lv_aload_n hx hb dX10_readSaid_90 rfl (lv_at hl 0 rfl) ?_
            refine tk_v (va_runV (As := []) (rest := []) ⟨hx, hb, hml, hown, hts⟩ (c_X10_go l D cy z H.size Ps ws hw.1 p0 h_p0) (cwV 0 hts (gV tw_1298 tw_1300 ts_40 tw_15 tw_1301) rfl rfl rfl (by decide +kernel) ⟨Nat.le_of_ble_eq_true rfl, Nat.le_of_ble_eq_true rfl⟩) (tg_preV hw hK hSD hA (ci := 10) (q := (RX10, TX10, 49)) rfl h_p0 rfl) rfl rfl hl.1 rfl (lv_room (Nat.le_of_ble_eq_true rfl)) dX10_readSaid_91 ⟨Nat.le_of_ble_eq_true rfl, Nat.le_of_ble_eq_true rfl⟩) hw hA ⟨by decide, by decide⟩ (fun ws H locs hp_v_23 hw hF9 => ?_)
            have hn9 := FLD.over hF9 hn9 (by decide)
            have n_k_20 := FLD.over hF9 n_k_20 (by decide)
            have n_k_22 := FLD.over hF9 n_k_22 (by decide)
            have x_SNI_p0_gd_1_gh_1_gg := SNI.over hF9 x_SNI_p0_gd_1_gh_1_gg (by decide)
            refine lv_iconst (v := 1) hx hb dX10_readSaid_94 (by decide) ?_
            refine lv_istore_n (lv' := [(3, .int 1), (0, .ref p0), (1, .int x1), (2, .int x2)]) hx hb dX10_readSaid_95 rfl hl (by decide) rfl (fun ls hl => ?_)
            refine lv_iload_n hx hb dX10_readSaid_96 rfl (lv_at hl 2 rfl) ?_
            refine lv_if_eq (tgt := 108) hx hb dX10_readSaid_97 (by decide) (fun c_97 => ?_) (fun c_97 => ?_)
            · refine lv_iload_n hx hb dX10_readSaid_108 rfl (lv_at hl 3 rfl) ?_
              refine lv_bipush (v := 18) hx hb dX10_readSaid_109 (by decide) ?_
              refine lv_icmp_ne (tgt := 122) hx hb dX10_readSaid_111 (by decide) (fun c_111 => ?_) (fun c_111 => ?_)
              · have r_x2 : RI x2 19 27 := rc_neL r_x2 rl_18 (ti_ne c_111) (by decide)
                refine lv_iload_n hx hb dX10_readSaid_122 rfl (lv_at hl 3 rfl) ?_
                refine lv_bipush (v := 22) hx hb dX10_readSaid_123 (by decide) ?_
                refine lv_icmp_ge (tgt := 146) hx hb dX10_readSaid_125 (by decide) (fun c_125 => ?_) (fun c_125 => ?_)
                · have r_x2 : RI x2 22 27 := rc_le2 rl_22 r_x2 (ti_le c_125) (by decide)
                  refine lv_iload_n hx hb dX10_readSaid_146 rfl (lv_at hl 3 rfl) ?_
                  refine lv_bipush (v := 24) hx hb dX10_readSaid_147 (by decide) ?_
                  refine lv_icmp_ge (tgt := 160) hx hb dX10_readSaid_149 (by decide) (fun c_149 => ?_) (fun c_149 => ?_)
                  · have r_x2 : RI x2 24 27 := rc_le2 rl_24 r_x2 (ti_le c_149) (by decide)
                    refine lv_aload_n hx hb dX10_readSaid_160 rfl (lv_at hl 1 rfl) ?_
                    refine lv_iload_n hx hb dX10_readSaid_161 rfl (lv_at hl 3 rfl) ?_
                    refine tk_i (va_runV (As := [.int x2]) (rest := []) ⟨hx, hb, hml, hown, hts⟩ (c_X10_readCompare l D cy z H.size Ps ws hw.1 p0 x2 (gd+1) (gh+1) (gg) h_p0 r_x2 x_SNI_p0_gd_1_gh_1_gg) (cwV 1 hts (gV tw_1779 tw_1781 ts_118 tw_15 tw_1782) rfl rfl rfl (by decide +kernel) ⟨Nat.le_of_ble_eq_true rfl, Nat.le_of_ble_eq_true rfl⟩) (tg_preV hw hK hSD hA (ci := 10) (q := (RX10, TX10, 49)) rfl h_p0 rfl) rfl rfl hl.1 rfl (lv_room (Nat.le_of_ble_eq_true rfl)) dX10_readSaid_162 ⟨Nat.le_of_ble_eq_true rfl, Nat.le_of_ble_eq_true rfl⟩) hw hA ⟨by decide, by decide⟩ (fun v_24 ws H locs hp_v_24 hw hF9 => ?_)
                    have n_k_20 := FLD.over hF9 n_k_20 (by decide)
                    have n_k_22 := FLD.over hF9 n_k_22 (by decide)
                    have r_v_24 : RI v_24 0 1 := hp_v_24.1
                    by_cases c9_v_24 : v_24 = 0
                    · have r_v_24 : RI v_24 0 0 := by rw [c9_v_24]; exact rl_0
                      refine lv_istore_n (lv' := [(3, .int v_24), (0, .ref p0), (1, .int x1), (2, .int x2)]) hx hb dX10_readSaid_165 rfl hl (by decide) rfl (fun ls hl => ?_)
                      refine lv_aload_n hx hb dX10_readSaid_166 rfl (lv_at hl 1 rfl) ?_
                      refine lv_dup hx hb dX10_readSaid_167 rfl ?_
                      refine tg_mem (ci := 10) (C := RX10) (T := TX10) (N := 49) hx hb hts inX10 hown hK hw 47 n_k_22 rfl (by decide) (hts _ tw_1184) (fun _ h9 => h9) dX10_readSaid_168 ?_
                      refine lv_iconst (v := 1) hx hb dX10_readSaid_171 (by decide) ?_
                      refine lv_isub hx hb dX10_readSaid_172 (lv_topi (fun v_25 e_v_25 => ?_))
                      obtain ⟨t_v_25, r_v_25⟩ := tq_sub (lo := 1) (hi := 1) r_v_21 rl_1 (by decide +kernel) e_v_25
                      have t_v_25 : v_25.toInt = v_21.toInt - 1 := t_v_25
                      refine tg_put (ci := 10) (ts := ty_MODEL) (v := .int v_25) (ty := .int) (C := RX10) (T := TX10) (N := 49) hx hb hts inX10 tyX10 tyX10_ok nmX10 hown hK hw h_p0 rfl rfl 47 (by decide) (hts _ tw_1184) (fun _ h9 => h9) rfl (by decide +kernel) rfl rfl (ft := vI (-2147483648) 2147483647) rfl ⟨_, rfl, (r_v_25.to (by decide))⟩ (by decide) dX10_readSaid_173 (fun ws H locs hw n_k_26 hF9 => ?_)
                      have n_k_20 := FLD.over hF9 n_k_20 (by decide)
                      refine lv_iload_n hx hb dX10_readSaid_176 rfl (lv_at hl 0 rfl) ?_
                      subst hQ
                      exact W.zret (v := v_24) hx hb hr (tq_nz (r_v_24.to (by decide))) (fun t ht hW => ⟨⟨v_24, ws, rfl, ⟨⟨r_v_24.to (by decide), (fun h0 => ⟨⟨_, n_k_26, r_v_25⟩, trivial⟩), (fun h0 => absurd (Int32.toInt_inj.mp (by have h8 := r_v_24; unfold RI at h8; rw [Int32.toInt_zero]; omega)) h0)⟩, hw.1, hw.2.2.2.2.1⟩, by rw [ht]; exact hw.2.1, va_K.moved hW.alike hK, hw.2.2.1⟩, hw.2.2.2.1.F ht⟩) hw.2.2.2.1.2.2 dX10_readSaid_177
                    · have r_v_24 : RI v_24 1 1 := rc_neL r_v_24 rl_0 (ti_ne c9_v_24) (by decide)
                      obtain ⟨v_27, m_v_27, r_v_27⟩ := ((hp_v_24.2.2 c9_v_24).1)
                      obtain ⟨v_28, m_v_28, r_v_28⟩ := ((hp_v_24.2.2 c9_v_24).2.1)
                      have x_SNT_p0_gd_1_gh_1_gg := ((hp_v_24.2.2 c9_v_24).2.2.1)
                      refine lv_istore_n (lv' := [(3, .int v_24), (0, .ref p0), (1, .int x1), (2, .int x2)]) hx hb dX10_readSaid_165 rfl hl (by decide) rfl (fun ls hl => ?_)
                      refine lv_aload_n hx hb dX10_readSaid_166 rfl (lv_at hl 1 rfl) ?_
                      refine lv_dup hx hb dX10_readSaid_167 rfl ?_
                      refine tg_mem (ci := 10) (C := RX10) (T := TX10) (N := 49) hx hb hts inX10 hown hK hw 47 n_k_22 rfl (by decide) (hts _ tw_1184) (fun _ h9 => h9) dX10_readSaid_168 ?_
                      refine lv_iconst (v := 1) hx hb dX10_readSaid_171 (by decide) ?_
                      refine lv_isub hx hb dX10_readSaid_172 (lv_topi (fun v_29 e_v_29 => ?_))
                      obtain ⟨t_v_29, r_v_29⟩ := tq_sub (lo := 1) (hi := 1) r_v_21 rl_1 (by decide +kernel) e_v_29
                      have t_v_29 : v_29.toInt = v_21.toInt - 1 := t_v_29
                      refine tg_put (ci := 10) (ts := ty_MODEL) (v := .int v_29) (ty := .int) (C := RX10) (T := TX10) (N := 49) hx hb hts inX10 tyX10 tyX10_ok nmX10 hown hK hw h_p0 rfl rfl 47 (by decide) (hts _ tw_1184) (fun _ h9 => h9) rfl (by decide +kernel) rfl rfl (ft := vI (-2147483648) 2147483647) rfl ⟨_, rfl, (r_v_29.to (by decide))⟩ (by decide) dX10_readSaid_173 (fun ws H locs hw n_k_30 hF9 => ?_)
                      have n_k_20 := FLD.over hF9 n_k_20 (by decide)
                      have m_v_27 := FLD.over hF9 m_v_27 (by decide)
                      have m_v_28 := FLD.over hF9 m_v_28 (by decide)
                      have x_SNT_p0_gd_1_gh_1_gg := SNT.over hF9 x_SNT_p0_gd_1_gh_1_gg (by decide)
                      refine lv_iload_n hx hb dX10_readSaid_176 rfl (lv_at hl 0 rfl) ?_
                      subst hQ
                      exact W.zret (v := v_24) hx hb hr (tq_nz (r_v_24.to (by decide))) (fun t ht hW => ⟨⟨v_24, ws, rfl, ⟨⟨r_v_24.to (by decide), (fun h0 => absurd (ti_eq h0) (by have h8 := r_v_24; unfold RI at h8; rw [Int32.toInt_zero]; omega)), (fun h0 => ⟨⟨_, n_k_20, r_v_19⟩, ⟨_, m_v_28, r_v_28⟩, ⟨_, n_k_30, r_v_29⟩, x_SNT_p0_gd_1_gh_1_gg, trivial⟩)⟩, hw.1, hw.2.2.2.2.1⟩, by rw [ht]; exact hw.2.1, va_K.moved hW.alike hK, hw.2.2.1⟩, hw.2.2.2.1.F ht⟩) hw.2.2.2.1.2.2 dX10_readSaid_177
                  · have r_x2 : RI x2 22 23 := rc_lt1 r_x2 rl_24 (ti_nle c_149) (by decide)
                    refine lv_aload_n hx hb dX10_readSaid_152 rfl (lv_at hl 1 rfl) ?_
                    refine lv_iload_n hx hb dX10_readSaid_153 rfl (lv_at hl 3 rfl) ?_
                    refine tk_i (va_runV (As := [.int x2]) (rest := []) ⟨hx, hb, hml, hown, hts⟩ (c_X10_readOf l D cy z H.size Ps ws hw.1 p0 x2 (gd+1) (gh+1) (gg) h_p0 r_x2 x_SNI_p0_gd_1_gh_1_gg) (cwV 1 hts (gV tw_1775 tw_1777 ts_117 tw_15 tw_1778) rfl rfl rfl (by decide +kernel) ⟨Nat.le_of_ble_eq_true rfl, Nat.le_of_ble_eq_true rfl⟩) (tg_preV hw hK hSD hA (ci := 10) (q := (RX10, TX10, 49)) rfl h_p0 rfl) rfl rfl hl.1 rfl (lv_room (Nat.le_of_ble_eq_true rfl)) dX10_readSaid_154 ⟨Nat.le_of_ble_eq_true rfl, Nat.le_of_ble_eq_true rfl⟩) hw hA ⟨by decide, by decide⟩ (fun v_31 ws H locs hp_v_31 hw hF9 => ?_)
                    have n_k_20 := FLD.over hF9 n_k_20 (by decide)
                    have n_k_22 := FLD.over hF9 n_k_22 (by decide)
                    have r_v_31 : RI v_31 0 1 := hp_v_31.1
                    by_cases c9_v_31 : v_31 = 0
                    · have r_v_31 : RI v_31 0 0 := by rw [c9_v_31]; exact rl_0
                      refine lv_goto (tgt := 165) hx hb dX10_readSaid_157 (by decide) ?_
                      refine lv_istore_n (lv' := [(3, .int v_31), (0, .ref p0), (1, .int x1), (2, .int x2)]) hx hb dX10_readSaid_165 rfl hl (by decide) rfl (fun ls hl => ?_)
                      refine lv_aload_n hx hb dX10_readSaid_166 rfl (lv_at hl 1 rfl) ?_
                      refine lv_dup hx hb dX10_readSaid_167 rfl ?_
                      refine tg_mem (ci := 10) (C := RX10) (T := TX10) (N := 49) hx hb hts inX10 hown hK hw 47 n_k_22 rfl (by decide) (hts _ tw_1184) (fun _ h9 => h9) dX10_readSaid_168 ?_
                      refine lv_iconst (v := 1) hx hb dX10_readSaid_171 (by decide) ?_
                      refine lv_isub hx hb dX10_readSaid_172 (lv_topi (fun v_32 e_v_32 => ?_))
                      obtain ⟨t_v_32, r_v_32⟩ := tq_sub (lo := 1) (hi := 1) r_v_21 rl_1 (by decide +kernel) e_v_32
                      have t_v_32 : v_32.toInt = v_21.toInt - 1 := t_v_32
                      refine tg_put (ci := 10) (ts := ty_MODEL) (v := .int v_32) (ty := .int) (C := RX10) (T := TX10) (N := 49) hx hb hts inX10 tyX10 tyX10_ok nmX10 hown hK hw h_p0 rfl rfl 47 (by decide) (hts _ tw_1184) (fun _ h9 => h9) rfl (by decide +kernel) rfl rfl (ft := vI (-2147483648) 2147483647) rfl ⟨_, rfl, (r_v_32.to (by decide))⟩ (by decide) dX10_readSaid_173 (fun ws H locs hw n_k_33 hF9 => ?_)
                      have n_k_20 := FLD.over hF9 n_k_20 (by decide)
                      refine lv_iload_n hx hb dX10_readSaid_176 rfl (lv_at hl 0 rfl) ?_
                      subst hQ
                      exact W.zret (v := v_31) hx hb hr (tq_nz (r_v_31.to (by decide))) (fun t ht hW => ⟨⟨v_31, ws, rfl, ⟨⟨r_v_31.to (by decide), (fun h0 => ⟨⟨_, n_k_33, r_v_32⟩, trivial⟩), (fun h0 => absurd (Int32.toInt_inj.mp (by have h8 := r_v_31; unfold RI at h8; rw [Int32.toInt_zero]; omega)) h0)⟩, hw.1, hw.2.2.2.2.1⟩, by rw [ht]; exact hw.2.1, va_K.moved hW.alike hK, hw.2.2.1⟩, hw.2.2.2.1.F ht⟩) hw.2.2.2.1.2.2 dX10_readSaid_177
                    · have r_v_31 : RI v_31 1 1 := rc_neL r_v_31 rl_0 (ti_ne c9_v_31) (by decide)
                      obtain ⟨v_34, m_v_34, r_v_34⟩ := ((hp_v_31.2.2 c9_v_31).1)
                      obtain ⟨v_35, m_v_35, r_v_35⟩ := ((hp_v_31.2.2 c9_v_31).2.1)
                      have x_SNT_p0_gd_1_gh_1_gg := ((hp_v_31.2.2 c9_v_31).2.2.1)
                      refine lv_goto (tgt := 165) hx hb dX10_readSaid_157 (by decide) ?_
                      refine lv_istore_n (lv' := [(3, .int v_31), (0, .ref p0), (1, .int x1), (2, .int x2)]) hx hb dX10_readSaid_165 rfl hl (by decide) rfl (fun ls hl => ?_)
                      refine lv_aload_n hx hb dX10_readSaid_166 rfl (lv_at hl 1 rfl) ?_
                      refine lv_dup hx hb dX10_readSaid_167 rfl ?_
                      refine tg_mem (ci := 10) (C := RX10) (T := TX10) (N := 49) hx hb hts inX10 hown hK hw 47 n_k_22 rfl (by decide) (hts _ tw_1184) (fun _ h9 => h9) dX10_readSaid_168 ?_
                      refine lv_iconst (v := 1) hx hb dX10_readSaid_171 (by decide) ?_
                      refine lv_isub hx hb dX10_readSaid_172 (lv_topi (fun v_36 e_v_36 => ?_))
                      obtain ⟨t_v_36, r_v_36⟩ := tq_sub (lo := 1) (hi := 1) r_v_21 rl_1 (by decide +kernel) e_v_36
                      have t_v_36 : v_36.toInt = v_21.toInt - 1 := t_v_36
                      refine tg_put (ci := 10) (ts := ty_MODEL) (v := .int v_36) (ty := .int) (C := RX10) (T := TX10) (N := 49) hx hb hts inX10 tyX10 tyX10_ok nmX10 hown hK hw h_p0 rfl rfl 47 (by decide) (hts _ tw_1184) (fun _ h9 => h9) rfl (by decide +kernel) rfl rfl (ft := vI (-2147483648) 2147483647) rfl ⟨_, rfl, (r_v_36.to (by decide))⟩ (by decide) dX10_readSaid_173 (fun ws H locs hw n_k_37 hF9 => ?_)
                      have n_k_20 := FLD.over hF9 n_k_20 (by decide)
                      have m_v_34 := FLD.over hF9 m_v_34 (by decide)
                      have m_v_35 := FLD.over hF9 m_v_35 (by decide)
                      have x_SNT_p0_gd_1_gh_1_gg := SNT.over hF9 x_SNT_p0_gd_1_gh_1_gg (by decide)
                      refine lv_iload_n hx hb dX10_readSaid_176 rfl (lv_at hl 0 rfl) ?_
                      subst hQ
                      exact W.zret (v := v_31) hx hb hr (tq_nz (r_v_31.to (by decide))) (fun t ht hW => ⟨⟨v_31, ws, rfl, ⟨⟨r_v_31.to (by decide), (fun h0 => absurd (ti_eq h0) (by have h8 := r_v_31; unfold RI at h8; rw [Int32.toInt_zero]; omega)), (fun h0 => ⟨⟨_, n_k_20, r_v_19⟩, ⟨_, m_v_35, r_v_35⟩, ⟨_, n_k_37, r_v_36⟩, x_SNT_p0_gd_1_gh_1_gg, trivial⟩)⟩, hw.1, hw.2.2.2.2.1⟩, by rw [ht]; exact hw.2.1, va_K.moved hW.alike hK, hw.2.2.1⟩, hw.2.2.2.1.F ht⟩) hw.2.2.2.1.2.2 dX10_readSaid_177
                · have r_x2 : RI x2 19 21 := rc_lt1 r_x2 rl_22 (ti_nle c_125) (by decide)
                  refine lv_aload_n hx hb dX10_readSaid_128 rfl (lv_at hl 1 rfl) ?_
                  refine lv_aload_n hx hb dX10_readSaid_129 rfl (lv_at hl 1 rfl) ?_
                  refine lv_bipush (v := 50) hx hb dX10_readSaid_130 (by decide) ?_
                  refine lv_iload_n hx hb dX10_readSaid_132 rfl (lv_at hl 3 rfl) ?_
                  refine lv_iadd hx hb dX10_readSaid_133 (lv_topi (fun v_38 e_v_38 => ?_))
                  obtain ⟨t_v_38, r_v_38⟩ := tq_add (lo := 69) (hi := 71) rl_50 r_x2 (by decide +kernel) e_v_38
                  have t_v_38 : v_38.toInt = 50 + x2.toInt := t_v_38
                  refine lv_iconst (v := 0) hx hb dX10_readSaid_134 (by decide) ?_
                  refine lv_iconst (v := 0) hx hb dX10_readSaid_135 (by decide) ?_
                  refine lv_iconst (v := 0) hx hb dX10_readSaid_136 (by decide) ?_
                  refine tk_i (va_runV (As := [.int v_38, .int 0, .int 0, .int 0]) (rest := [.ref p0]) ⟨hx, hb, hml, hown, hts⟩ (c_X10_saysOne l D cy z H.size Ps ws hw.1 p0 v_38 0 0 0 (gd+1) (gh+1) (gg) h_p0 (r_v_38.to (by decide)) (rl_0.to (by decide)) (rl_0.to (by decide)) (rl_0.to (by decide)) x_SNI_p0_gd_1_gh_1_gg) (cwV 4 hts (gV tw_1771 tw_1773 ts_116 tw_15 tw_1774) rfl rfl rfl (by decide +kernel) ⟨Nat.le_of_ble_eq_true rfl, Nat.le_of_ble_eq_true rfl⟩) (tg_preV hw hK hSD hA (ci := 10) (q := (RX10, TX10, 49)) rfl h_p0 rfl) rfl rfl hl.1 rfl (lv_room (Nat.le_of_ble_eq_true rfl)) dX10_readSaid_137 ⟨Nat.le_of_ble_eq_true rfl, Nat.le_of_ble_eq_true rfl⟩) hw hA ⟨by decide, by decide⟩ (fun v_39 ws H locs hp_v_39 hw hF9 => ?_)
                  have n_k_20 := FLD.over hF9 n_k_20 (by decide)
                  have n_k_22 := FLD.over hF9 n_k_22 (by decide)
                  have r_v_39 : RI v_39 0 39 := hp_v_39.1
                  have x_SNL_p0_gd_1_gh_1_gg_v_39 := hp_v_39.2.2.2.1.1
                  refine tg_put (ci := 10) (ts := ty_MODEL) (v := .int v_39) (ty := .int) (C := RX10) (T := TX10) (N := 49) hx hb hts inX10 tyX10 tyX10_ok nmX10 hown hK hw h_p0 rfl rfl 48 (by decide) (hts _ tw_1185) (fun _ h9 => h9) rfl (by decide +kernel) rfl rfl (ft := vI (-2147483648) 2147483647) rfl ⟨_, rfl, (r_v_39.to (by decide))⟩ (by decide) dX10_readSaid_140 (fun ws H locs hw n_k_40 hF9 => ?_)
                  have n_k_20 := FLD.over hF9 n_k_20 (by decide)
                  have n_k_22 := FLD.over hF9 n_k_22 (by decide)
                  have x_SNL_p0_gd_1_gh_1_gg_v_39 := SNL.over hF9 x_SNL_p0_gd_1_gh_1_gg_v_39 (by decide)
                  have x_SNT_p0_gd_1_gh_1_gg : SNT ws p0 (gd+1) (gh+1) (gg) := (x_SNL_p0_gd_1_gh_1_gg_v_39.weak (d' := gd+1) (h' := gh+1) (g' := gg) (by have k1 := x_SNL_p0_gd_1_gh_1_gg_v_39.le; have d_8 := SNp.le x_SN_p0_gd_gh_gg; omega)).snt n_k_40
                  refine lv_goto (tgt := 166) hx hb dX10_readSaid_143 (by decide) ?_
                  refine lv_aload_n hx hb dX10_readSaid_166 rfl (lv_at hl 1 rfl) ?_
                  refine lv_dup hx hb dX10_readSaid_167 rfl ?_
                  refine tg_mem (ci := 10) (C := RX10) (T := TX10) (N := 49) hx hb hts inX10 hown hK hw 47 n_k_22 rfl (by decide) (hts _ tw_1184) (fun _ h9 => h9) dX10_readSaid_168 ?_
                  refine lv_iconst (v := 1) hx hb dX10_readSaid_171 (by decide) ?_
                  refine lv_isub hx hb dX10_readSaid_172 (lv_topi (fun v_41 e_v_41 => ?_))
                  obtain ⟨t_v_41, r_v_41⟩ := tq_sub (lo := 1) (hi := 1) r_v_21 rl_1 (by decide +kernel) e_v_41
                  have t_v_41 : v_41.toInt = v_21.toInt - 1 := t_v_41
                  refine tg_put (ci := 10) (ts := ty_MODEL) (v := .int v_41) (ty := .int) (C := RX10) (T := TX10) (N := 49) hx hb hts inX10 tyX10 tyX10_ok nmX10 hown hK hw h_p0 rfl rfl 47 (by decide) (hts _ tw_1184) (fun _ h9 => h9) rfl (by decide +kernel) rfl rfl (ft := vI (-2147483648) 2147483647) rfl ⟨_, rfl, (r_v_41.to (by decide))⟩ (by decide) dX10_readSaid_173 (fun ws H locs hw n_k_42 hF9 => ?_)
                  have n_k_20 := FLD.over hF9 n_k_20 (by decide)
                  have n_k_40 := FLD.over hF9 n_k_40 (by decide)
                  have x_SNL_p0_gd_1_gh_1_gg_v_39 := SNL.over hF9 x_SNL_p0_gd_1_gh_1_gg_v_39 (by decide)
                  have x_SNT_p0_gd_1_gh_1_gg := SNT.over hF9 x_SNT_p0_gd_1_gh_1_gg (by decide)
                  refine lv_iload_n hx hb dX10_readSaid_176 rfl (lv_at hl 0 rfl) ?_
                  subst hQ
                  exact W.zret (v := 1) hx hb hr (rfl) (fun t ht hW => ⟨⟨1, ws, rfl, ⟨⟨rl_1.to (by decide), (fun h0 => absurd h0 (by decide)), (fun h0 => ⟨⟨_, n_k_20, r_v_19⟩, ⟨_, n_k_40, r_v_39⟩, ⟨_, n_k_42, r_v_41⟩, x_SNT_p0_gd_1_gh_1_gg, trivial⟩)⟩, hw.1, hw.2.2.2.2.1⟩, by rw [ht]; exact hw.2.1, va_K.moved hW.alike hK, hw.2.2.1⟩, hw.2.2.2.1.F ht⟩) hw.2.2.2.1.2.2 dX10_readSaid_177
              · have r_x2 : RI x2 18 18 := rc_eq1 r_x2 rl_18 (ti_eq c_111) (by decide)
                refine lv_aload_n hx hb dX10_readSaid_114 rfl (lv_at hl 1 rfl) ?_
                refine tk_i (va_runV (As := []) (rest := []) ⟨hx, hb, hml, hown, hts⟩ (c_X10_readNot__6 l D cy z H.size Ps ws hw.1 p0 v_21 (gd+1) (gh+1) (gg) h_p0 r_v_21 n_k_22 x_SNI_p0_gd_1_gh_1_gg) (cwV 0 hts (gV tw_1767 tw_1769 ts_115 tw_15 tw_1770) rfl rfl rfl (by decide +kernel) ⟨Nat.le_of_ble_eq_true rfl, Nat.le_of_ble_eq_true rfl⟩) (tg_preV hw hK hSD hA (ci := 10) (q := (RX10, TX10, 49)) rfl h_p0 rfl) rfl rfl hl.1 rfl (lv_room (Nat.le_of_ble_eq_true rfl)) dX10_readSaid_115 ⟨Nat.le_of_ble_eq_true rfl, Nat.le_of_ble_eq_true rfl⟩) hw hA ⟨by decide, by decide⟩ (fun v_43 ws H locs hp_v_43 hw hF9 => ?_)
                have r_v_43 : RI v_43 0 1 := hp_v_43.1
                by_cases c9_v_43 : v_43 = 0
                · have r_v_43 : RI v_43 0 0 := by rw [c9_v_43]; exact rl_0
                  obtain ⟨v_44, m_v_44, r_v_44⟩ := ((hp_v_43.2.1 c9_v_43).1)
                  refine lv_istore_n (lv' := [(3, .int v_43), (0, .ref p0), (1, .int x1), (2, .int x2)]) hx hb dX10_readSaid_118 rfl hl (by decide) rfl (fun ls hl => ?_)
                  refine lv_goto (tgt := 166) hx hb dX10_readSaid_119 (by decide) ?_
                  refine lv_aload_n hx hb dX10_readSaid_166 rfl (lv_at hl 1 rfl) ?_
                  refine lv_dup hx hb dX10_readSaid_167 rfl ?_
                  refine tg_mem (ci := 10) (C := RX10) (T := TX10) (N := 49) hx hb hts inX10 hown hK hw 47 m_v_44 rfl (by decide) (hts _ tw_1184) (fun _ h9 => h9) dX10_readSaid_168 ?_
                  refine lv_iconst (v := 1) hx hb dX10_readSaid_171 (by decide) ?_
                  refine lv_isub hx hb dX10_readSaid_172 (lv_topi (fun v_45 e_v_45 => ?_))
                  obtain ⟨t_v_45, r_v_45⟩ := tq_sub (lo := 1) (hi := 1) r_v_44 rl_1 (by decide +kernel) e_v_45
                  have t_v_45 : v_45.toInt = v_44.toInt - 1 := t_v_45
                  refine tg_put (ci := 10) (ts := ty_MODEL) (v := .int v_45) (ty := .int) (C := RX10) (T := TX10) (N := 49) hx hb hts inX10 tyX10 tyX10_ok nmX10 hown hK hw h_p0 rfl rfl 47 (by decide) (hts _ tw_1184) (fun _ h9 => h9) rfl (by decide +kernel) rfl rfl (ft := vI (-2147483648) 2147483647) rfl ⟨_, rfl, (r_v_45.to (by decide))⟩ (by decide) dX10_readSaid_173 (fun ws H locs hw n_k_46 hF9 => ?_)
                  refine lv_iload_n hx hb dX10_readSaid_176 rfl (lv_at hl 0 rfl) ?_
                  subst hQ
                  exact W.zret (v := v_43) hx hb hr (tq_nz (r_v_43.to (by decide))) (fun t ht hW => ⟨⟨v_43, ws, rfl, ⟨⟨r_v_43.to (by decide), (fun h0 => ⟨⟨_, n_k_46, r_v_45⟩, trivial⟩), (fun h0 => absurd (Int32.toInt_inj.mp (by have h8 := r_v_43; unfold RI at h8; rw [Int32.toInt_zero]; omega)) h0)⟩, hw.1, hw.2.2.2.2.1⟩, by rw [ht]; exact hw.2.1, va_K.moved hW.alike hK, hw.2.2.1⟩, hw.2.2.2.1.F ht⟩) hw.2.2.2.1.2.2 dX10_readSaid_177
                · have r_v_43 : RI v_43 1 1 := rc_neL r_v_43 rl_0 (ti_ne c9_v_43) (by decide)
                  obtain ⟨v_47, m_v_47, r_v_47⟩ := ((hp_v_43.2.2 c9_v_43).1)
                  obtain ⟨v_48, m_v_48, r_v_48⟩ := ((hp_v_43.2.2 c9_v_43).2.1)
                  obtain ⟨v_49, m_v_49, r_v_49⟩ := ((hp_v_43.2.2 c9_v_43).2.2.1)
                  have x_SNT_p0_gd_1_gh_1_gg := ((hp_v_43.2.2 c9_v_43).2.2.2.1)
                  refine lv_istore_n (lv' := [(3, .int v_43), (0, .ref p0), (1, .int x1), (2, .int x2)]) hx hb dX10_readSaid_118 rfl hl (by decide) rfl (fun ls hl => ?_)
                  refine lv_goto (tgt := 166) hx hb dX10_readSaid_119 (by decide) ?_
                  refine lv_aload_n hx hb dX10_readSaid_166 rfl (lv_at hl 1 rfl) ?_
                  refine lv_dup hx hb dX10_readSaid_167 rfl ?_
                  refine tg_mem (ci := 10) (C := RX10) (T := TX10) (N := 49) hx hb hts inX10 hown hK hw 47 m_v_48 rfl (by decide) (hts _ tw_1184) (fun _ h9 => h9) dX10_readSaid_168 ?_
                  refine lv_iconst (v := 1) hx hb dX10_readSaid_171 (by decide) ?_
                  refine lv_isub hx hb dX10_readSaid_172 (lv_topi (fun v_50 e_v_50 => ?_))
                  obtain ⟨t_v_50, r_v_50⟩ := tq_sub (lo := 1) (hi := 1) r_v_48 rl_1 (by decide +kernel) e_v_50
                  have t_v_50 : v_50.toInt = v_48.toInt - 1 := t_v_50
                  refine tg_put (ci := 10) (ts := ty_MODEL) (v := .int v_50) (ty := .int) (C := RX10) (T := TX10) (N := 49) hx hb hts inX10 tyX10 tyX10_ok nmX10 hown hK hw h_p0 rfl rfl 47 (by decide) (hts _ tw_1184) (fun _ h9 => h9) rfl (by decide +kernel) rfl rfl (ft := vI (-2147483648) 2147483647) rfl ⟨_, rfl, (r_v_50.to (by decide))⟩ (by decide) dX10_readSaid_173 (fun ws H locs hw n_k_51 hF9 => ?_)
                  have m_v_47 := FLD.over hF9 m_v_47 (by decide)
                  have m_v_49 := FLD.over hF9 m_v_49 (by decide)
                  have x_SNT_p0_gd_1_gh_1_gg := SNT.over hF9 x_SNT_p0_gd_1_gh_1_gg (by decide)
                  refine lv_iload_n hx hb dX10_readSaid_176 rfl (lv_at hl 0 rfl) ?_
                  subst hQ
                  exact W.zret (v := v_43) hx hb hr (tq_nz (r_v_43.to (by decide))) (fun t ht hW => ⟨⟨v_43, ws, rfl, ⟨⟨r_v_43.to (by decide), (fun h0 => absurd (ti_eq h0) (by have h8 := r_v_43; unfold RI at h8; rw [Int32.toInt_zero]; omega)), (fun h0 => ⟨⟨_, m_v_47, r_v_47⟩, ⟨_, m_v_49, r_v_49⟩, ⟨_, n_k_51, r_v_50⟩, x_SNT_p0_gd_1_gh_1_gg, trivial⟩)⟩, hw.1, hw.2.2.2.2.1⟩, by rw [ht]; exact hw.2.1, va_K.moved hW.alike hK, hw.2.2.1⟩, hw.2.2.2.1.F ht⟩) hw.2.2.2.1.2.2 dX10_readSaid_177
            · exact absurd (r_x1.eq.trans rl_0.eq.symm) ((ti_ne c_97))
          · have r_z0_47 : RI z0_47 8 1 := rc_eq1 r_z0_47 rl_8 (ti_eq c_61) (by decide)
            exact (r_z0_47.no (by decide)).elim
      · have r_x2 : RI x2 28 28 := rc_lt2 rl_27 r_x2 (ti_nle c_37) (by decide)
        refine lv_aload_n hx hb dX10_readSaid_40 rfl (lv_at hl 0 rfl) ?_
        refine lv_iconst (v := 1) hx hb dX10_readSaid_41 (by decide) ?_
        refine tk_i (va_runV (As := [.int 1]) (rest := []) ⟨hx, hb, hml, hown, hts⟩ (c_X10_bad l D cy z H.size Ps ws hw.1 p0 1 h_p0 (rl_1.to (by decide))) (cwV 1 hts (gV tw_1336 tw_1338 ts_46 tw_15 tw_1339) rfl rfl rfl (by decide +kernel) ⟨Nat.le_of_ble_eq_true rfl, Nat.le_of_ble_eq_true rfl⟩) (tg_preV hw hK hSD hA (ci := 10) (q := (RX10, TX10, 49)) rfl h_p0 rfl) rfl rfl hl.1 rfl (lv_room (Nat.le_of_ble_eq_true rfl)) dX10_readSaid_42 ⟨Nat.le_of_ble_eq_true rfl, Nat.le_of_ble_eq_true rfl⟩) hw hA ⟨by decide, by decide⟩ (fun v_52 ws H locs hp_v_52 hw hF9 => ?_)
        have m_z0_47 := FLD.over hF9 m_z0_47 (by decide)
        have x_SN_p0_gd_gh_gg := SNp.over hF9 x_SN_p0_gd_gh_gg (by decide)
        have r_v_52 : RI v_52 0 0 := hp_v_52.1
        subst hQ
        exact W.zret (v := v_52) hx hb hr (tq_nz (r_v_52.to (by decide))) (fun t ht hW => ⟨⟨v_52, ws, rfl, ⟨⟨r_v_52.to (by decide), (fun h0 => ⟨⟨_, m_z0_47, r_z0_47⟩, trivial⟩), (fun h0 => absurd (Int32.toInt_inj.mp (by have h8 := r_v_52; unfold RI at h8; rw [Int32.toInt_zero]; omega)) h0)⟩, hw.1, hw.2.2.2.2.1⟩, by rw [ht]; exact hw.2.1, va_K.moved hW.alike hK, hw.2.2.1⟩, hw.2.2.2.1.F ht⟩) hw.2.2.2.1.2.2 dX10_readSaid_45
  have B10 : ∀ (nf : Nat) (x1 : Int32) (x2 : Int32) (z0_47 : Int32) (ws : va_W) (H : Heap) (locs : List Loc) (ls : Array Slot), 28 - x2.toInt < (nf : Int) → RI x1 0 1 → RI x2 18 28 → RI z0_47 1 1 → FLD ws p0 10 47 (.int z0_47) → SNp ws p0 (gd) (gh) (gg) → WD D cy GG A s wr_X10_readSaid__1 wa_X10_readSaid__1 Ps w0 Ps ws H locs → lv_has ls 4 [(0, .ref p0), (1, .int x1), (2, .int x2)] → W p l e (headSpec (Cond.code yX10_readSaid cX10_readSaid 4 (some .boolean) :: gT) ({ frames := 32, cells := 0, slots := 0, locals := 6400 } : Room)).room s m ([.ref p0] : List Value).toArray below meth c H locs 0 0 Q (F0 m 10 ls []) := by
    intro nf10
    induction nf10 with
    | zero =>
      intro x1 x2 z0_47 ws H locs ls hn10 r_x1 r_x2 r_z0_47 m_z0_47 x_SN_p0_gd_gh_gg hw hl
      exact absurd hn10 (by have q0 := r_x2.1; have u0 := r_x2.2; omega)
    | succ nf10 ih10 =>
      intro x1 x2 z0_47 ws H locs ls hn10 r_x1 r_x2 r_z0_47 m_z0_47 x_SN_p0_gd_gh_gg hw hl
      refine lv_iload_n hx hb dX10_readSaid_10 rfl (lv_at hl 2 rfl) ?_
      refine lv_bipush (v := 27) hx hb dX10_readSaid_11 (by decide) ?_
      refine lv_icmp_gt (tgt := 30) hx hb dX10_readSaid_13 (by decide) (fun c_13 => ?_) (fun c_13 => ?_)
      · have r_x2 : RI x2 28 28 := rc_lt2 rl_27 r_x2 (ti_lt c_13) (by decide)
        exact B30 x1 x2 z0_47 ws _ _ ls r_x1 (r_x2.to (by decide)) r_z0_47 m_z0_47 x_SN_p0_gd_gh_gg hw hl
      · have r_x2 : RI x2 18 27 := rc_le1 r_x2 rl_27 (ti_nlt c_13) (by decide)
        refine lv_aload_n hx hb dX10_readSaid_16 rfl (lv_at hl 0 rfl) ?_
        refine lv_iload_n hx hb dX10_readSaid_17 rfl (lv_at hl 2 rfl) ?_
        refine tk_ir (va_runV (As := [.int x2]) (rest := []) ⟨hx, hb, hml, hown, hts⟩ (c_X10_isWord l D cy z H.size Ps ws hw.1 p0 x2 h_p0 (r_x2.to (by decide))) (cwV 1 hts (gV tw_1318 tw_1320 ts_43 tw_15 tw_1321) rfl rfl rfl (by decide +kernel) ⟨Nat.le_of_ble_eq_true rfl, Nat.le_of_ble_eq_true rfl⟩) (tg_preV hw hK hSD hA (ci := 10) (q := (RX10, TX10, 49)) rfl h_p0 rfl) rfl rfl hl.1 rfl (lv_room (Nat.le_of_ble_eq_true rfl)) dX10_readSaid_18 ⟨Nat.le_of_ble_eq_true rfl, Nat.le_of_ble_eq_true rfl⟩) hw hA (fun v_53  H locs hp_v_53 hw => ?_)
        have r_v_53 : RI v_53 0 1 := hp_v_53.1
        refine lv_if_ne (tgt := 30) hx hb dX10_readSaid_21 (by decide) (fun c_21 => ?_) (fun c_21 => ?_)
        · have r_v_53 : RI v_53 1 1 := rc_neL r_v_53 rl_0 (ti_ne c_21) (by decide)
          exact B30 x1 x2 z0_47 ws _ _ ls r_x1 (r_x2.to (by decide)) r_z0_47 m_z0_47 x_SN_p0_gd_gh_gg hw hl
        · have r_v_53 : RI v_53 0 0 := rc_eq1 r_v_53 rl_0 (ti_eq c_21) (by decide)
          obtain ⟨v_54, e_v_54⟩ : ∃ q9 : Int32, q9 = x2 + Int32.ofInt 1 := ⟨_, rfl⟩
          obtain ⟨t_v_54, r_v_54⟩ := tq_add (lo := 19) (hi := 28) r_x2 (show RI (Int32.ofInt 1) 1 1 by unfold RI; decide +kernel) (by decide +kernel) e_v_54
          have t_v_54 : v_54.toInt = x2.toInt + 1 := t_v_54
          refine lv_iinc (v := v_54) (lv' := [(2, .int v_54), (0, .ref p0), (1, .int x1)]) hx hb dX10_readSaid_24 hl (k := 2) rfl e_v_54.symm (by decide) rfl (fun ls hl => ?_)
          refine lv_goto (tgt := 10) hx hb dX10_readSaid_27 (by decide) ?_
          exact ih10 x1 v_54 z0_47 ws _ _ ls (by have q0 := r_v_54.1; have u0 := r_v_54.2; have o0 := r_x2.1; have p0 := r_x2.2; omega) r_x1 (r_v_54.to (by decide)) r_z0_47 m_z0_47 x_SN_p0_gd_gh_gg hw (lv_sub hl [1, 2, 0] rfl)
  refine lv_aload_n hx hb dX10_readSaid_0 rfl (lv_at hl 0 rfl) ?_
  refine lv_bipush (v := 40) hx hb dX10_readSaid_1 (by decide) ?_
  refine tk_ir (va_runV (As := [.int 40]) (rest := []) ⟨hx, hb, hml, hown, hts⟩ (c_X10_isSign l D cy z s.heap.size Ps w0 hw.1 p0 40 h_p0 (rl_40.to (by decide))) (cwV 1 hts (gV tw_1413 tw_1415 ts_63 tw_15 tw_1416) rfl rfl rfl (by decide +kernel) ⟨Nat.le_of_ble_eq_true rfl, Nat.le_of_ble_eq_true rfl⟩) (tg_preV hw hK hSD hA (ci := 10) (q := (RX10, TX10, 49)) rfl h_p0 rfl) rfl rfl hl.1 rfl (lv_room (Nat.le_of_ble_eq_true rfl)) dX10_readSaid_3 ⟨Nat.le_of_ble_eq_true rfl, Nat.le_of_ble_eq_true rfl⟩) hw hA (fun v_55  H locs hp_v_55 hw => ?_)
  have r_v_55 : RI v_55 0 1 := hp_v_55.1
  by_cases c9_v_55 : v_55 = 0
  · have r_v_55 : RI v_55 0 0 := by rw [c9_v_55]; exact rl_0
    refine lv_istore_n (lv' := [(1, .int v_55), (0, .ref p0)]) hx hb dX10_readSaid_6 rfl hl (by decide) rfl (fun ls hl => ?_)
    refine lv_bipush (v := 18) hx hb dX10_readSaid_7 (by decide) ?_
    refine lv_istore_n (lv' := [(2, .int 18), (1, .int v_55), (0, .ref p0)]) hx hb dX10_readSaid_9 rfl hl (by decide) rfl (fun ls hl => ?_)
    exact B10 4294967298 v_55 18 f0_47 w0 _ _ ls (by have q0 := rl_18.1; have u0 := rl_18.2; omega) (r_v_55.to (by decide)) (rl_18.to (by decide)) r_f0_47 m_f0_47 x_SN_p0_gd_gh_gg hw (lv_sub hl [2, 1, 0] rfl)
  · have r_v_55 : RI v_55 1 1 := rc_neL r_v_55 rl_0 (ti_ne c9_v_55) (by decide)
    obtain ⟨v_56, m_v_56, r_v_56⟩ := ((hp_v_55.2.2 c9_v_55).1)
    refine lv_istore_n (lv' := [(1, .int v_55), (0, .ref p0)]) hx hb dX10_readSaid_6 rfl hl (by decide) rfl (fun ls hl => ?_)
    refine lv_bipush (v := 18) hx hb dX10_readSaid_7 (by decide) ?_
    refine lv_istore_n (lv' := [(2, .int 18), (1, .int v_55), (0, .ref p0)]) hx hb dX10_readSaid_9 rfl hl (by decide) rfl (fun ls hl => ?_)
    exact B10 4294967298 v_55 18 f0_47 w0 _ _ ls (by have q0 := rl_18.1; have u0 := rl_18.2; omega) (r_v_55.to (by decide)) (rl_18.to (by decide)) r_f0_47 m_f0_47 x_SN_p0_gd_gh_gg hw (lv_sub hl [2, 1, 0] rfl)
abbrev wr_X10_readAnd__1 : List (Nat × Nat) := [(10, 5), (10, 6), (10, 7), (10, 8), (10, 9), (10, 10), (10, 11), (10, 12), (10, 13), (10, 45), (10, 46), (10, 47), (10, 48)]
abbrev wa_X10_readAnd__1 : List Nat := [54]
set_option maxHeartbeats 4000000 in
set_option maxRecDepth 100000 in
theorem c_X10_readAnd__1 (l : Launch) (D : va_G) (cy : Nat → ClassId) (z : Nat → Nat) (sz : Nat) (Ps : PSI) (w0 : va_W) (hT : HT cy GG Ps w0) (p0 : Nat) (f0_47 : Int32) (gd : Int) (gh : Int) (gg : Int) (h_p0 : (p0, 55) ∈ Ps) (r_f0_47 : RI f0_47 1 1) (m_f0_47 : FLD w0 p0 10 47 (.int f0_47)) (x_SN_p0_gd_gh_gg : SNp w0 p0 (gd) (gh) (gg)) : Met l yX10_readAnd (Cond.code yX10_readAnd cX10_readAnd 2 (some .boolean) :: gT) ({ frames := 33, cells := 0, slots := 0, locals := 6600 } : Room) (va_Pc [.ref p0] (PRE D cy z w0 sz)) (va_Qi (fun (r : Int32) (u : va_W) => (RI r 0 1 ∧ (r = 0 → (∃ v9 : Int32, FLD u p0 10 47 (.int v9) ∧ RI v9 1 1) ∧ True) ∧ (¬ r = 0 → (∃ v9 : Int32, FLD u p0 10 46 (.int v9) ∧ RI v9 1 20) ∧ (∃ v9 : Int32, FLD u p0 10 47 (.int v9) ∧ RI v9 1 1) ∧ (∃ v9 : Int32, FLD u p0 10 48 (.int v9) ∧ RI v9 0 39) ∧ SNT u p0 (gd+1) (gh+1) (gg) ∧ True)) ∧ HT cy GG Ps u ∧ FR wr_X10_readAnd__1 wa_X10_readAnd__1 Ps w0 u) (BB D cy (va_A w0 sz) (fun (u : va_W) => u)) (va_A w0 sz)) 0 0 (va_A w0 sz) := by
  refine Met.ofW (cc := cX10_readAnd) (maxL := 2) (ret := (some .boolean)) (by decide) rfl ?_
  intro p e s m args below meth c s₁ B hml hv
  obtain ⟨rfl, hsz, hP, hK, hD0, hSD⟩ := hv
  have hx := B.exec
  have hb := B.bytes
  have hr := B.returns
  have hlocks := B.notSynchronized
  have hts : ∀ w ∈ gT, w.before _ s = true := fun w h => atoms_spec (ws := Cond.code yX10_readAnd cX10_readAnd 2 (some .boolean) :: gT) B.pre w (List.mem_cons_of_mem _ h)
  have hown : s.vm.findClass RX10 = some m.cls := findClass_of_methodNamed B.named
  subst hsz
  have hD := hD0.self (sz := s.heap.size)
  generalize hAe : va_A w0 s.heap.size = A at hD hSD ⊢
  have hA : ∀ q : Nat, s.heap.size ≤ q → A q := fun q h => by rw [← hAe]; exact Or.inr h
  have hl := lv_entry ([.ref p0]) (n := 2) (Nat.le_of_ble_eq_true rfl)
  rw [lg_entry_eq]
  generalize (lg_sl ([.ref p0]) ++ List.replicate (2 - (lg_sl ([.ref p0])).length) Slot.unset).toArray = ls at hl ⊢
  have hl : lv_has ls 2 [(0, .ref p0)] := hl
  refine nameQ (fun Q hQ => ?_)
  have hw : WD D cy GG A s wr_X10_readAnd__1 wa_X10_readAnd__1 Ps w0 Ps w0 s.heap [] := ⟨hT, hP, hD, va_S.rf, FR.rf, hT.1, [], (List.append_nil _).symm⟩
  have B14 : ∀ (nf : Nat) (x1 : Int32) (z0_46 : Int32) (z0_47 : Int32) (z0_48 : Int32) (gz : Int) (ws : va_W) (H : Heap) (locs : List Loc) (ls : Array Slot), 21 - gz < (nf : Int) → RI x1 0 39 → RI z0_46 1 20 → FLD ws p0 10 46 (.int z0_46) → RI z0_47 1 1 → FLD ws p0 10 47 (.int z0_47) → RI z0_48 0 39 → FLD ws p0 10 48 (.int z0_48) → (SNL ws p0 (gd+1) (gz) (gg) x1 ∧ gh + 1 ≤ gz) → WD D cy GG A s wr_X10_readAnd__1 wa_X10_readAnd__1 Ps w0 Ps ws H locs → lv_has ls 2 [(0, .ref p0), (1, .int x1)] → W p l e (headSpec (Cond.code yX10_readAnd cX10_readAnd 2 (some .boolean) :: gT) ({ frames := 33, cells := 0, slots := 0, locals := 6600 } : Room)).room s m ([.ref p0] : List Value).toArray below meth c H locs 0 0 Q (F0 m 14 ls []) := by
    intro nf14
    induction nf14 with
    | zero =>
      intro x1 z0_46 z0_47 z0_48 gz ws H locs ls hn14 r_x1 r_z0_46 m_z0_46 r_z0_47 m_z0_47 r_z0_48 m_z0_48 x_SNW_p0_gd_1_gz_gg__1 hw hl
      exact absurd hn14 (by have q9 := SNL.le x_SNW_p0_gd_1_gz_gg__1.1; omega)
    | succ nf14 ih14 =>
      intro x1 z0_46 z0_47 z0_48 gz ws H locs ls hn14 r_x1 r_z0_46 m_z0_46 r_z0_47 m_z0_47 r_z0_48 m_z0_48 x_SNW_p0_gd_1_gz_gg__1 hw hl
      refine lv_aload_n hx hb dX10_readAnd_14 rfl (lv_at hl 0 rfl) ?_
      refine lv_bipush (v := 17) hx hb dX10_readAnd_15 (by decide) ?_
      refine tk_ir (va_runV (As := [.int 17]) (rest := []) ⟨hx, hb, hml, hown, hts⟩ (c_X10_isWord l D cy z H.size Ps ws hw.1 p0 17 h_p0 (rl_17.to (by decide))) (cwV 1 hts (gV tw_1318 tw_1320 ts_43 tw_15 tw_1321) rfl rfl rfl (by decide +kernel) ⟨Nat.le_of_ble_eq_true rfl, Nat.le_of_ble_eq_true rfl⟩) (tg_preV hw hK hSD hA (ci := 10) (q := (RX10, TX10, 49)) rfl h_p0 rfl) rfl rfl hl.1 rfl (lv_room (Nat.le_of_ble_eq_true rfl)) dX10_readAnd_17 ⟨Nat.le_of_ble_eq_true rfl, Nat.le_of_ble_eq_true rfl⟩) hw hA (fun v_1  H locs hp_v_1 hw => ?_)
      have r_v_1 : RI v_1 0 1 := hp_v_1.1
      refine lv_if_eq (tgt := 51) hx hb dX10_readAnd_20 (by decide) (fun c_20 => ?_) (fun c_20 => ?_)
      · have r_v_1 : RI v_1 0 0 := rc_eq1 r_v_1 rl_0 (ti_eq c_20) (by decide)
        refine lv_aload_n hx hb dX10_readAnd_51 rfl (lv_at hl 0 rfl) ?_
        refine lv_iload_n hx hb dX10_readAnd_52 rfl (lv_at hl 1 rfl) ?_
        refine tg_put (ci := 10) (ts := ty_MODEL) (v := .int x1) (ty := .int) (C := RX10) (T := TX10) (N := 49) hx hb hts inX10 tyX10 tyX10_ok nmX10 hown hK hw h_p0 rfl rfl 48 (by decide) (hts _ tw_1185) (fun _ h9 => h9) rfl (by decide +kernel) rfl rfl (ft := vI (-2147483648) 2147483647) rfl ⟨_, rfl, (r_x1.to (by decide))⟩ (by decide) dX10_readAnd_53 (fun ws H locs hw n_k_2 hF9 => ?_)
        have m_z0_46 := FLD.over hF9 m_z0_46 (by decide)
        have m_z0_47 := FLD.over hF9 m_z0_47 (by decide)
        have x_SNW_p0_gd_1_gz_gg__1 := SNW.over hF9 x_SNW_p0_gd_1_gz_gg__1 (by decide)
        have f6 := SNL.le x_SNW_p0_gd_1_gz_gg__1.1
        have f7 := x_SNW_p0_gd_1_gz_gg__1.2
        have x_SNT_p0_gd_1_gh_1_gg : SNT ws p0 (gd+1) (gh+1) (gg) := (SNL.snt x_SNW_p0_gd_1_gz_gg__1.1 n_k_2).weak (by have d_8 := SNp.le x_SN_p0_gd_gh_gg; omega)
        refine lv_iconst (v := 1) hx hb dX10_readAnd_56 (by decide) ?_
        subst hQ
        exact W.zret (v := 1) hx hb hr (rfl) (fun t ht hW => ⟨⟨1, ws, rfl, ⟨⟨rl_1.to (by decide), (fun h0 => absurd h0 (by decide)), (fun h0 => ⟨⟨_, m_z0_46, r_z0_46⟩, ⟨_, m_z0_47, r_z0_47⟩, ⟨_, n_k_2, r_x1⟩, x_SNT_p0_gd_1_gh_1_gg, trivial⟩)⟩, hw.1, hw.2.2.2.2.1⟩, by rw [ht]; exact hw.2.1, va_K.moved hW.alike hK, hw.2.2.1⟩, hw.2.2.2.1.F ht⟩) hw.2.2.2.1.2.2 dX10_readAnd_57
      · have r_v_1 : RI v_1 1 1 := rc_neL r_v_1 rl_0 (ti_ne c_20) (by decide)
        refine lv_aload_n hx hb dX10_readAnd_23 rfl (lv_at hl 0 rfl) ?_
        refine tk_v (va_runV (As := []) (rest := []) ⟨hx, hb, hml, hown, hts⟩ (c_X10_go l D cy z H.size Ps ws hw.1 p0 h_p0) (cwV 0 hts (gV tw_1298 tw_1300 ts_40 tw_15 tw_1301) rfl rfl rfl (by decide +kernel) ⟨Nat.le_of_ble_eq_true rfl, Nat.le_of_ble_eq_true rfl⟩) (tg_preV hw hK hSD hA (ci := 10) (q := (RX10, TX10, 49)) rfl h_p0 rfl) rfl rfl hl.1 rfl (lv_room (Nat.le_of_ble_eq_true rfl)) dX10_readAnd_24 ⟨Nat.le_of_ble_eq_true rfl, Nat.le_of_ble_eq_true rfl⟩) hw hA ⟨by decide, by decide⟩ (fun ws H locs hp_v_3 hw hF9 => ?_)
        have m_z0_46 := FLD.over hF9 m_z0_46 (by decide)
        have m_z0_47 := FLD.over hF9 m_z0_47 (by decide)
        have m_z0_48 := FLD.over hF9 m_z0_48 (by decide)
        have x_SNW_p0_gd_1_gz_gg__1 := SNW.over hF9 x_SNW_p0_gd_1_gz_gg__1 (by decide)
        refine lv_aload_n hx hb dX10_readAnd_27 rfl (lv_at hl 0 rfl) ?_
        have f9 := SNL.sn x_SNW_p0_gd_1_gz_gg__1.1
        have f8 := f9.2
        have f7 := x_SNW_p0_gd_1_gz_gg__1.2
        have f6 := SNL.le x_SNW_p0_gd_1_gz_gg__1.1
        have x_SN_p0_gd_1_gz_max_gg__Int32_toInt_x1___1_ : SNp ws p0 (gd+1) (gz) (max gg (Int32.toInt x1 + 1)) := f9.1
        refine tk_i (va_runV (As := []) (rest := []) ⟨hx, hb, hml, hown, hts⟩ (c_X10_readSaid__1 l D cy z H.size Ps ws hw.1 p0 z0_47 (gd+1) (gz) (max gg (Int32.toInt x1 + 1)) h_p0 r_z0_47 m_z0_47 x_SN_p0_gd_1_gz_max_gg__Int32_toInt_x1___1_) (cwV 0 hts (gV tw_1759 tw_1761 ts_113 tw_15 tw_1762) rfl rfl rfl (by decide +kernel) ⟨Nat.le_of_ble_eq_true rfl, Nat.le_of_ble_eq_true rfl⟩) (tg_preV hw hK hSD hA (ci := 10) (q := (RX10, TX10, 49)) rfl h_p0 rfl) rfl rfl hl.1 rfl (lv_room (Nat.le_of_ble_eq_true rfl)) dX10_readAnd_28 ⟨Nat.le_of_ble_eq_true rfl, Nat.le_of_ble_eq_true rfl⟩) hw hA ⟨by decide, by decide⟩ (fun v_4 ws H locs hp_v_4 hw hF9 => ?_)
        have r_v_4 : RI v_4 0 1 := hp_v_4.1
        by_cases c9_v_4 : v_4 = 0
        · have r_v_4 : RI v_4 0 0 := by rw [c9_v_4]; exact rl_0
          obtain ⟨v_5, m_v_5, r_v_5⟩ := ((hp_v_4.2.1 c9_v_4).1)
          refine lv_if_ne (tgt := 36) hx hb dX10_readAnd_31 (by decide) (fun c_31 => ?_) (fun c_31 => ?_)
          · exact absurd (r_v_4.eq.trans rl_0.eq.symm) ((ti_ne c_31))
          · refine lv_iconst (v := 0) hx hb dX10_readAnd_34 (by decide) ?_
            subst hQ
            exact W.zret (v := 0) hx hb hr (rfl) (fun t ht hW => ⟨⟨0, ws, rfl, ⟨⟨rl_0.to (by decide), (fun h0 => ⟨⟨_, m_v_5, r_v_5⟩, trivial⟩), (fun h0 => absurd rfl h0)⟩, hw.1, hw.2.2.2.2.1⟩, by rw [ht]; exact hw.2.1, va_K.moved hW.alike hK, hw.2.2.1⟩, hw.2.2.2.1.F ht⟩) hw.2.2.2.1.2.2 dX10_readAnd_35
        · have r_v_4 : RI v_4 1 1 := rc_neL r_v_4 rl_0 (ti_ne c9_v_4) (by decide)
          obtain ⟨v_6, m_v_6, r_v_6⟩ := ((hp_v_4.2.2 c9_v_4).1)
          obtain ⟨v_7, m_v_7, r_v_7⟩ := ((hp_v_4.2.2 c9_v_4).2.1)
          obtain ⟨v_8, m_v_8, r_v_8⟩ := ((hp_v_4.2.2 c9_v_4).2.2.1)
          have x_SNT_p0_gd_2_gz_1_max_gg__Int32_toInt_x1___1_ := ((hp_v_4.2.2 c9_v_4).2.2.2.1)
          refine lv_if_ne (tgt := 36) hx hb dX10_readAnd_31 (by decide) (fun c_31 => ?_) (fun c_31 => ?_)
          · refine lv_aload_n hx hb dX10_readAnd_36 rfl (lv_at hl 0 rfl) ?_
            refine lv_iconst (v := 2) hx hb dX10_readAnd_37 (by decide) ?_
            refine lv_iload_n hx hb dX10_readAnd_38 rfl (lv_at hl 1 rfl) ?_
            refine lv_aload_n hx hb dX10_readAnd_39 rfl (lv_at hl 0 rfl) ?_
            refine tg_mem (ci := 10) (C := RX10) (T := TX10) (N := 49) hx hb hts inX10 hown hK hw 48 m_v_7 rfl (by decide) (hts _ tw_1185) (fun _ h9 => h9) dX10_readAnd_40 ?_
            refine lv_iconst (v := 0) hx hb dX10_readAnd_43 (by decide) ?_
            have l9 := SNT.top hw x_SNT_p0_gd_2_gz_1_max_gg__Int32_toInt_x1___1_ m_v_7
            have l8 := SNT.sn x_SNT_p0_gd_2_gz_1_max_gg__Int32_toInt_x1___1_
            have x_SNI_p0_gd_1_gz_1_gg : SNI ws p0 (gd+1) (gz+1) (gg) := SNp.sni l8 (by have d_8 := SNp.le x_SN_p0_gd_gh_gg; omega)
            have x_LTN_p0_x1 : LTN ws p0 (x1) := SNp.ltn l8 f8
            have x_LTN_p0_v_7 : LTN ws p0 (v_7) := l9.ltn
            refine tk_i (va_runV (As := [.int 2, .int x1, .int v_7, .int 0]) (rest := []) ⟨hx, hb, hml, hown, hts⟩ (c_X10_saysOne__1 l D cy z H.size Ps ws hw.1 p0 2 x1 v_7 0 (gd+1) (gz+1) (gg) h_p0 (rl_2.to (by decide)) (r_x1.to (by decide)) (r_v_7.to (by decide)) (rl_0.to (by decide)) x_SNI_p0_gd_1_gz_1_gg x_LTN_p0_x1 x_LTN_p0_v_7) (cwV 4 hts (gV tw_1771 tw_1773 ts_116 tw_15 tw_1774) rfl rfl rfl (by decide +kernel) ⟨Nat.le_of_ble_eq_true rfl, Nat.le_of_ble_eq_true rfl⟩) (tg_preV hw hK hSD hA (ci := 10) (q := (RX10, TX10, 49)) rfl h_p0 rfl) rfl rfl hl.1 rfl (lv_room (Nat.le_of_ble_eq_true rfl)) dX10_readAnd_44 ⟨Nat.le_of_ble_eq_true rfl, Nat.le_of_ble_eq_true rfl⟩) hw hA ⟨by decide, by decide⟩ (fun v_9 ws H locs hp_v_9 hw hF9 => ?_)
            have m_v_6 := FLD.over hF9 m_v_6 (by decide)
            have m_v_7 := FLD.over hF9 m_v_7 (by decide)
            have m_v_8 := FLD.over hF9 m_v_8 (by decide)
            have r_v_9 : RI v_9 0 39 := hp_v_9.1
            have x_SNL_p0_gd_1_gz_1_gg_v_9 := hp_v_9.2.2.2.1.1
            refine lv_istore_n (lv' := [(1, .int v_9), (0, .ref p0)]) hx hb dX10_readAnd_47 rfl hl (by decide) rfl (fun ls hl => ?_)
            refine lv_goto (tgt := 14) hx hb dX10_readAnd_48 (by decide) ?_
            have x_SNW_p0_gd_1_gz_1_gg_v_9 : (SNL ws p0 (gd+1) (gz+1) (gg) v_9 ∧ gh + 1 ≤ gz+1) := ⟨x_SNL_p0_gd_1_gz_1_gg_v_9, by omega⟩
            exact ih14 v_9 v_6 v_8 v_7 (gz+1) ws _ _ ls (by have d_8 := SNp.le x_SN_p0_gd_gh_gg; omega) r_v_9 r_v_6 m_v_6 r_v_8 m_v_8 r_v_7 m_v_7 x_SNW_p0_gd_1_gz_1_gg_v_9 hw (lv_sub hl [1, 0] rfl)
          · have r_v_4 : RI v_4 1 0 := rc_eq1 r_v_4 rl_0 (ti_eq c_31) (by decide)
            exact (r_v_4.no (by decide)).elim
  refine lv_aload_n hx hb dX10_readAnd_0 rfl (lv_at hl 0 rfl) ?_
  refine tk_i (va_runV (As := []) (rest := []) ⟨hx, hb, hml, hown, hts⟩ (c_X10_readSaid__1 l D cy z s.heap.size Ps w0 hw.1 p0 f0_47 (gd) (gh) (gg) h_p0 r_f0_47 m_f0_47 x_SN_p0_gd_gh_gg) (cwV 0 hts (gV tw_1759 tw_1761 ts_113 tw_15 tw_1762) rfl rfl rfl (by decide +kernel) ⟨Nat.le_of_ble_eq_true rfl, Nat.le_of_ble_eq_true rfl⟩) (tg_preV hw hK hSD hA (ci := 10) (q := (RX10, TX10, 49)) rfl h_p0 rfl) rfl rfl hl.1 rfl (lv_room (Nat.le_of_ble_eq_true rfl)) dX10_readAnd_1 ⟨Nat.le_of_ble_eq_true rfl, Nat.le_of_ble_eq_true rfl⟩) hw hA ⟨by decide, by decide⟩ (fun v_10 ws H locs hp_v_10 hw hF9 => ?_)
  have r_v_10 : RI v_10 0 1 := hp_v_10.1
  by_cases c9_v_10 : v_10 = 0
  · have r_v_10 : RI v_10 0 0 := by rw [c9_v_10]; exact rl_0
    obtain ⟨v_11, m_v_11, r_v_11⟩ := ((hp_v_10.2.1 c9_v_10).1)
    refine lv_if_ne (tgt := 9) hx hb dX10_readAnd_4 (by decide) (fun c_4 => ?_) (fun c_4 => ?_)
    · exact absurd (r_v_10.eq.trans rl_0.eq.symm) ((ti_ne c_4))
    · refine lv_iconst (v := 0) hx hb dX10_readAnd_7 (by decide) ?_
      subst hQ
      exact W.zret (v := 0) hx hb hr (rfl) (fun t ht hW => ⟨⟨0, ws, rfl, ⟨⟨rl_0.to (by decide), (fun h0 => ⟨⟨_, m_v_11, r_v_11⟩, trivial⟩), (fun h0 => absurd rfl h0)⟩, hw.1, hw.2.2.2.2.1⟩, by rw [ht]; exact hw.2.1, va_K.moved hW.alike hK, hw.2.2.1⟩, hw.2.2.2.1.F ht⟩) hw.2.2.2.1.2.2 dX10_readAnd_8
  · have r_v_10 : RI v_10 1 1 := rc_neL r_v_10 rl_0 (ti_ne c9_v_10) (by decide)
    obtain ⟨v_12, m_v_12, r_v_12⟩ := ((hp_v_10.2.2 c9_v_10).1)
    obtain ⟨v_13, m_v_13, r_v_13⟩ := ((hp_v_10.2.2 c9_v_10).2.1)
    obtain ⟨v_14, m_v_14, r_v_14⟩ := ((hp_v_10.2.2 c9_v_10).2.2.1)
    have x_SNT_p0_gd_1_gh_1_gg := ((hp_v_10.2.2 c9_v_10).2.2.2.1)
    refine lv_if_ne (tgt := 9) hx hb dX10_readAnd_4 (by decide) (fun c_4 => ?_) (fun c_4 => ?_)
    · refine lv_aload_n hx hb dX10_readAnd_9 rfl (lv_at hl 0 rfl) ?_
      refine tg_mem (ci := 10) (C := RX10) (T := TX10) (N := 49) hx hb hts inX10 hown hK hw 48 m_v_13 rfl (by decide) (hts _ tw_1185) (fun _ h9 => h9) dX10_readAnd_10 ?_
      refine lv_istore_n (lv' := [(1, .int v_13), (0, .ref p0)]) hx hb dX10_readAnd_13 rfl hl (by decide) rfl (fun ls hl => ?_)
      have x_SNW_p0_gd_1_gh_1_gg_v_13 : (SNL ws p0 (gd+1) (gh+1) (gg) v_13 ∧ gh + 1 ≤ gh+1) := ⟨SNT.top hw x_SNT_p0_gd_1_gh_1_gg m_v_13, by omega⟩
      exact B14 4294967298 v_13 v_12 v_14 v_13 (gh+1) ws _ _ ls (by have d_8 := SNp.le x_SN_p0_gd_gh_gg; omega) r_v_13 r_v_12 m_v_12 r_v_14 m_v_14 r_v_13 m_v_13 x_SNW_p0_gd_1_gh_1_gg_v_13 hw (lv_sub hl [1, 0] rfl)
    · have r_v_10 : RI v_10 1 0 := rc_eq1 r_v_10 rl_0 (ti_eq c_4) (by decide)
      exact (r_v_10.no (by decide)).elim
abbrev wr_X10_readOr__1 : List (Nat × Nat) := [(10, 5), (10, 6), (10, 7), (10, 8), (10, 9), (10, 10), (10, 11), (10, 12), (10, 13), (10, 45), (10, 46), (10, 47), (10, 48)]
abbrev wa_X10_readOr__1 : List Nat := [54]
set_option maxHeartbeats 4000000 in
set_option maxRecDepth 100000 in
theorem c_X10_readOr__1 (l : Launch) (D : va_G) (cy : Nat → ClassId) (z : Nat → Nat) (sz : Nat) (Ps : PSI) (w0 : va_W) (hT : HT cy GG Ps w0) (p0 : Nat) (f0_47 : Int32) (gd : Int) (gh : Int) (gg : Int) (h_p0 : (p0, 55) ∈ Ps) (r_f0_47 : RI f0_47 1 1) (m_f0_47 : FLD w0 p0 10 47 (.int f0_47)) (x_SN_p0_gd_gh_gg : SNp w0 p0 (gd) (gh) (gg)) : Met l yX10_readOr (Cond.code yX10_readOr cX10_readOr 2 (some .boolean) :: gT) ({ frames := 34, cells := 0, slots := 0, locals := 6800 } : Room) (va_Pc [.ref p0] (PRE D cy z w0 sz)) (va_Qi (fun (r : Int32) (u : va_W) => (RI r 0 1 ∧ (r = 0 → (∃ v9 : Int32, FLD u p0 10 47 (.int v9) ∧ RI v9 1 1) ∧ True) ∧ (¬ r = 0 → (∃ v9 : Int32, FLD u p0 10 46 (.int v9) ∧ RI v9 1 20) ∧ (∃ v9 : Int32, FLD u p0 10 47 (.int v9) ∧ RI v9 1 1) ∧ (∃ v9 : Int32, FLD u p0 10 48 (.int v9) ∧ RI v9 0 39) ∧ SNT u p0 (gd+1) (gh+1) (gg) ∧ True)) ∧ HT cy GG Ps u ∧ FR wr_X10_readOr__1 wa_X10_readOr__1 Ps w0 u) (BB D cy (va_A w0 sz) (fun (u : va_W) => u)) (va_A w0 sz)) 0 0 (va_A w0 sz) := by
  refine Met.ofW (cc := cX10_readOr) (maxL := 2) (ret := (some .boolean)) (by decide) rfl ?_
  intro p e s m args below meth c s₁ B hml hv
  obtain ⟨rfl, hsz, hP, hK, hD0, hSD⟩ := hv
  have hx := B.exec
  have hb := B.bytes
  have hr := B.returns
  have hlocks := B.notSynchronized
  have hts : ∀ w ∈ gT, w.before _ s = true := fun w h => atoms_spec (ws := Cond.code yX10_readOr cX10_readOr 2 (some .boolean) :: gT) B.pre w (List.mem_cons_of_mem _ h)
  have hown : s.vm.findClass RX10 = some m.cls := findClass_of_methodNamed B.named
  subst hsz
  have hD := hD0.self (sz := s.heap.size)
  generalize hAe : va_A w0 s.heap.size = A at hD hSD ⊢
  have hA : ∀ q : Nat, s.heap.size ≤ q → A q := fun q h => by rw [← hAe]; exact Or.inr h
  have hl := lv_entry ([.ref p0]) (n := 2) (Nat.le_of_ble_eq_true rfl)
  rw [lg_entry_eq]
  generalize (lg_sl ([.ref p0]) ++ List.replicate (2 - (lg_sl ([.ref p0])).length) Slot.unset).toArray = ls at hl ⊢
  have hl : lv_has ls 2 [(0, .ref p0)] := hl
  refine nameQ (fun Q hQ => ?_)
  have hw : WD D cy GG A s wr_X10_readOr__1 wa_X10_readOr__1 Ps w0 Ps w0 s.heap [] := ⟨hT, hP, hD, va_S.rf, FR.rf, hT.1, [], (List.append_nil _).symm⟩
  have B14 : ∀ (nf : Nat) (x1 : Int32) (z0_46 : Int32) (z0_47 : Int32) (z0_48 : Int32) (gz : Int) (ws : va_W) (H : Heap) (locs : List Loc) (ls : Array Slot), 21 - gz < (nf : Int) → RI x1 0 39 → RI z0_46 1 20 → FLD ws p0 10 46 (.int z0_46) → RI z0_47 1 1 → FLD ws p0 10 47 (.int z0_47) → RI z0_48 0 39 → FLD ws p0 10 48 (.int z0_48) → (SNL ws p0 (gd+1) (gz) (gg) x1 ∧ gh + 1 ≤ gz) → WD D cy GG A s wr_X10_readOr__1 wa_X10_readOr__1 Ps w0 Ps ws H locs → lv_has ls 2 [(0, .ref p0), (1, .int x1)] → W p l e (headSpec (Cond.code yX10_readOr cX10_readOr 2 (some .boolean) :: gT) ({ frames := 34, cells := 0, slots := 0, locals := 6800 } : Room)).room s m ([.ref p0] : List Value).toArray below meth c H locs 0 0 Q (F0 m 14 ls []) := by
    intro nf14
    induction nf14 with
    | zero =>
      intro x1 z0_46 z0_47 z0_48 gz ws H locs ls hn14 r_x1 r_z0_46 m_z0_46 r_z0_47 m_z0_47 r_z0_48 m_z0_48 x_SNW_p0_gd_1_gz_gg__1 hw hl
      exact absurd hn14 (by have q9 := SNL.le x_SNW_p0_gd_1_gz_gg__1.1; omega)
    | succ nf14 ih14 =>
      intro x1 z0_46 z0_47 z0_48 gz ws H locs ls hn14 r_x1 r_z0_46 m_z0_46 r_z0_47 m_z0_47 r_z0_48 m_z0_48 x_SNW_p0_gd_1_gz_gg__1 hw hl
      refine lv_aload_n hx hb dX10_readOr_14 rfl (lv_at hl 0 rfl) ?_
      refine lv_bipush (v := 16) hx hb dX10_readOr_15 (by decide) ?_
      refine tk_ir (va_runV (As := [.int 16]) (rest := []) ⟨hx, hb, hml, hown, hts⟩ (c_X10_isWord l D cy z H.size Ps ws hw.1 p0 16 h_p0 (rl_16.to (by decide))) (cwV 1 hts (gV tw_1318 tw_1320 ts_43 tw_15 tw_1321) rfl rfl rfl (by decide +kernel) ⟨Nat.le_of_ble_eq_true rfl, Nat.le_of_ble_eq_true rfl⟩) (tg_preV hw hK hSD hA (ci := 10) (q := (RX10, TX10, 49)) rfl h_p0 rfl) rfl rfl hl.1 rfl (lv_room (Nat.le_of_ble_eq_true rfl)) dX10_readOr_17 ⟨Nat.le_of_ble_eq_true rfl, Nat.le_of_ble_eq_true rfl⟩) hw hA (fun v_1  H locs hp_v_1 hw => ?_)
      have r_v_1 : RI v_1 0 1 := hp_v_1.1
      refine lv_if_eq (tgt := 51) hx hb dX10_readOr_20 (by decide) (fun c_20 => ?_) (fun c_20 => ?_)
      · have r_v_1 : RI v_1 0 0 := rc_eq1 r_v_1 rl_0 (ti_eq c_20) (by decide)
        refine lv_aload_n hx hb dX10_readOr_51 rfl (lv_at hl 0 rfl) ?_
        refine lv_iload_n hx hb dX10_readOr_52 rfl (lv_at hl 1 rfl) ?_
        refine tg_put (ci := 10) (ts := ty_MODEL) (v := .int x1) (ty := .int) (C := RX10) (T := TX10) (N := 49) hx hb hts inX10 tyX10 tyX10_ok nmX10 hown hK hw h_p0 rfl rfl 48 (by decide) (hts _ tw_1185) (fun _ h9 => h9) rfl (by decide +kernel) rfl rfl (ft := vI (-2147483648) 2147483647) rfl ⟨_, rfl, (r_x1.to (by decide))⟩ (by decide) dX10_readOr_53 (fun ws H locs hw n_k_2 hF9 => ?_)
        have m_z0_46 := FLD.over hF9 m_z0_46 (by decide)
        have m_z0_47 := FLD.over hF9 m_z0_47 (by decide)
        have x_SNW_p0_gd_1_gz_gg__1 := SNW.over hF9 x_SNW_p0_gd_1_gz_gg__1 (by decide)
        have f6 := SNL.le x_SNW_p0_gd_1_gz_gg__1.1
        have f7 := x_SNW_p0_gd_1_gz_gg__1.2
        have x_SNT_p0_gd_1_gh_1_gg : SNT ws p0 (gd+1) (gh+1) (gg) := (SNL.snt x_SNW_p0_gd_1_gz_gg__1.1 n_k_2).weak (by have d_8 := SNp.le x_SN_p0_gd_gh_gg; omega)
        refine lv_iconst (v := 1) hx hb dX10_readOr_56 (by decide) ?_
        subst hQ
        exact W.zret (v := 1) hx hb hr (rfl) (fun t ht hW => ⟨⟨1, ws, rfl, ⟨⟨rl_1.to (by decide), (fun h0 => absurd h0 (by decide)), (fun h0 => ⟨⟨_, m_z0_46, r_z0_46⟩, ⟨_, m_z0_47, r_z0_47⟩, ⟨_, n_k_2, r_x1⟩, x_SNT_p0_gd_1_gh_1_gg, trivial⟩)⟩, hw.1, hw.2.2.2.2.1⟩, by rw [ht]; exact hw.2.1, va_K.moved hW.alike hK, hw.2.2.1⟩, hw.2.2.2.1.F ht⟩) hw.2.2.2.1.2.2 dX10_readOr_57
      · have r_v_1 : RI v_1 1 1 := rc_neL r_v_1 rl_0 (ti_ne c_20) (by decide)
        refine lv_aload_n hx hb dX10_readOr_23 rfl (lv_at hl 0 rfl) ?_
        refine tk_v (va_runV (As := []) (rest := []) ⟨hx, hb, hml, hown, hts⟩ (c_X10_go l D cy z H.size Ps ws hw.1 p0 h_p0) (cwV 0 hts (gV tw_1298 tw_1300 ts_40 tw_15 tw_1301) rfl rfl rfl (by decide +kernel) ⟨Nat.le_of_ble_eq_true rfl, Nat.le_of_ble_eq_true rfl⟩) (tg_preV hw hK hSD hA (ci := 10) (q := (RX10, TX10, 49)) rfl h_p0 rfl) rfl rfl hl.1 rfl (lv_room (Nat.le_of_ble_eq_true rfl)) dX10_readOr_24 ⟨Nat.le_of_ble_eq_true rfl, Nat.le_of_ble_eq_true rfl⟩) hw hA ⟨by decide, by decide⟩ (fun ws H locs hp_v_3 hw hF9 => ?_)
        have m_z0_46 := FLD.over hF9 m_z0_46 (by decide)
        have m_z0_47 := FLD.over hF9 m_z0_47 (by decide)
        have m_z0_48 := FLD.over hF9 m_z0_48 (by decide)
        have x_SNW_p0_gd_1_gz_gg__1 := SNW.over hF9 x_SNW_p0_gd_1_gz_gg__1 (by decide)
        refine lv_aload_n hx hb dX10_readOr_27 rfl (lv_at hl 0 rfl) ?_
        have f9 := SNL.sn x_SNW_p0_gd_1_gz_gg__1.1
        have f8 := f9.2
        have f7 := x_SNW_p0_gd_1_gz_gg__1.2
        have f6 := SNL.le x_SNW_p0_gd_1_gz_gg__1.1
        have x_SN_p0_gd_1_gz_max_gg__Int32_toInt_x1___1_ : SNp ws p0 (gd+1) (gz) (max gg (Int32.toInt x1 + 1)) := f9.1
        refine tk_i (va_runV (As := []) (rest := []) ⟨hx, hb, hml, hown, hts⟩ (c_X10_readAnd__1 l D cy z H.size Ps ws hw.1 p0 z0_47 (gd+1) (gz) (max gg (Int32.toInt x1 + 1)) h_p0 r_z0_47 m_z0_47 x_SN_p0_gd_1_gz_max_gg__Int32_toInt_x1___1_) (cwV 0 hts (gV tw_1755 tw_1757 ts_112 tw_15 tw_1758) rfl rfl rfl (by decide +kernel) ⟨Nat.le_of_ble_eq_true rfl, Nat.le_of_ble_eq_true rfl⟩) (tg_preV hw hK hSD hA (ci := 10) (q := (RX10, TX10, 49)) rfl h_p0 rfl) rfl rfl hl.1 rfl (lv_room (Nat.le_of_ble_eq_true rfl)) dX10_readOr_28 ⟨Nat.le_of_ble_eq_true rfl, Nat.le_of_ble_eq_true rfl⟩) hw hA ⟨by decide, by decide⟩ (fun v_4 ws H locs hp_v_4 hw hF9 => ?_)
        have r_v_4 : RI v_4 0 1 := hp_v_4.1
        by_cases c9_v_4 : v_4 = 0
        · have r_v_4 : RI v_4 0 0 := by rw [c9_v_4]; exact rl_0
          obtain ⟨v_5, m_v_5, r_v_5⟩ := ((hp_v_4.2.1 c9_v_4).1)
          refine lv_if_ne (tgt := 36) hx hb dX10_readOr_31 (by decide) (fun c_31 => ?_) (fun c_31 => ?_)
          · exact absurd (r_v_4.eq.trans rl_0.eq.symm) ((ti_ne c_31))
          · refine lv_iconst (v := 0) hx hb dX10_readOr_34 (by decide) ?_
            subst hQ
            exact W.zret (v := 0) hx hb hr (rfl) (fun t ht hW => ⟨⟨0, ws, rfl, ⟨⟨rl_0.to (by decide), (fun h0 => ⟨⟨_, m_v_5, r_v_5⟩, trivial⟩), (fun h0 => absurd rfl h0)⟩, hw.1, hw.2.2.2.2.1⟩, by rw [ht]; exact hw.2.1, va_K.moved hW.alike hK, hw.2.2.1⟩, hw.2.2.2.1.F ht⟩) hw.2.2.2.1.2.2 dX10_readOr_35
        · have r_v_4 : RI v_4 1 1 := rc_neL r_v_4 rl_0 (ti_ne c9_v_4) (by decide)
          obtain ⟨v_6, m_v_6, r_v_6⟩ := ((hp_v_4.2.2 c9_v_4).1)
          obtain ⟨v_7, m_v_7, r_v_7⟩ := ((hp_v_4.2.2 c9_v_4).2.1)
          obtain ⟨v_8, m_v_8, r_v_8⟩ := ((hp_v_4.2.2 c9_v_4).2.2.1)
          have x_SNT_p0_gd_2_gz_1_max_gg__Int32_toInt_x1___1_ := ((hp_v_4.2.2 c9_v_4).2.2.2.1)
          refine lv_if_ne (tgt := 36) hx hb dX10_readOr_31 (by decide) (fun c_31 => ?_) (fun c_31 => ?_)
          · refine lv_aload_n hx hb dX10_readOr_36 rfl (lv_at hl 0 rfl) ?_
            refine lv_iconst (v := 3) hx hb dX10_readOr_37 (by decide) ?_
            refine lv_iload_n hx hb dX10_readOr_38 rfl (lv_at hl 1 rfl) ?_
            refine lv_aload_n hx hb dX10_readOr_39 rfl (lv_at hl 0 rfl) ?_
            refine tg_mem (ci := 10) (C := RX10) (T := TX10) (N := 49) hx hb hts inX10 hown hK hw 48 m_v_8 rfl (by decide) (hts _ tw_1185) (fun _ h9 => h9) dX10_readOr_40 ?_
            refine lv_iconst (v := 0) hx hb dX10_readOr_43 (by decide) ?_
            have l9 := SNT.top hw x_SNT_p0_gd_2_gz_1_max_gg__Int32_toInt_x1___1_ m_v_8
            have l8 := SNT.sn x_SNT_p0_gd_2_gz_1_max_gg__Int32_toInt_x1___1_
            have x_SNI_p0_gd_1_gz_1_gg : SNI ws p0 (gd+1) (gz+1) (gg) := SNp.sni l8 (by have d_8 := SNp.le x_SN_p0_gd_gh_gg; omega)
            have x_LTN_p0_x1 : LTN ws p0 (x1) := SNp.ltn l8 f8
            have x_LTN_p0_v_8 : LTN ws p0 (v_8) := l9.ltn
            refine tk_i (va_runV (As := [.int 3, .int x1, .int v_8, .int 0]) (rest := []) ⟨hx, hb, hml, hown, hts⟩ (c_X10_saysOne__1 l D cy z H.size Ps ws hw.1 p0 3 x1 v_8 0 (gd+1) (gz+1) (gg) h_p0 (rl_3.to (by decide)) (r_x1.to (by decide)) (r_v_8.to (by decide)) (rl_0.to (by decide)) x_SNI_p0_gd_1_gz_1_gg x_LTN_p0_x1 x_LTN_p0_v_8) (cwV 4 hts (gV tw_1771 tw_1773 ts_116 tw_15 tw_1774) rfl rfl rfl (by decide +kernel) ⟨Nat.le_of_ble_eq_true rfl, Nat.le_of_ble_eq_true rfl⟩) (tg_preV hw hK hSD hA (ci := 10) (q := (RX10, TX10, 49)) rfl h_p0 rfl) rfl rfl hl.1 rfl (lv_room (Nat.le_of_ble_eq_true rfl)) dX10_readOr_44 ⟨Nat.le_of_ble_eq_true rfl, Nat.le_of_ble_eq_true rfl⟩) hw hA ⟨by decide, by decide⟩ (fun v_9 ws H locs hp_v_9 hw hF9 => ?_)
            have m_v_6 := FLD.over hF9 m_v_6 (by decide)
            have m_v_7 := FLD.over hF9 m_v_7 (by decide)
            have m_v_8 := FLD.over hF9 m_v_8 (by decide)
            have r_v_9 : RI v_9 0 39 := hp_v_9.1
            have x_SNL_p0_gd_1_gz_1_gg_v_9 := hp_v_9.2.2.2.1.1
            refine lv_istore_n (lv' := [(1, .int v_9), (0, .ref p0)]) hx hb dX10_readOr_47 rfl hl (by decide) rfl (fun ls hl => ?_)
            refine lv_goto (tgt := 14) hx hb dX10_readOr_48 (by decide) ?_
            have x_SNW_p0_gd_1_gz_1_gg_v_9 : (SNL ws p0 (gd+1) (gz+1) (gg) v_9 ∧ gh + 1 ≤ gz+1) := ⟨x_SNL_p0_gd_1_gz_1_gg_v_9, by omega⟩
            exact ih14 v_9 v_6 v_7 v_8 (gz+1) ws _ _ ls (by have d_8 := SNp.le x_SN_p0_gd_gh_gg; omega) r_v_9 r_v_6 m_v_6 r_v_7 m_v_7 r_v_8 m_v_8 x_SNW_p0_gd_1_gz_1_gg_v_9 hw (lv_sub hl [1, 0] rfl)
          · have r_v_4 : RI v_4 1 0 := rc_eq1 r_v_4 rl_0 (ti_eq c_31) (by decide)
            exact (r_v_4.no (by decide)).elim
  refine lv_aload_n hx hb dX10_readOr_0 rfl (lv_at hl 0 rfl) ?_
  refine tk_i (va_runV (As := []) (rest := []) ⟨hx, hb, hml, hown, hts⟩ (c_X10_readAnd__1 l D cy z s.heap.size Ps w0 hw.1 p0 f0_47 (gd) (gh) (gg) h_p0 r_f0_47 m_f0_47 x_SN_p0_gd_gh_gg) (cwV 0 hts (gV tw_1755 tw_1757 ts_112 tw_15 tw_1758) rfl rfl rfl (by decide +kernel) ⟨Nat.le_of_ble_eq_true rfl, Nat.le_of_ble_eq_true rfl⟩) (tg_preV hw hK hSD hA (ci := 10) (q := (RX10, TX10, 49)) rfl h_p0 rfl) rfl rfl hl.1 rfl (lv_room (Nat.le_of_ble_eq_true rfl)) dX10_readOr_1 ⟨Nat.le_of_ble_eq_true rfl, Nat.le_of_ble_eq_true rfl⟩) hw hA ⟨by decide, by decide⟩ (fun v_10 ws H locs hp_v_10 hw hF9 => ?_)
  have r_v_10 : RI v_10 0 1 := hp_v_10.1
  by_cases c9_v_10 : v_10 = 0
  · have r_v_10 : RI v_10 0 0 := by rw [c9_v_10]; exact rl_0
    obtain ⟨v_11, m_v_11, r_v_11⟩ := ((hp_v_10.2.1 c9_v_10).1)
    refine lv_if_ne (tgt := 9) hx hb dX10_readOr_4 (by decide) (fun c_4 => ?_) (fun c_4 => ?_)
    · exact absurd (r_v_10.eq.trans rl_0.eq.symm) ((ti_ne c_4))
    · refine lv_iconst (v := 0) hx hb dX10_readOr_7 (by decide) ?_
      subst hQ
      exact W.zret (v := 0) hx hb hr (rfl) (fun t ht hW => ⟨⟨0, ws, rfl, ⟨⟨rl_0.to (by decide), (fun h0 => ⟨⟨_, m_v_11, r_v_11⟩, trivial⟩), (fun h0 => absurd rfl h0)⟩, hw.1, hw.2.2.2.2.1⟩, by rw [ht]; exact hw.2.1, va_K.moved hW.alike hK, hw.2.2.1⟩, hw.2.2.2.1.F ht⟩) hw.2.2.2.1.2.2 dX10_readOr_8
  · have r_v_10 : RI v_10 1 1 := rc_neL r_v_10 rl_0 (ti_ne c9_v_10) (by decide)
    obtain ⟨v_12, m_v_12, r_v_12⟩ := ((hp_v_10.2.2 c9_v_10).1)
    obtain ⟨v_13, m_v_13, r_v_13⟩ := ((hp_v_10.2.2 c9_v_10).2.1)
    obtain ⟨v_14, m_v_14, r_v_14⟩ := ((hp_v_10.2.2 c9_v_10).2.2.1)
    have x_SNT_p0_gd_1_gh_1_gg := ((hp_v_10.2.2 c9_v_10).2.2.2.1)
    refine lv_if_ne (tgt := 9) hx hb dX10_readOr_4 (by decide) (fun c_4 => ?_) (fun c_4 => ?_)
    · refine lv_aload_n hx hb dX10_readOr_9 rfl (lv_at hl 0 rfl) ?_
      refine tg_mem (ci := 10) (C := RX10) (T := TX10) (N := 49) hx hb hts inX10 hown hK hw 48 m_v_14 rfl (by decide) (hts _ tw_1185) (fun _ h9 => h9) dX10_readOr_10 ?_
      refine lv_istore_n (lv' := [(1, .int v_14), (0, .ref p0)]) hx hb dX10_readOr_13 rfl hl (by decide) rfl (fun ls hl => ?_)
      have x_SNW_p0_gd_1_gh_1_gg_v_14 : (SNL ws p0 (gd+1) (gh+1) (gg) v_14 ∧ gh + 1 ≤ gh+1) := ⟨SNT.top hw x_SNT_p0_gd_1_gh_1_gg m_v_14, by omega⟩
      exact B14 4294967298 v_14 v_12 v_13 v_14 (gh+1) ws _ _ ls (by have d_8 := SNp.le x_SN_p0_gd_gh_gg; omega) r_v_14 r_v_12 m_v_12 r_v_13 m_v_13 r_v_14 m_v_14 x_SNW_p0_gd_1_gh_1_gg_v_14 hw (lv_sub hl [1, 0] rfl)
    · have r_v_10 : RI v_10 1 0 := rc_eq1 r_v_10 rl_0 (ti_eq c_4) (by decide)
      exact (r_v_10.no (by decide)).elim
abbrev wr_X10_readBracket : List (Nat × Nat) := [(10, 5), (10, 6), (10, 7), (10, 8), (10, 9), (10, 10), (10, 11), (10, 12), (10, 13), (10, 45), (10, 46), (10, 47), (10, 48)]
abbrev wa_X10_readBracket : List Nat := [54]
set_option maxHeartbeats 4000000 in
set_option maxRecDepth 100000 in
theorem c_X10_readBracket (l : Launch) (D : va_G) (cy : Nat → ClassId) (z : Nat → Nat) (sz : Nat) (Ps : PSI) (w0 : va_W) (hT : HT cy GG Ps w0) (p0 : Nat) (f0_47 : Int32) (gd : Int) (gh : Int) (gg : Int) (h_p0 : (p0, 55) ∈ Ps) (r_f0_47 : RI f0_47 1 1) (m_f0_47 : FLD w0 p0 10 47 (.int f0_47)) (x_SNI_p0_gd_gh_gg : SNI w0 p0 (gd) (gh) (gg)) : Met l yX10_readBracket (Cond.code yX10_readBracket cX10_readBracket 1 (some .boolean) :: gT) ({ frames := 35, cells := 0, slots := 0, locals := 7000 } : Room) (va_Pc [.ref p0] (PRE D cy z w0 sz)) (va_Qi (fun (r : Int32) (u : va_W) => (RI r 0 1 ∧ (r = 0 → (∃ v9 : Int32, FLD u p0 10 47 (.int v9) ∧ RI v9 1 1) ∧ True) ∧ (¬ r = 0 → (∃ v9 : Int32, FLD u p0 10 46 (.int v9) ∧ RI v9 1 20) ∧ (∃ v9 : Int32, FLD u p0 10 47 (.int v9) ∧ RI v9 1 1) ∧ (∃ v9 : Int32, FLD u p0 10 48 (.int v9) ∧ RI v9 0 39) ∧ SNT u p0 (gd) (gh) (gg) ∧ True)) ∧ HT cy GG Ps u ∧ FR wr_X10_readBracket wa_X10_readBracket Ps w0 u) (BB D cy (va_A w0 sz) (fun (u : va_W) => u)) (va_A w0 sz)) 0 0 (va_A w0 sz) := by
  refine Met.ofW (cc := cX10_readBracket) (maxL := 1) (ret := (some .boolean)) (by decide) rfl ?_
  intro p e s m args below meth c s₁ B hml hv
  obtain ⟨rfl, hsz, hP, hK, hD0, hSD⟩ := hv
  have hx := B.exec
  have hb := B.bytes
  have hr := B.returns
  have hlocks := B.notSynchronized
  have hts : ∀ w ∈ gT, w.before _ s = true := fun w h => atoms_spec (ws := Cond.code yX10_readBracket cX10_readBracket 1 (some .boolean) :: gT) B.pre w (List.mem_cons_of_mem _ h)
  have hown : s.vm.findClass RX10 = some m.cls := findClass_of_methodNamed B.named
  subst hsz
  have hD := hD0.self (sz := s.heap.size)
  generalize hAe : va_A w0 s.heap.size = A at hD hSD ⊢
  have hA : ∀ q : Nat, s.heap.size ≤ q → A q := fun q h => by rw [← hAe]; exact Or.inr h
  have hl := lv_entry ([.ref p0]) (n := 1) (Nat.le_of_ble_eq_true rfl)
  rw [lg_entry_eq]
  generalize (lg_sl ([.ref p0]) ++ List.replicate (1 - (lg_sl ([.ref p0])).length) Slot.unset).toArray = ls at hl ⊢
  have hl : lv_has ls 1 [(0, .ref p0)] := hl
  refine nameQ (fun Q hQ => ?_)
  have hw : WD D cy GG A s wr_X10_readBracket wa_X10_readBracket Ps w0 Ps w0 s.heap [] := ⟨hT, hP, hD, va_S.rf, FR.rf, hT.1, [], (List.append_nil _).symm⟩
  refine lv_aload_n hx hb dX10_readBracket_0 rfl (lv_at hl 0 rfl) ?_
  have d_8 := x_SNI_p0_gd_gh_gg.1
  have x_SN_p0_gd_1_gh_gg : SNp w0 p0 (gd+1) (gh) (gg) := x_SNI_p0_gd_gh_gg.2
  refine tk_i (va_runV (As := []) (rest := []) ⟨hx, hb, hml, hown, hts⟩ (c_X10_readOr__1 l D cy z s.heap.size Ps w0 hw.1 p0 f0_47 (gd+1) (gh) (gg) h_p0 r_f0_47 m_f0_47 x_SN_p0_gd_1_gh_gg) (cwV 0 hts (gV tw_1751 tw_1753 ts_111 tw_15 tw_1754) rfl rfl rfl (by decide +kernel) ⟨Nat.le_of_ble_eq_true rfl, Nat.le_of_ble_eq_true rfl⟩) (tg_preV hw hK hSD hA (ci := 10) (q := (RX10, TX10, 49)) rfl h_p0 rfl) rfl rfl hl.1 rfl (lv_room (Nat.le_of_ble_eq_true rfl)) dX10_readBracket_1 ⟨Nat.le_of_ble_eq_true rfl, Nat.le_of_ble_eq_true rfl⟩) hw hA ⟨by decide, by decide⟩ (fun v_1 ws H locs hp_v_1 hw hF9 => ?_)
  have r_v_1 : RI v_1 0 1 := hp_v_1.1
  by_cases c9_v_1 : v_1 = 0
  · have r_v_1 : RI v_1 0 0 := by rw [c9_v_1]; exact rl_0
    obtain ⟨v_2, m_v_2, r_v_2⟩ := ((hp_v_1.2.1 c9_v_1).1)
    refine lv_if_ne (tgt := 9) hx hb dX10_readBracket_4 (by decide) (fun c_4 => ?_) (fun c_4 => ?_)
    · exact absurd (r_v_1.eq.trans rl_0.eq.symm) ((ti_ne c_4))
    · refine lv_iconst (v := 0) hx hb dX10_readBracket_7 (by decide) ?_
      subst hQ
      exact W.zret (v := 0) hx hb hr (rfl) (fun t ht hW => ⟨⟨0, ws, rfl, ⟨⟨rl_0.to (by decide), (fun h0 => ⟨⟨_, m_v_2, r_v_2⟩, trivial⟩), (fun h0 => absurd rfl h0)⟩, hw.1, hw.2.2.2.2.1⟩, by rw [ht]; exact hw.2.1, va_K.moved hW.alike hK, hw.2.2.1⟩, hw.2.2.2.1.F ht⟩) hw.2.2.2.1.2.2 dX10_readBracket_8
  · have r_v_1 : RI v_1 1 1 := rc_neL r_v_1 rl_0 (ti_ne c9_v_1) (by decide)
    obtain ⟨v_3, m_v_3, r_v_3⟩ := ((hp_v_1.2.2 c9_v_1).1)
    obtain ⟨v_4, m_v_4, r_v_4⟩ := ((hp_v_1.2.2 c9_v_1).2.1)
    obtain ⟨v_5, m_v_5, r_v_5⟩ := ((hp_v_1.2.2 c9_v_1).2.2.1)
    have x_SNT_p0_gd_2_gh_1_gg := ((hp_v_1.2.2 c9_v_1).2.2.2.1)
    refine lv_if_ne (tgt := 9) hx hb dX10_readBracket_4 (by decide) (fun c_4 => ?_) (fun c_4 => ?_)
    · refine lv_aload_n hx hb dX10_readBracket_9 rfl (lv_at hl 0 rfl) ?_
      refine lv_bipush (v := 41) hx hb dX10_readBracket_10 (by decide) ?_
      refine tk_ir (va_runV (As := [.int 41]) (rest := []) ⟨hx, hb, hml, hown, hts⟩ (c_X10_isSign l D cy z H.size Ps ws hw.1 p0 41 h_p0 (rl_41.to (by decide))) (cwV 1 hts (gV tw_1413 tw_1415 ts_63 tw_15 tw_1416) rfl rfl rfl (by decide +kernel) ⟨Nat.le_of_ble_eq_true rfl, Nat.le_of_ble_eq_true rfl⟩) (tg_preV hw hK hSD hA (ci := 10) (q := (RX10, TX10, 49)) rfl h_p0 rfl) rfl rfl hl.1 rfl (lv_room (Nat.le_of_ble_eq_true rfl)) dX10_readBracket_12 ⟨Nat.le_of_ble_eq_true rfl, Nat.le_of_ble_eq_true rfl⟩) hw hA (fun v_6  H locs hp_v_6 hw => ?_)
      have r_v_6 : RI v_6 0 1 := hp_v_6.1
      by_cases c9_v_6 : v_6 = 0
      · have r_v_6 : RI v_6 0 0 := by rw [c9_v_6]; exact rl_0
        refine lv_if_ne (tgt := 24) hx hb dX10_readBracket_15 (by decide) (fun c_15 => ?_) (fun c_15 => ?_)
        · exact absurd (r_v_6.eq.trans rl_0.eq.symm) ((ti_ne c_15))
        · refine lv_aload_n hx hb dX10_readBracket_18 rfl (lv_at hl 0 rfl) ?_
          refine lv_iconst (v := 1) hx hb dX10_readBracket_19 (by decide) ?_
          refine tk_i (va_runV (As := [.int 1]) (rest := []) ⟨hx, hb, hml, hown, hts⟩ (c_X10_bad l D cy z H.size Ps ws hw.1 p0 1 h_p0 (rl_1.to (by decide))) (cwV 1 hts (gV tw_1336 tw_1338 ts_46 tw_15 tw_1339) rfl rfl rfl (by decide +kernel) ⟨Nat.le_of_ble_eq_true rfl, Nat.le_of_ble_eq_true rfl⟩) (tg_preV hw hK hSD hA (ci := 10) (q := (RX10, TX10, 49)) rfl h_p0 rfl) rfl rfl hl.1 rfl (lv_room (Nat.le_of_ble_eq_true rfl)) dX10_readBracket_20 ⟨Nat.le_of_ble_eq_true rfl, Nat.le_of_ble_eq_true rfl⟩) hw hA ⟨by decide, by decide⟩ (fun v_7 ws H locs hp_v_7 hw hF9 => ?_)
          have m_v_3 := FLD.over hF9 m_v_3 (by decide)
          have m_v_4 := FLD.over hF9 m_v_4 (by decide)
          have m_v_5 := FLD.over hF9 m_v_5 (by decide)
          have x_SNT_p0_gd_2_gh_1_gg := SNT.over hF9 x_SNT_p0_gd_2_gh_1_gg (by decide)
          have r_v_7 : RI v_7 0 0 := hp_v_7.1
          subst hQ
          exact W.zret (v := v_7) hx hb hr (tq_nz (r_v_7.to (by decide))) (fun t ht hW => ⟨⟨v_7, ws, rfl, ⟨⟨r_v_7.to (by decide), (fun h0 => ⟨⟨_, m_v_4, r_v_4⟩, trivial⟩), (fun h0 => absurd (Int32.toInt_inj.mp (by have h8 := r_v_7; unfold RI at h8; rw [Int32.toInt_zero]; omega)) h0)⟩, hw.1, hw.2.2.2.2.1⟩, by rw [ht]; exact hw.2.1, va_K.moved hW.alike hK, hw.2.2.1⟩, hw.2.2.2.1.F ht⟩) hw.2.2.2.1.2.2 dX10_readBracket_23
      · have r_v_6 : RI v_6 1 1 := rc_neL r_v_6 rl_0 (ti_ne c9_v_6) (by decide)
        obtain ⟨v_8, m_v_8, r_v_8⟩ := ((hp_v_6.2.2 c9_v_6).1)
        refine lv_if_ne (tgt := 24) hx hb dX10_readBracket_15 (by decide) (fun c_15 => ?_) (fun c_15 => ?_)
        · refine lv_aload_n hx hb dX10_readBracket_24 rfl (lv_at hl 0 rfl) ?_
          refine tk_v (va_runV (As := []) (rest := []) ⟨hx, hb, hml, hown, hts⟩ (c_X10_go l D cy z H.size Ps ws hw.1 p0 h_p0) (cwV 0 hts (gV tw_1298 tw_1300 ts_40 tw_15 tw_1301) rfl rfl rfl (by decide +kernel) ⟨Nat.le_of_ble_eq_true rfl, Nat.le_of_ble_eq_true rfl⟩) (tg_preV hw hK hSD hA (ci := 10) (q := (RX10, TX10, 49)) rfl h_p0 rfl) rfl rfl hl.1 rfl (lv_room (Nat.le_of_ble_eq_true rfl)) dX10_readBracket_25 ⟨Nat.le_of_ble_eq_true rfl, Nat.le_of_ble_eq_true rfl⟩) hw hA ⟨by decide, by decide⟩ (fun ws H locs hp_v_9 hw hF9 => ?_)
          have m_v_3 := FLD.over hF9 m_v_3 (by decide)
          have m_v_4 := FLD.over hF9 m_v_4 (by decide)
          have m_v_5 := FLD.over hF9 m_v_5 (by decide)
          have x_SNT_p0_gd_2_gh_1_gg := SNT.over hF9 x_SNT_p0_gd_2_gh_1_gg (by decide)
          have x_SNT_p0_gd_gh_gg : SNT ws p0 (gd) (gh) (gg) := x_SNT_p0_gd_2_gh_1_gg.weak (by have d_8 := SNp.le x_SNI_p0_gd_gh_gg.2; have d_7 := x_SNI_p0_gd_gh_gg.1; omega)
          refine lv_iconst (v := 1) hx hb dX10_readBracket_28 (by decide) ?_
          subst hQ
          exact W.zret (v := 1) hx hb hr (rfl) (fun t ht hW => ⟨⟨1, ws, rfl, ⟨⟨rl_1.to (by decide), (fun h0 => absurd h0 (by decide)), (fun h0 => ⟨⟨_, m_v_3, r_v_3⟩, ⟨_, m_v_4, r_v_4⟩, ⟨_, m_v_5, r_v_5⟩, x_SNT_p0_gd_gh_gg, trivial⟩)⟩, hw.1, hw.2.2.2.2.1⟩, by rw [ht]; exact hw.2.1, va_K.moved hW.alike hK, hw.2.2.1⟩, hw.2.2.2.1.F ht⟩) hw.2.2.2.1.2.2 dX10_readBracket_29
        · have r_v_6 : RI v_6 1 0 := rc_eq1 r_v_6 rl_0 (ti_eq c_15) (by decide)
          exact (r_v_6.no (by decide)).elim
    · have r_v_1 : RI v_1 1 0 := rc_eq1 r_v_1 rl_0 (ti_eq c_4) (by decide)
      exact (r_v_1.no (by decide)).elim
abbrev wr_X10_readNot__7 : List (Nat × Nat) := [(10, 5), (10, 6), (10, 7), (10, 8), (10, 9), (10, 10), (10, 11), (10, 12), (10, 13), (10, 45), (10, 46), (10, 47), (10, 48)]
abbrev wa_X10_readNot__7 : List Nat := [54]
set_option maxHeartbeats 4000000 in
set_option maxRecDepth 100000 in
theorem c_X10_readNot__7 (l : Launch) (D : va_G) (cy : Nat → ClassId) (z : Nat → Nat) (sz : Nat) (Ps : PSI) (w0 : va_W) (hT : HT cy GG Ps w0) (p0 : Nat) (f0_47 : Int32) (gd : Int) (gh : Int) (gg : Int) (h_p0 : (p0, 55) ∈ Ps) (r_f0_47 : RI f0_47 1 1) (m_f0_47 : FLD w0 p0 10 47 (.int f0_47)) (x_SNI_p0_gd_gh_gg : SNI w0 p0 (gd) (gh) (gg)) : Met l yX10_readNot (Cond.code yX10_readNot cX10_readNot 1 (some .boolean) :: gT) ({ frames := 33, cells := 0, slots := 0, locals := 6600 } : Room) (va_Pc [.ref p0] (PRE D cy z w0 sz)) (va_Qi (fun (r : Int32) (u : va_W) => (RI r 0 1 ∧ (r = 0 → (∃ v9 : Int32, FLD u p0 10 47 (.int v9) ∧ RI v9 1 1) ∧ True) ∧ (¬ r = 0 → (∃ v9 : Int32, FLD u p0 10 46 (.int v9) ∧ RI v9 1 20) ∧ (∃ v9 : Int32, FLD u p0 10 47 (.int v9) ∧ RI v9 1 1) ∧ (∃ v9 : Int32, FLD u p0 10 48 (.int v9) ∧ RI v9 0 39) ∧ SNT u p0 (gd) (gh) (gg) ∧ True)) ∧ HT cy GG Ps u ∧ FR wr_X10_readNot__7 wa_X10_readNot__7 Ps w0 u) (BB D cy (va_A w0 sz) (fun (u : va_W) => u)) (va_A w0 sz)) 0 0 (va_A w0 sz) := by
  refine Met.ofW (cc := cX10_readNot) (maxL := 1) (ret := (some .boolean)) (by decide) rfl ?_
  intro p e s m args below meth c s₁ B hml hv
  obtain ⟨rfl, hsz, hP, hK, hD0, hSD⟩ := hv
  have hx := B.exec
  have hb := B.bytes
  have hr := B.returns
  have hlocks := B.notSynchronized
  have hts : ∀ w ∈ gT, w.before _ s = true := fun w h => atoms_spec (ws := Cond.code yX10_readNot cX10_readNot 1 (some .boolean) :: gT) B.pre w (List.mem_cons_of_mem _ h)
  have hown : s.vm.findClass RX10 = some m.cls := findClass_of_methodNamed B.named
  subst hsz
  have hD := hD0.self (sz := s.heap.size)
  generalize hAe : va_A w0 s.heap.size = A at hD hSD ⊢
  have hA : ∀ q : Nat, s.heap.size ≤ q → A q := fun q h => by rw [← hAe]; exact Or.inr h
  have hl := lv_entry ([.ref p0]) (n := 1) (Nat.le_of_ble_eq_true rfl)
  rw [lg_entry_eq]
  generalize (lg_sl ([.ref p0]) ++ List.replicate (1 - (lg_sl ([.ref p0])).length) Slot.unset).toArray = ls at hl ⊢
  have hl : lv_has ls 1 [(0, .ref p0)] := hl
  refine nameQ (fun Q hQ => ?_)
  have hw : WD D cy GG A s wr_X10_readNot__7 wa_X10_readNot__7 Ps w0 Ps w0 s.heap [] := ⟨hT, hP, hD, va_S.rf, FR.rf, hT.1, [], (List.append_nil _).symm⟩
  refine lv_aload_n hx hb dX10_readNot_0 rfl (lv_at hl 0 rfl) ?_
  have x_SN_p0_gd_1_gh_gg : SNp w0 p0 (gd+1) (gh) (gg) := x_SNI_p0_gd_gh_gg.2
  refine tk_i (va_runV (As := []) (rest := []) ⟨hx, hb, hml, hown, hts⟩ (c_X10_readSaid__1 l D cy z s.heap.size Ps w0 hw.1 p0 f0_47 (gd+1) (gh) (gg) h_p0 r_f0_47 m_f0_47 x_SN_p0_gd_1_gh_gg) (cwV 0 hts (gV tw_1759 tw_1761 ts_113 tw_15 tw_1762) rfl rfl rfl (by decide +kernel) ⟨Nat.le_of_ble_eq_true rfl, Nat.le_of_ble_eq_true rfl⟩) (tg_preV hw hK hSD hA (ci := 10) (q := (RX10, TX10, 49)) rfl h_p0 rfl) rfl rfl hl.1 rfl (lv_room (Nat.le_of_ble_eq_true rfl)) dX10_readNot_1 ⟨Nat.le_of_ble_eq_true rfl, Nat.le_of_ble_eq_true rfl⟩) hw hA ⟨by decide, by decide⟩ (fun v_1 ws H locs hp_v_1 hw hF9 => ?_)
  have r_v_1 : RI v_1 0 1 := hp_v_1.1
  by_cases c9_v_1 : v_1 = 0
  · have r_v_1 : RI v_1 0 0 := by rw [c9_v_1]; exact rl_0
    obtain ⟨v_2, m_v_2, r_v_2⟩ := ((hp_v_1.2.1 c9_v_1).1)
    refine lv_if_ne (tgt := 9) hx hb dX10_readNot_4 (by decide) (fun c_4 => ?_) (fun c_4 => ?_)
    · exact absurd (r_v_1.eq.trans rl_0.eq.symm) ((ti_ne c_4))
    · refine lv_iconst (v := 0) hx hb dX10_readNot_7 (by decide) ?_
      subst hQ
      exact W.zret (v := 0) hx hb hr (rfl) (fun t ht hW => ⟨⟨0, ws, rfl, ⟨⟨rl_0.to (by decide), (fun h0 => ⟨⟨_, m_v_2, r_v_2⟩, trivial⟩), (fun h0 => absurd rfl h0)⟩, hw.1, hw.2.2.2.2.1⟩, by rw [ht]; exact hw.2.1, va_K.moved hW.alike hK, hw.2.2.1⟩, hw.2.2.2.1.F ht⟩) hw.2.2.2.1.2.2 dX10_readNot_8
  · have r_v_1 : RI v_1 1 1 := rc_neL r_v_1 rl_0 (ti_ne c9_v_1) (by decide)
    obtain ⟨v_3, m_v_3, r_v_3⟩ := ((hp_v_1.2.2 c9_v_1).1)
    obtain ⟨v_4, m_v_4, r_v_4⟩ := ((hp_v_1.2.2 c9_v_1).2.1)
    obtain ⟨v_5, m_v_5, r_v_5⟩ := ((hp_v_1.2.2 c9_v_1).2.2.1)
    have x_SNT_p0_gd_2_gh_1_gg := ((hp_v_1.2.2 c9_v_1).2.2.2.1)
    refine lv_if_ne (tgt := 9) hx hb dX10_readNot_4 (by decide) (fun c_4 => ?_) (fun c_4 => ?_)
    · refine lv_aload_n hx hb dX10_readNot_9 rfl (lv_at hl 0 rfl) ?_
      refine lv_aload_n hx hb dX10_readNot_10 rfl (lv_at hl 0 rfl) ?_
      refine lv_iconst (v := 1) hx hb dX10_readNot_11 (by decide) ?_
      refine lv_aload_n hx hb dX10_readNot_12 rfl (lv_at hl 0 rfl) ?_
      refine tg_mem (ci := 10) (C := RX10) (T := TX10) (N := 49) hx hb hts inX10 hown hK hw 48 m_v_4 rfl (by decide) (hts _ tw_1185) (fun _ h9 => h9) dX10_readNot_13 ?_
      refine lv_iconst (v := 0) hx hb dX10_readNot_16 (by decide) ?_
      refine lv_iconst (v := 0) hx hb dX10_readNot_17 (by decide) ?_
      have l9 := SNT.top hw x_SNT_p0_gd_2_gh_1_gg m_v_4
      have l8 := l9.le
      have x_SNI_p0_gd_1_gh_1_gg : SNI ws p0 (gd+1) (gh+1) (gg) := SNp.sni (SNT.sn x_SNT_p0_gd_2_gh_1_gg) (by have d_8 := SNp.le x_SNI_p0_gd_gh_gg.2; have d_7 := x_SNI_p0_gd_gh_gg.1; omega)
      have x_LTN_p0_v_4 : LTN ws p0 (v_4) := l9.ltn
      refine tk_i (va_runV (As := [.int 1, .int v_4, .int 0, .int 0]) (rest := [.ref p0]) ⟨hx, hb, hml, hown, hts⟩ (c_X10_saysOne__2 l D cy z H.size Ps ws hw.1 p0 1 v_4 0 0 (gd+1) (gh+1) (gg) h_p0 rl_1 (r_v_4.to (by decide)) (rl_0.to (by decide)) (rl_0.to (by decide)) x_SNI_p0_gd_1_gh_1_gg x_LTN_p0_v_4) (cwV 4 hts (gV tw_1771 tw_1773 ts_116 tw_15 tw_1774) rfl rfl rfl (by decide +kernel) ⟨Nat.le_of_ble_eq_true rfl, Nat.le_of_ble_eq_true rfl⟩) (tg_preV hw hK hSD hA (ci := 10) (q := (RX10, TX10, 49)) rfl h_p0 rfl) rfl rfl hl.1 rfl (lv_room (Nat.le_of_ble_eq_true rfl)) dX10_readNot_18 ⟨Nat.le_of_ble_eq_true rfl, Nat.le_of_ble_eq_true rfl⟩) hw hA ⟨by decide, by decide⟩ (fun v_6 ws H locs hp_v_6 hw hF9 => ?_)
      have m_v_3 := FLD.over hF9 m_v_3 (by decide)
      have m_v_4 := FLD.over hF9 m_v_4 (by decide)
      have m_v_5 := FLD.over hF9 m_v_5 (by decide)
      have r_v_6 : RI v_6 0 39 := hp_v_6.1
      have x_SNL_p0_gd_1_gh_1_gg_v_6 := hp_v_6.2.2.2.1.1
      refine tg_put (ci := 10) (ts := ty_MODEL) (v := .int v_6) (ty := .int) (C := RX10) (T := TX10) (N := 49) hx hb hts inX10 tyX10 tyX10_ok nmX10 hown hK hw h_p0 rfl rfl 48 (by decide) (hts _ tw_1185) (fun _ h9 => h9) rfl (by decide +kernel) rfl rfl (ft := vI (-2147483648) 2147483647) rfl ⟨_, rfl, (r_v_6.to (by decide))⟩ (by decide) dX10_readNot_21 (fun ws H locs hw n_k_7 hF9 => ?_)
      have m_v_3 := FLD.over hF9 m_v_3 (by decide)
      have m_v_5 := FLD.over hF9 m_v_5 (by decide)
      have x_SNL_p0_gd_1_gh_1_gg_v_6 := SNL.over hF9 x_SNL_p0_gd_1_gh_1_gg_v_6 (by decide)
      have x_SNT_p0_gd_gh_gg : SNT ws p0 (gd) (gh) (gg) := (x_SNL_p0_gd_1_gh_1_gg_v_6.weak (d' := gd) (h' := gh) (g' := gg) (by have k1 := x_SNL_p0_gd_1_gh_1_gg_v_6.le; have d_8 := SNp.le x_SNI_p0_gd_gh_gg.2; have d_7 := x_SNI_p0_gd_gh_gg.1; omega)).snt n_k_7
      refine lv_iconst (v := 1) hx hb dX10_readNot_24 (by decide) ?_
      subst hQ
      exact W.zret (v := 1) hx hb hr (rfl) (fun t ht hW => ⟨⟨1, ws, rfl, ⟨⟨rl_1.to (by decide), (fun h0 => absurd h0 (by decide)), (fun h0 => ⟨⟨_, m_v_3, r_v_3⟩, ⟨_, m_v_5, r_v_5⟩, ⟨_, n_k_7, r_v_6⟩, x_SNT_p0_gd_gh_gg, trivial⟩)⟩, hw.1, hw.2.2.2.2.1⟩, by rw [ht]; exact hw.2.1, va_K.moved hW.alike hK, hw.2.2.1⟩, hw.2.2.2.1.F ht⟩) hw.2.2.2.1.2.2 dX10_readNot_25
    · have r_v_1 : RI v_1 1 0 := rc_eq1 r_v_1 rl_0 (ti_eq c_4) (by decide)
      exact (r_v_1.no (by decide)).elim
abbrev wr_X10_readSaid : List (Nat × Nat) := [(10, 5), (10, 6), (10, 7), (10, 8), (10, 9), (10, 10), (10, 11), (10, 12), (10, 13), (10, 45), (10, 46), (10, 47), (10, 48)]
abbrev wa_X10_readSaid : List Nat := [54]
set_option maxHeartbeats 4000000 in
set_option maxRecDepth 100000 in
theorem c_X10_readSaid (l : Launch) (D : va_G) (cy : Nat → ClassId) (z : Nat → Nat) (sz : Nat) (Ps : PSI) (w0 : va_W) (hT : HT cy GG Ps w0) (p0 : Nat) (f0_47 : Int32) (gd : Int) (gh : Int) (gg : Int) (h_p0 : (p0, 55) ∈ Ps) (r_f0_47 : RI f0_47 0 0) (m_f0_47 : FLD w0 p0 10 47 (.int f0_47)) (x_SN_p0_gd_gh_gg : SNp w0 p0 (gd) (gh) (gg)) : Met l yX10_readSaid (Cond.code yX10_readSaid cX10_readSaid 4 (some .boolean) :: gT) ({ frames := 36, cells := 0, slots := 0, locals := 7200 } : Room) (va_Pc [.ref p0] (PRE D cy z w0 sz)) (va_Qi (fun (r : Int32) (u : va_W) => (RI r 0 1 ∧ (r = 0 → (∃ v9 : Int32, FLD u p0 10 47 (.int v9) ∧ RI v9 0 0) ∧ True) ∧ (¬ r = 0 → (∃ v9 : Int32, FLD u p0 10 46 (.int v9) ∧ RI v9 1 20) ∧ (∃ v9 : Int32, FLD u p0 10 48 (.int v9) ∧ RI v9 0 39) ∧ (∃ v9 : Int32, FLD u p0 10 47 (.int v9) ∧ RI v9 0 0) ∧ SNT u p0 (gd+1) (gh+1) (gg) ∧ True)) ∧ HT cy GG Ps u ∧ FR wr_X10_readSaid wa_X10_readSaid Ps w0 u) (BB D cy (va_A w0 sz) (fun (u : va_W) => u)) (va_A w0 sz)) 0 0 (va_A w0 sz) := by
  refine Met.ofW (cc := cX10_readSaid) (maxL := 4) (ret := (some .boolean)) (by decide) rfl ?_
  intro p e s m args below meth c s₁ B hml hv
  obtain ⟨rfl, hsz, hP, hK, hD0, hSD⟩ := hv
  have hx := B.exec
  have hb := B.bytes
  have hr := B.returns
  have hlocks := B.notSynchronized
  have hts : ∀ w ∈ gT, w.before _ s = true := fun w h => atoms_spec (ws := Cond.code yX10_readSaid cX10_readSaid 4 (some .boolean) :: gT) B.pre w (List.mem_cons_of_mem _ h)
  have hown : s.vm.findClass RX10 = some m.cls := findClass_of_methodNamed B.named
  subst hsz
  have hD := hD0.self (sz := s.heap.size)
  generalize hAe : va_A w0 s.heap.size = A at hD hSD ⊢
  have hA : ∀ q : Nat, s.heap.size ≤ q → A q := fun q h => by rw [← hAe]; exact Or.inr h
  have hl := lv_entry ([.ref p0]) (n := 4) (Nat.le_of_ble_eq_true rfl)
  rw [lg_entry_eq]
  generalize (lg_sl ([.ref p0]) ++ List.replicate (4 - (lg_sl ([.ref p0])).length) Slot.unset).toArray = ls at hl ⊢
  have hl : lv_has ls 4 [(0, .ref p0)] := hl
  refine nameQ (fun Q hQ => ?_)
  have hw : WD D cy GG A s wr_X10_readSaid wa_X10_readSaid Ps w0 Ps w0 s.heap [] := ⟨hT, hP, hD, va_S.rf, FR.rf, hT.1, [], (List.append_nil _).symm⟩
  have B30 : ∀ (x1 : Int32) (x2 : Int32) (z0_47 : Int32) (ws : va_W) (H : Heap) (locs : List Loc) (ls : Array Slot), RI x1 0 1 → RI x2 18 28 → RI z0_47 0 0 → FLD ws p0 10 47 (.int z0_47) → SNp ws p0 (gd) (gh) (gg) → WD D cy GG A s wr_X10_readSaid wa_X10_readSaid Ps w0 Ps ws H locs → lv_has ls 4 [(0, .ref p0), (1, .int x1), (2, .int x2)] → W p l e (headSpec (Cond.code yX10_readSaid cX10_readSaid 4 (some .boolean) :: gT) ({ frames := 36, cells := 0, slots := 0, locals := 7200 } : Room)).room s m ([.ref p0] : List Value).toArray below meth c H locs 0 0 Q (F0 m 30 ls []) := by
    intro x1 x2 z0_47 ws H locs ls r_x1 r_x2 r_z0_47 m_z0_47 x_SN_p0_gd_gh_gg hw hl
    refine lv_iload_n hx hb dX10_readSaid_30 rfl (lv_at hl 1 rfl) ?_
    refine lv_if_ne (tgt := 46) hx hb dX10_readSaid_31 (by decide) (fun c_31 => ?_) (fun c_31 => ?_)
    · have r_x1 : RI x1 1 1 := rc_neL r_x1 rl_0 (ti_ne c_31) (by decide)
      refine lv_aload_n hx hb dX10_readSaid_46 rfl (lv_at hl 0 rfl) ?_
      refine tg_get (ci := 10) (ts := ty_MODEL) (C := RX10) (T := TX10) (N := 49) hx hb hts inX10 hown hK hw h_p0 rfl rfl 46 (by decide) (hts _ tw_1183) (fun _ h9 => h9) (ft := vI (-2147483648) 2147483647) rfl dX10_readSaid_47 (fun u_1 hv_u_1 m_u_1 => ?_)
      obtain ⟨vu_1, rfl, r_vu_1⟩ := hv_u_1
      obtain ⟨n9, hn9, rn9, r_vu_1, b9⟩ := SNp.getO hw x_SN_p0_gd_gh_gg m_u_1
      refine lv_bipush (v := 20) hx hb dX10_readSaid_50 (by decide) ?_
      refine lv_icmp_eq (tgt := 64) hx hb dX10_readSaid_52 (by decide) (fun c_52 => ?_) (fun c_52 => ?_)
      · have r_vu_1 : RI vu_1 20 20 := rc_eq1 r_vu_1 rl_20 (ti_eq c_52) (by decide)
        refine lv_aload_n hx hb dX10_readSaid_64 rfl (lv_at hl 0 rfl) ?_
        refine lv_iconst (v := 4) hx hb dX10_readSaid_65 (by decide) ?_
        refine tk_i (va_runV (As := [.int 4]) (rest := []) ⟨hx, hb, hml, hown, hts⟩ (c_X10_bad l D cy z H.size Ps ws hw.1 p0 4 h_p0 (rl_4.to (by decide))) (cwV 1 hts (gV tw_1336 tw_1338 ts_46 tw_15 tw_1339) rfl rfl rfl (by decide +kernel) ⟨Nat.le_of_ble_eq_true rfl, Nat.le_of_ble_eq_true rfl⟩) (tg_preV hw hK hSD hA (ci := 10) (q := (RX10, TX10, 49)) rfl h_p0 rfl) rfl rfl hl.1 rfl (lv_room (Nat.le_of_ble_eq_true rfl)) dX10_readSaid_66 ⟨Nat.le_of_ble_eq_true rfl, Nat.le_of_ble_eq_true rfl⟩) hw hA ⟨by decide, by decide⟩ (fun v_2 ws H locs hp_v_2 hw hF9 => ?_)
        have m_z0_47 := FLD.over hF9 m_z0_47 (by decide)
        have m_u_1 := FLD.over hF9 m_u_1 (by decide)
        have hn9 := FLD.over hF9 hn9 (by decide)
        have x_SN_p0_gd_gh_gg := SNp.over hF9 x_SN_p0_gd_gh_gg (by decide)
        have r_v_2 : RI v_2 0 0 := hp_v_2.1
        subst hQ
        exact W.zret (v := v_2) hx hb hr (tq_nz (r_v_2.to (by decide))) (fun t ht hW => ⟨⟨v_2, ws, rfl, ⟨⟨r_v_2.to (by decide), (fun h0 => ⟨⟨_, m_z0_47, r_z0_47⟩, trivial⟩), (fun h0 => absurd (Int32.toInt_inj.mp (by have h8 := r_v_2; unfold RI at h8; rw [Int32.toInt_zero]; omega)) h0)⟩, hw.1, hw.2.2.2.2.1⟩, by rw [ht]; exact hw.2.1, va_K.moved hW.alike hK, hw.2.2.1⟩, hw.2.2.2.1.F ht⟩) hw.2.2.2.1.2.2 dX10_readSaid_69
      · have r_vu_1 : RI vu_1 0 19 := rc_neU r_vu_1 rl_20 (ti_ne c_52) (by decide)
        refine lv_aload_n hx hb dX10_readSaid_55 rfl (lv_at hl 0 rfl) ?_
        refine tg_mem (ci := 10) (C := RX10) (T := TX10) (N := 49) hx hb hts inX10 hown hK hw 47 m_z0_47 rfl (by decide) (hts _ tw_1184) (fun _ h9 => h9) dX10_readSaid_56 ?_
        refine lv_bipush (v := 8) hx hb dX10_readSaid_59 (by decide) ?_
        refine lv_icmp_ne (tgt := 70) hx hb dX10_readSaid_61 (by decide) (fun c_61 => ?_) (fun c_61 => ?_)
        · refine lv_aload_n hx hb dX10_readSaid_70 rfl (lv_at hl 0 rfl) ?_
          refine lv_dup hx hb dX10_readSaid_71 rfl ?_
          refine tg_mem (ci := 10) (C := RX10) (T := TX10) (N := 49) hx hb hts inX10 hown hK hw 46 m_u_1 rfl (by decide) (hts _ tw_1183) (fun _ h9 => h9) dX10_readSaid_72 ?_
          refine lv_iconst (v := 1) hx hb dX10_readSaid_75 (by decide) ?_
          refine lv_iadd hx hb dX10_readSaid_76 (lv_topi (fun v_3 e_v_3 => ?_))
          obtain ⟨t_v_3, r_v_3⟩ := tq_add (lo := 1) (hi := 20) r_vu_1 rl_1 (by decide +kernel) e_v_3
          have t_v_3 : v_3.toInt = vu_1.toInt + 1 := t_v_3
          refine tg_put (ci := 10) (ts := ty_MODEL) (v := .int v_3) (ty := .int) (C := RX10) (T := TX10) (N := 49) hx hb hts inX10 tyX10 tyX10_ok nmX10 hown hK hw h_p0 rfl rfl 46 (by decide) (hts _ tw_1183) (fun _ h9 => h9) rfl (by decide +kernel) rfl rfl (ft := vI (-2147483648) 2147483647) rfl ⟨_, rfl, (r_v_3.to (by decide))⟩ (by decide) dX10_readSaid_77 (fun ws H locs hw n_k_4 hF9 => ?_)
          have m_z0_47 := FLD.over hF9 m_z0_47 (by decide)
          have hn9 := FLD.over hF9 hn9 (by decide)
          have x_SNI_p0_gd_1_gh_1_gg : SNI ws p0 (gd+1) (gh+1) (gg) := ⟨by omega, _, _, hn9, n_k_4, by have k1 := rn9.1; have k2 := r_v_3.2; omega⟩
          refine lv_aload_n hx hb dX10_readSaid_80 rfl (lv_at hl 0 rfl) ?_
          refine lv_dup hx hb dX10_readSaid_81 rfl ?_
          refine tg_mem (ci := 10) (C := RX10) (T := TX10) (N := 49) hx hb hts inX10 hown hK hw 47 m_z0_47 rfl (by decide) (hts _ tw_1184) (fun _ h9 => h9) dX10_readSaid_82 ?_
          refine lv_iconst (v := 1) hx hb dX10_readSaid_85 (by decide) ?_
          refine lv_iadd hx hb dX10_readSaid_86 (lv_topi (fun v_5 e_v_5 => ?_))
          obtain ⟨t_v_5, r_v_5⟩ := tq_add (lo := 1) (hi := 1) r_z0_47 rl_1 (by decide +kernel) e_v_5
          have t_v_5 : v_5.toInt = z0_47.toInt + 1 := t_v_5
          refine tg_put (ci := 10) (ts := ty_MODEL) (v := .int v_5) (ty := .int) (C := RX10) (T := TX10) (N := 49) hx hb hts inX10 tyX10 tyX10_ok nmX10 hown hK hw h_p0 rfl rfl 47 (by decide) (hts _ tw_1184) (fun _ h9 => h9) rfl (by decide +kernel) rfl rfl (ft := vI (-2147483648) 2147483647) rfl ⟨_, rfl, (r_v_5.to (by decide))⟩ (by decide) dX10_readSaid_87 (fun ws H locs hw n_k_6 hF9 => ?_)
          have hn9 := FLD.over hF9 hn9 (by decide)
          have n_k_4 := FLD.over hF9 n_k_4 (by decide)
          have x_SNI_p0_gd_1_gh_1_gg := SNI.over hF9 x_SNI_p0_gd_1_gh_1_gg (by decide)
          refine lv_aload_n hx hb dX10_readSaid_90 rfl (lv_at hl 0 rfl) ?_
          refine tk_v (va_runV (As := []) (rest := []) ⟨hx, hb, hml, hown, hts⟩ (c_X10_go l D cy z H.size Ps ws hw.1 p0 h_p0) (cwV 0 hts (gV tw_1298 tw_1300 ts_40 tw_15 tw_1301) rfl rfl rfl (by decide +kernel) ⟨Nat.le_of_ble_eq_true rfl, Nat.le_of_ble_eq_true rfl⟩) (tg_preV hw hK hSD hA (ci := 10) (q := (RX10, TX10, 49)) rfl h_p0 rfl) rfl rfl hl.1 rfl (lv_room (Nat.le_of_ble_eq_true rfl)) dX10_readSaid_91 ⟨Nat.le_of_ble_eq_true rfl, Nat.le_of_ble_eq_true rfl⟩) hw hA ⟨by decide, by decide⟩ (fun ws H locs hp_v_7 hw hF9 => ?_)
          have hn9 := FLD.over hF9 hn9 (by decide)
          have n_k_4 := FLD.over hF9 n_k_4 (by decide)
          have n_k_6 := FLD.over hF9 n_k_6 (by decide)
          have x_SNI_p0_gd_1_gh_1_gg := SNI.over hF9 x_SNI_p0_gd_1_gh_1_gg (by decide)
          refine lv_iconst (v := 1) hx hb dX10_readSaid_94 (by decide) ?_
          refine lv_istore_n (lv' := [(3, .int 1), (0, .ref p0), (1, .int x1), (2, .int x2)]) hx hb dX10_readSaid_95 rfl hl (by decide) rfl (fun ls hl => ?_)
          refine lv_iload_n hx hb dX10_readSaid_96 rfl (lv_at hl 2 rfl) ?_
          refine lv_if_eq (tgt := 108) hx hb dX10_readSaid_97 (by decide) (fun c_97 => ?_) (fun c_97 => ?_)
          · have r_x1 : RI x1 1 0 := rc_eq1 r_x1 rl_0 (ti_eq c_97) (by decide)
            exact (r_x1.no (by decide)).elim
          · refine lv_aload_n hx hb dX10_readSaid_100 rfl (lv_at hl 1 rfl) ?_
            refine tk_i (va_runV (As := []) (rest := []) ⟨hx, hb, hml, hown, hts⟩ (c_X10_readBracket l D cy z H.size Ps ws hw.1 p0 v_5 (gd+1) (gh+1) (gg) h_p0 r_v_5 n_k_6 x_SNI_p0_gd_1_gh_1_gg) (cwV 0 hts (gV tw_1763 tw_1765 ts_114 tw_15 tw_1766) rfl rfl rfl (by decide +kernel) ⟨Nat.le_of_ble_eq_true rfl, Nat.le_of_ble_eq_true rfl⟩) (tg_preV hw hK hSD hA (ci := 10) (q := (RX10, TX10, 49)) rfl h_p0 rfl) rfl rfl hl.1 rfl (lv_room (Nat.le_of_ble_eq_true rfl)) dX10_readSaid_101 ⟨Nat.le_of_ble_eq_true rfl, Nat.le_of_ble_eq_true rfl⟩) hw hA ⟨by decide, by decide⟩ (fun v_8 ws H locs hp_v_8 hw hF9 => ?_)
            have r_v_8 : RI v_8 0 1 := hp_v_8.1
            by_cases c9_v_8 : v_8 = 0
            · have r_v_8 : RI v_8 0 0 := by rw [c9_v_8]; exact rl_0
              obtain ⟨v_9, m_v_9, r_v_9⟩ := ((hp_v_8.2.1 c9_v_8).1)
              refine lv_istore_n (lv' := [(3, .int v_8), (0, .ref p0), (1, .int x1), (2, .int x2)]) hx hb dX10_readSaid_104 rfl hl (by decide) rfl (fun ls hl => ?_)
              refine lv_goto (tgt := 166) hx hb dX10_readSaid_105 (by decide) ?_
              refine lv_aload_n hx hb dX10_readSaid_166 rfl (lv_at hl 1 rfl) ?_
              refine lv_dup hx hb dX10_readSaid_167 rfl ?_
              refine tg_mem (ci := 10) (C := RX10) (T := TX10) (N := 49) hx hb hts inX10 hown hK hw 47 m_v_9 rfl (by decide) (hts _ tw_1184) (fun _ h9 => h9) dX10_readSaid_168 ?_
              refine lv_iconst (v := 1) hx hb dX10_readSaid_171 (by decide) ?_
              refine lv_isub hx hb dX10_readSaid_172 (lv_topi (fun v_10 e_v_10 => ?_))
              obtain ⟨t_v_10, r_v_10⟩ := tq_sub (lo := 0) (hi := 0) r_v_9 rl_1 (by decide +kernel) e_v_10
              have t_v_10 : v_10.toInt = v_9.toInt - 1 := t_v_10
              refine tg_put (ci := 10) (ts := ty_MODEL) (v := .int v_10) (ty := .int) (C := RX10) (T := TX10) (N := 49) hx hb hts inX10 tyX10 tyX10_ok nmX10 hown hK hw h_p0 rfl rfl 47 (by decide) (hts _ tw_1184) (fun _ h9 => h9) rfl (by decide +kernel) rfl rfl (ft := vI (-2147483648) 2147483647) rfl ⟨_, rfl, (r_v_10.to (by decide))⟩ (by decide) dX10_readSaid_173 (fun ws H locs hw n_k_11 hF9 => ?_)
              refine lv_iload_n hx hb dX10_readSaid_176 rfl (lv_at hl 0 rfl) ?_
              subst hQ
              exact W.zret (v := v_8) hx hb hr (tq_nz (r_v_8.to (by decide))) (fun t ht hW => ⟨⟨v_8, ws, rfl, ⟨⟨r_v_8.to (by decide), (fun h0 => ⟨⟨_, n_k_11, r_v_10⟩, trivial⟩), (fun h0 => absurd (Int32.toInt_inj.mp (by have h8 := r_v_8; unfold RI at h8; rw [Int32.toInt_zero]; omega)) h0)⟩, hw.1, hw.2.2.2.2.1⟩, by rw [ht]; exact hw.2.1, va_K.moved hW.alike hK, hw.2.2.1⟩, hw.2.2.2.1.F ht⟩) hw.2.2.2.1.2.2 dX10_readSaid_177
            · have r_v_8 : RI v_8 1 1 := rc_neL r_v_8 rl_0 (ti_ne c9_v_8) (by decide)
              obtain ⟨v_12, m_v_12, r_v_12⟩ := ((hp_v_8.2.2 c9_v_8).1)
              obtain ⟨v_13, m_v_13, r_v_13⟩ := ((hp_v_8.2.2 c9_v_8).2.1)
              obtain ⟨v_14, m_v_14, r_v_14⟩ := ((hp_v_8.2.2 c9_v_8).2.2.1)
              have x_SNT_p0_gd_1_gh_1_gg := ((hp_v_8.2.2 c9_v_8).2.2.2.1)
              refine lv_istore_n (lv' := [(3, .int v_8), (0, .ref p0), (1, .int x1), (2, .int x2)]) hx hb dX10_readSaid_104 rfl hl (by decide) rfl (fun ls hl => ?_)
              refine lv_goto (tgt := 166) hx hb dX10_readSaid_105 (by decide) ?_
              refine lv_aload_n hx hb dX10_readSaid_166 rfl (lv_at hl 1 rfl) ?_
              refine lv_dup hx hb dX10_readSaid_167 rfl ?_
              refine tg_mem (ci := 10) (C := RX10) (T := TX10) (N := 49) hx hb hts inX10 hown hK hw 47 m_v_13 rfl (by decide) (hts _ tw_1184) (fun _ h9 => h9) dX10_readSaid_168 ?_
              refine lv_iconst (v := 1) hx hb dX10_readSaid_171 (by decide) ?_
              refine lv_isub hx hb dX10_readSaid_172 (lv_topi (fun v_15 e_v_15 => ?_))
              obtain ⟨t_v_15, r_v_15⟩ := tq_sub (lo := 0) (hi := 0) r_v_13 rl_1 (by decide +kernel) e_v_15
              have t_v_15 : v_15.toInt = v_13.toInt - 1 := t_v_15
              refine tg_put (ci := 10) (ts := ty_MODEL) (v := .int v_15) (ty := .int) (C := RX10) (T := TX10) (N := 49) hx hb hts inX10 tyX10 tyX10_ok nmX10 hown hK hw h_p0 rfl rfl 47 (by decide) (hts _ tw_1184) (fun _ h9 => h9) rfl (by decide +kernel) rfl rfl (ft := vI (-2147483648) 2147483647) rfl ⟨_, rfl, (r_v_15.to (by decide))⟩ (by decide) dX10_readSaid_173 (fun ws H locs hw n_k_16 hF9 => ?_)
              have m_v_12 := FLD.over hF9 m_v_12 (by decide)
              have m_v_14 := FLD.over hF9 m_v_14 (by decide)
              have x_SNT_p0_gd_1_gh_1_gg := SNT.over hF9 x_SNT_p0_gd_1_gh_1_gg (by decide)
              refine lv_iload_n hx hb dX10_readSaid_176 rfl (lv_at hl 0 rfl) ?_
              subst hQ
              exact W.zret (v := v_8) hx hb hr (tq_nz (r_v_8.to (by decide))) (fun t ht hW => ⟨⟨v_8, ws, rfl, ⟨⟨r_v_8.to (by decide), (fun h0 => absurd (ti_eq h0) (by have h8 := r_v_8; unfold RI at h8; rw [Int32.toInt_zero]; omega)), (fun h0 => ⟨⟨_, m_v_12, r_v_12⟩, ⟨_, m_v_14, r_v_14⟩, ⟨_, n_k_16, r_v_15⟩, x_SNT_p0_gd_1_gh_1_gg, trivial⟩)⟩, hw.1, hw.2.2.2.2.1⟩, by rw [ht]; exact hw.2.1, va_K.moved hW.alike hK, hw.2.2.1⟩, hw.2.2.2.1.F ht⟩) hw.2.2.2.1.2.2 dX10_readSaid_177
        · have r_z0_47 : RI z0_47 8 0 := rc_eq1 r_z0_47 rl_8 (ti_eq c_61) (by decide)
          exact (r_z0_47.no (by decide)).elim
    · have r_x1 : RI x1 0 0 := rc_eq1 r_x1 rl_0 (ti_eq c_31) (by decide)
      refine lv_iload_n hx hb dX10_readSaid_34 rfl (lv_at hl 2 rfl) ?_
      refine lv_bipush (v := 27) hx hb dX10_readSaid_35 (by decide) ?_
      refine lv_icmp_le (tgt := 46) hx hb dX10_readSaid_37 (by decide) (fun c_37 => ?_) (fun c_37 => ?_)
      · have r_x2 : RI x2 18 27 := rc_le1 r_x2 rl_27 (ti_le c_37) (by decide)
        refine lv_aload_n hx hb dX10_readSaid_46 rfl (lv_at hl 0 rfl) ?_
        refine tg_get (ci := 10) (ts := ty_MODEL) (C := RX10) (T := TX10) (N := 49) hx hb hts inX10 hown hK hw h_p0 rfl rfl 46 (by decide) (hts _ tw_1183) (fun _ h9 => h9) (ft := vI (-2147483648) 2147483647) rfl dX10_readSaid_47 (fun u_17 hv_u_17 m_u_17 => ?_)
        obtain ⟨vu_17, rfl, r_vu_17⟩ := hv_u_17
        obtain ⟨n9, hn9, rn9, r_vu_17, b9⟩ := SNp.getO hw x_SN_p0_gd_gh_gg m_u_17
        refine lv_bipush (v := 20) hx hb dX10_readSaid_50 (by decide) ?_
        refine lv_icmp_eq (tgt := 64) hx hb dX10_readSaid_52 (by decide) (fun c_52 => ?_) (fun c_52 => ?_)
        · have r_vu_17 : RI vu_17 20 20 := rc_eq1 r_vu_17 rl_20 (ti_eq c_52) (by decide)
          refine lv_aload_n hx hb dX10_readSaid_64 rfl (lv_at hl 0 rfl) ?_
          refine lv_iconst (v := 4) hx hb dX10_readSaid_65 (by decide) ?_
          refine tk_i (va_runV (As := [.int 4]) (rest := []) ⟨hx, hb, hml, hown, hts⟩ (c_X10_bad l D cy z H.size Ps ws hw.1 p0 4 h_p0 (rl_4.to (by decide))) (cwV 1 hts (gV tw_1336 tw_1338 ts_46 tw_15 tw_1339) rfl rfl rfl (by decide +kernel) ⟨Nat.le_of_ble_eq_true rfl, Nat.le_of_ble_eq_true rfl⟩) (tg_preV hw hK hSD hA (ci := 10) (q := (RX10, TX10, 49)) rfl h_p0 rfl) rfl rfl hl.1 rfl (lv_room (Nat.le_of_ble_eq_true rfl)) dX10_readSaid_66 ⟨Nat.le_of_ble_eq_true rfl, Nat.le_of_ble_eq_true rfl⟩) hw hA ⟨by decide, by decide⟩ (fun v_18 ws H locs hp_v_18 hw hF9 => ?_)
          have m_z0_47 := FLD.over hF9 m_z0_47 (by decide)
          have m_u_17 := FLD.over hF9 m_u_17 (by decide)
          have hn9 := FLD.over hF9 hn9 (by decide)
          have x_SN_p0_gd_gh_gg := SNp.over hF9 x_SN_p0_gd_gh_gg (by decide)
          have r_v_18 : RI v_18 0 0 := hp_v_18.1
          subst hQ
          exact W.zret (v := v_18) hx hb hr (tq_nz (r_v_18.to (by decide))) (fun t ht hW => ⟨⟨v_18, ws, rfl, ⟨⟨r_v_18.to (by decide), (fun h0 => ⟨⟨_, m_z0_47, r_z0_47⟩, trivial⟩), (fun h0 => absurd (Int32.toInt_inj.mp (by have h8 := r_v_18; unfold RI at h8; rw [Int32.toInt_zero]; omega)) h0)⟩, hw.1, hw.2.2.2.2.1⟩, by rw [ht]; exact hw.2.1, va_K.moved hW.alike hK, hw.2.2.1⟩, hw.2.2.2.1.F ht⟩) hw.2.2.2.1.2.2 dX10_readSaid_69
        · have r_vu_17 : RI vu_17 0 19 := rc_neU r_vu_17 rl_20 (ti_ne c_52) (by decide)
          refine lv_aload_n hx hb dX10_readSaid_55 rfl (lv_at hl 0 rfl) ?_
          refine tg_mem (ci := 10) (C := RX10) (T := TX10) (N := 49) hx hb hts inX10 hown hK hw 47 m_z0_47 rfl (by decide) (hts _ tw_1184) (fun _ h9 => h9) dX10_readSaid_56 ?_
          refine lv_bipush (v := 8) hx hb dX10_readSaid_59 (by decide) ?_
          refine lv_icmp_ne (tgt := 70) hx hb dX10_readSaid_61 (by decide) (fun c_61 => ?_) (fun c_61 => ?_)
          · refine lv_aload_n hx hb dX10_readSaid_70 rfl (lv_at hl 0 rfl) ?_
            refine lv_dup hx hb dX10_readSaid_71 rfl ?_
            refine tg_mem (ci := 10) (C := RX10) (T := TX10) (N := 49) hx hb hts inX10 hown hK hw 46 m_u_17 rfl (by decide) (hts _ tw_1183) (fun _ h9 => h9) dX10_readSaid_72 ?_
            refine lv_iconst (v := 1) hx hb dX10_readSaid_75 (by decide) ?_
            refine lv_iadd hx hb dX10_readSaid_76 (lv_topi (fun v_19 e_v_19 => ?_))
            obtain ⟨t_v_19, r_v_19⟩ := tq_add (lo := 1) (hi := 20) r_vu_17 rl_1 (by decide +kernel) e_v_19
            have t_v_19 : v_19.toInt = vu_17.toInt + 1 := t_v_19
            refine tg_put (ci := 10) (ts := ty_MODEL) (v := .int v_19) (ty := .int) (C := RX10) (T := TX10) (N := 49) hx hb hts inX10 tyX10 tyX10_ok nmX10 hown hK hw h_p0 rfl rfl 46 (by decide) (hts _ tw_1183) (fun _ h9 => h9) rfl (by decide +kernel) rfl rfl (ft := vI (-2147483648) 2147483647) rfl ⟨_, rfl, (r_v_19.to (by decide))⟩ (by decide) dX10_readSaid_77 (fun ws H locs hw n_k_20 hF9 => ?_)
            have m_z0_47 := FLD.over hF9 m_z0_47 (by decide)
            have hn9 := FLD.over hF9 hn9 (by decide)
            have x_SNI_p0_gd_1_gh_1_gg : SNI ws p0 (gd+1) (gh+1) (gg) := ⟨by omega, _, _, hn9, n_k_20, by have k1 := rn9.1; have k2 := r_v_19.2; omega⟩
            refine lv_aload_n hx hb dX10_readSaid_80 rfl (lv_at hl 0 rfl) ?_
            refine lv_dup hx hb dX10_readSaid_81 rfl ?_
            refine tg_mem (ci := 10) (C := RX10) (T := TX10) (N := 49) hx hb hts inX10 hown hK hw 47 m_z0_47 rfl (by decide) (hts _ tw_1184) (fun _ h9 => h9) dX10_readSaid_82 ?_
            refine lv_iconst (v := 1) hx hb dX10_readSaid_85 (by decide) ?_
            refine lv_iadd hx hb dX10_readSaid_86 (lv_topi (fun v_21 e_v_21 => ?_))
            obtain ⟨t_v_21, r_v_21⟩ := tq_add (lo := 1) (hi := 1) r_z0_47 rl_1 (by decide +kernel) e_v_21
            have t_v_21 : v_21.toInt = z0_47.toInt + 1 := t_v_21
            refine tg_put (ci := 10) (ts := ty_MODEL) (v := .int v_21) (ty := .int) (C := RX10) (T := TX10) (N := 49) hx hb hts inX10 tyX10 tyX10_ok nmX10 hown hK hw h_p0 rfl rfl 47 (by decide) (hts _ tw_1184) (fun _ h9 => h9) rfl (by decide +kernel) rfl rfl (ft := vI (-2147483648) 2147483647) rfl ⟨_, rfl, (r_v_21.to (by decide))⟩ (by decide) dX10_readSaid_87 (fun ws H locs hw n_k_22 hF9 => ?_)
            have hn9 := FLD.over hF9 hn9 (by decide)
            have n_k_20 := FLD.over hF9 n_k_20 (by decide)
            have x_SNI_p0_gd_1_gh_1_gg := SNI.over hF9 x_SNI_p0_gd_1_gh_1_gg (by decide)
            refine lv_aload_n hx hb dX10_readSaid_90 rfl (lv_at hl 0 rfl) ?_
            refine tk_v (va_runV (As := []) (rest := []) ⟨hx, hb, hml, hown, hts⟩ (c_X10_go l D cy z H.size Ps ws hw.1 p0 h_p0) (cwV 0 hts (gV tw_1298 tw_1300 ts_40 tw_15 tw_1301) rfl rfl rfl (by decide +kernel) ⟨Nat.le_of_ble_eq_true rfl, Nat.le_of_ble_eq_true rfl⟩) (tg_preV hw hK hSD hA (ci := 10) (q := (RX10, TX10, 49)) rfl h_p0 rfl) rfl rfl hl.1 rfl (lv_room (Nat.le_of_ble_eq_true rfl)) dX10_readSaid_91 ⟨Nat.le_of_ble_eq_true rfl, Nat.le_of_ble_eq_true rfl⟩) hw hA ⟨by decide, by decide⟩ (fun ws H locs hp_v_23 hw hF9 => ?_)
            have hn9 := FLD.over hF9 hn9 (by decide)
            have n_k_20 := FLD.over hF9 n_k_20 (by decide)
            have n_k_22 := FLD.over hF9 n_k_22 (by decide)
            have x_SNI_p0_gd_1_gh_1_gg := SNI.over hF9 x_SNI_p0_gd_1_gh_1_gg (by decide)
            refine lv_iconst (v := 1) hx hb dX10_readSaid_94 (by decide) ?_
            refine lv_istore_n (lv' := [(3, .int 1), (0, .ref p0), (1, .int x1), (2, .int x2)]) hx hb dX10_readSaid_95 rfl hl (by decide) rfl (fun ls hl => ?_)
            refine lv_iload_n hx hb dX10_readSaid_96 rfl (lv_at hl 2 rfl) ?_
            refine lv_if_eq (tgt := 108) hx hb dX10_readSaid_97 (by decide) (fun c_97 => ?_) (fun c_97 => ?_)
            · refine lv_iload_n hx hb dX10_readSaid_108 rfl (lv_at hl 3 rfl) ?_
              refine lv_bipush (v := 18) hx hb dX10_readSaid_109 (by decide) ?_
              refine lv_icmp_ne (tgt := 122) hx hb dX10_readSaid_111 (by decide) (fun c_111 => ?_) (fun c_111 => ?_)
              · have r_x2 : RI x2 19 27 := rc_neL r_x2 rl_18 (ti_ne c_111) (by decide)
                refine lv_iload_n hx hb dX10_readSaid_122 rfl (lv_at hl 3 rfl) ?_
                refine lv_bipush (v := 22) hx hb dX10_readSaid_123 (by decide) ?_
                refine lv_icmp_ge (tgt := 146) hx hb dX10_readSaid_125 (by decide) (fun c_125 => ?_) (fun c_125 => ?_)
                · have r_x2 : RI x2 22 27 := rc_le2 rl_22 r_x2 (ti_le c_125) (by decide)
                  refine lv_iload_n hx hb dX10_readSaid_146 rfl (lv_at hl 3 rfl) ?_
                  refine lv_bipush (v := 24) hx hb dX10_readSaid_147 (by decide) ?_
                  refine lv_icmp_ge (tgt := 160) hx hb dX10_readSaid_149 (by decide) (fun c_149 => ?_) (fun c_149 => ?_)
                  · have r_x2 : RI x2 24 27 := rc_le2 rl_24 r_x2 (ti_le c_149) (by decide)
                    refine lv_aload_n hx hb dX10_readSaid_160 rfl (lv_at hl 1 rfl) ?_
                    refine lv_iload_n hx hb dX10_readSaid_161 rfl (lv_at hl 3 rfl) ?_
                    refine tk_i (va_runV (As := [.int x2]) (rest := []) ⟨hx, hb, hml, hown, hts⟩ (c_X10_readCompare l D cy z H.size Ps ws hw.1 p0 x2 (gd+1) (gh+1) (gg) h_p0 r_x2 x_SNI_p0_gd_1_gh_1_gg) (cwV 1 hts (gV tw_1779 tw_1781 ts_118 tw_15 tw_1782) rfl rfl rfl (by decide +kernel) ⟨Nat.le_of_ble_eq_true rfl, Nat.le_of_ble_eq_true rfl⟩) (tg_preV hw hK hSD hA (ci := 10) (q := (RX10, TX10, 49)) rfl h_p0 rfl) rfl rfl hl.1 rfl (lv_room (Nat.le_of_ble_eq_true rfl)) dX10_readSaid_162 ⟨Nat.le_of_ble_eq_true rfl, Nat.le_of_ble_eq_true rfl⟩) hw hA ⟨by decide, by decide⟩ (fun v_24 ws H locs hp_v_24 hw hF9 => ?_)
                    have n_k_20 := FLD.over hF9 n_k_20 (by decide)
                    have n_k_22 := FLD.over hF9 n_k_22 (by decide)
                    have r_v_24 : RI v_24 0 1 := hp_v_24.1
                    by_cases c9_v_24 : v_24 = 0
                    · have r_v_24 : RI v_24 0 0 := by rw [c9_v_24]; exact rl_0
                      refine lv_istore_n (lv' := [(3, .int v_24), (0, .ref p0), (1, .int x1), (2, .int x2)]) hx hb dX10_readSaid_165 rfl hl (by decide) rfl (fun ls hl => ?_)
                      refine lv_aload_n hx hb dX10_readSaid_166 rfl (lv_at hl 1 rfl) ?_
                      refine lv_dup hx hb dX10_readSaid_167 rfl ?_
                      refine tg_mem (ci := 10) (C := RX10) (T := TX10) (N := 49) hx hb hts inX10 hown hK hw 47 n_k_22 rfl (by decide) (hts _ tw_1184) (fun _ h9 => h9) dX10_readSaid_168 ?_
                      refine lv_iconst (v := 1) hx hb dX10_readSaid_171 (by decide) ?_
                      refine lv_isub hx hb dX10_readSaid_172 (lv_topi (fun v_25 e_v_25 => ?_))
                      obtain ⟨t_v_25, r_v_25⟩ := tq_sub (lo := 0) (hi := 0) r_v_21 rl_1 (by decide +kernel) e_v_25
                      have t_v_25 : v_25.toInt = v_21.toInt - 1 := t_v_25
                      refine tg_put (ci := 10) (ts := ty_MODEL) (v := .int v_25) (ty := .int) (C := RX10) (T := TX10) (N := 49) hx hb hts inX10 tyX10 tyX10_ok nmX10 hown hK hw h_p0 rfl rfl 47 (by decide) (hts _ tw_1184) (fun _ h9 => h9) rfl (by decide +kernel) rfl rfl (ft := vI (-2147483648) 2147483647) rfl ⟨_, rfl, (r_v_25.to (by decide))⟩ (by decide) dX10_readSaid_173 (fun ws H locs hw n_k_26 hF9 => ?_)
                      have n_k_20 := FLD.over hF9 n_k_20 (by decide)
                      refine lv_iload_n hx hb dX10_readSaid_176 rfl (lv_at hl 0 rfl) ?_
                      subst hQ
                      exact W.zret (v := v_24) hx hb hr (tq_nz (r_v_24.to (by decide))) (fun t ht hW => ⟨⟨v_24, ws, rfl, ⟨⟨r_v_24.to (by decide), (fun h0 => ⟨⟨_, n_k_26, r_v_25⟩, trivial⟩), (fun h0 => absurd (Int32.toInt_inj.mp (by have h8 := r_v_24; unfold RI at h8; rw [Int32.toInt_zero]; omega)) h0)⟩, hw.1, hw.2.2.2.2.1⟩, by rw [ht]; exact hw.2.1, va_K.moved hW.alike hK, hw.2.2.1⟩, hw.2.2.2.1.F ht⟩) hw.2.2.2.1.2.2 dX10_readSaid_177
                    · have r_v_24 : RI v_24 1 1 := rc_neL r_v_24 rl_0 (ti_ne c9_v_24) (by decide)
                      obtain ⟨v_27, m_v_27, r_v_27⟩ := ((hp_v_24.2.2 c9_v_24).1)
                      obtain ⟨v_28, m_v_28, r_v_28⟩ := ((hp_v_24.2.2 c9_v_24).2.1)
                      have x_SNT_p0_gd_1_gh_1_gg := ((hp_v_24.2.2 c9_v_24).2.2.1)
                      refine lv_istore_n (lv' := [(3, .int v_24), (0, .ref p0), (1, .int x1), (2, .int x2)]) hx hb dX10_readSaid_165 rfl hl (by decide) rfl (fun ls hl => ?_)
                      refine lv_aload_n hx hb dX10_readSaid_166 rfl (lv_at hl 1 rfl) ?_
                      refine lv_dup hx hb dX10_readSaid_167 rfl ?_
                      refine tg_mem (ci := 10) (C := RX10) (T := TX10) (N := 49) hx hb hts inX10 hown hK hw 47 n_k_22 rfl (by decide) (hts _ tw_1184) (fun _ h9 => h9) dX10_readSaid_168 ?_
                      refine lv_iconst (v := 1) hx hb dX10_readSaid_171 (by decide) ?_
                      refine lv_isub hx hb dX10_readSaid_172 (lv_topi (fun v_29 e_v_29 => ?_))
                      obtain ⟨t_v_29, r_v_29⟩ := tq_sub (lo := 0) (hi := 0) r_v_21 rl_1 (by decide +kernel) e_v_29
                      have t_v_29 : v_29.toInt = v_21.toInt - 1 := t_v_29
                      refine tg_put (ci := 10) (ts := ty_MODEL) (v := .int v_29) (ty := .int) (C := RX10) (T := TX10) (N := 49) hx hb hts inX10 tyX10 tyX10_ok nmX10 hown hK hw h_p0 rfl rfl 47 (by decide) (hts _ tw_1184) (fun _ h9 => h9) rfl (by decide +kernel) rfl rfl (ft := vI (-2147483648) 2147483647) rfl ⟨_, rfl, (r_v_29.to (by decide))⟩ (by decide) dX10_readSaid_173 (fun ws H locs hw n_k_30 hF9 => ?_)
                      have n_k_20 := FLD.over hF9 n_k_20 (by decide)
                      have m_v_27 := FLD.over hF9 m_v_27 (by decide)
                      have m_v_28 := FLD.over hF9 m_v_28 (by decide)
                      have x_SNT_p0_gd_1_gh_1_gg := SNT.over hF9 x_SNT_p0_gd_1_gh_1_gg (by decide)
                      refine lv_iload_n hx hb dX10_readSaid_176 rfl (lv_at hl 0 rfl) ?_
                      subst hQ
                      exact W.zret (v := v_24) hx hb hr (tq_nz (r_v_24.to (by decide))) (fun t ht hW => ⟨⟨v_24, ws, rfl, ⟨⟨r_v_24.to (by decide), (fun h0 => absurd (ti_eq h0) (by have h8 := r_v_24; unfold RI at h8; rw [Int32.toInt_zero]; omega)), (fun h0 => ⟨⟨_, n_k_20, r_v_19⟩, ⟨_, m_v_28, r_v_28⟩, ⟨_, n_k_30, r_v_29⟩, x_SNT_p0_gd_1_gh_1_gg, trivial⟩)⟩, hw.1, hw.2.2.2.2.1⟩, by rw [ht]; exact hw.2.1, va_K.moved hW.alike hK, hw.2.2.1⟩, hw.2.2.2.1.F ht⟩) hw.2.2.2.1.2.2 dX10_readSaid_177
                  · have r_x2 : RI x2 22 23 := rc_lt1 r_x2 rl_24 (ti_nle c_149) (by decide)
                    refine lv_aload_n hx hb dX10_readSaid_152 rfl (lv_at hl 1 rfl) ?_
                    refine lv_iload_n hx hb dX10_readSaid_153 rfl (lv_at hl 3 rfl) ?_
                    refine tk_i (va_runV (As := [.int x2]) (rest := []) ⟨hx, hb, hml, hown, hts⟩ (c_X10_readOf l D cy z H.size Ps ws hw.1 p0 x2 (gd+1) (gh+1) (gg) h_p0 r_x2 x_SNI_p0_gd_1_gh_1_gg) (cwV 1 hts (gV tw_1775 tw_1777 ts_117 tw_15 tw_1778) rfl rfl rfl (by decide +kernel) ⟨Nat.le_of_ble_eq_true rfl, Nat.le_of_ble_eq_true rfl⟩) (tg_preV hw hK hSD hA (ci := 10) (q := (RX10, TX10, 49)) rfl h_p0 rfl) rfl rfl hl.1 rfl (lv_room (Nat.le_of_ble_eq_true rfl)) dX10_readSaid_154 ⟨Nat.le_of_ble_eq_true rfl, Nat.le_of_ble_eq_true rfl⟩) hw hA ⟨by decide, by decide⟩ (fun v_31 ws H locs hp_v_31 hw hF9 => ?_)
                    have n_k_20 := FLD.over hF9 n_k_20 (by decide)
                    have n_k_22 := FLD.over hF9 n_k_22 (by decide)
                    have r_v_31 : RI v_31 0 1 := hp_v_31.1
                    by_cases c9_v_31 : v_31 = 0
                    · have r_v_31 : RI v_31 0 0 := by rw [c9_v_31]; exact rl_0
                      refine lv_goto (tgt := 165) hx hb dX10_readSaid_157 (by decide) ?_
                      refine lv_istore_n (lv' := [(3, .int v_31), (0, .ref p0), (1, .int x1), (2, .int x2)]) hx hb dX10_readSaid_165 rfl hl (by decide) rfl (fun ls hl => ?_)
                      refine lv_aload_n hx hb dX10_readSaid_166 rfl (lv_at hl 1 rfl) ?_
                      refine lv_dup hx hb dX10_readSaid_167 rfl ?_
                      refine tg_mem (ci := 10) (C := RX10) (T := TX10) (N := 49) hx hb hts inX10 hown hK hw 47 n_k_22 rfl (by decide) (hts _ tw_1184) (fun _ h9 => h9) dX10_readSaid_168 ?_
                      refine lv_iconst (v := 1) hx hb dX10_readSaid_171 (by decide) ?_
                      refine lv_isub hx hb dX10_readSaid_172 (lv_topi (fun v_32 e_v_32 => ?_))
                      obtain ⟨t_v_32, r_v_32⟩ := tq_sub (lo := 0) (hi := 0) r_v_21 rl_1 (by decide +kernel) e_v_32
                      have t_v_32 : v_32.toInt = v_21.toInt - 1 := t_v_32
                      refine tg_put (ci := 10) (ts := ty_MODEL) (v := .int v_32) (ty := .int) (C := RX10) (T := TX10) (N := 49) hx hb hts inX10 tyX10 tyX10_ok nmX10 hown hK hw h_p0 rfl rfl 47 (by decide) (hts _ tw_1184) (fun _ h9 => h9) rfl (by decide +kernel) rfl rfl (ft := vI (-2147483648) 2147483647) rfl ⟨_, rfl, (r_v_32.to (by decide))⟩ (by decide) dX10_readSaid_173 (fun ws H locs hw n_k_33 hF9 => ?_)
                      have n_k_20 := FLD.over hF9 n_k_20 (by decide)
                      refine lv_iload_n hx hb dX10_readSaid_176 rfl (lv_at hl 0 rfl) ?_
                      subst hQ
                      exact W.zret (v := v_31) hx hb hr (tq_nz (r_v_31.to (by decide))) (fun t ht hW => ⟨⟨v_31, ws, rfl, ⟨⟨r_v_31.to (by decide), (fun h0 => ⟨⟨_, n_k_33, r_v_32⟩, trivial⟩), (fun h0 => absurd (Int32.toInt_inj.mp (by have h8 := r_v_31; unfold RI at h8; rw [Int32.toInt_zero]; omega)) h0)⟩, hw.1, hw.2.2.2.2.1⟩, by rw [ht]; exact hw.2.1, va_K.moved hW.alike hK, hw.2.2.1⟩, hw.2.2.2.1.F ht⟩) hw.2.2.2.1.2.2 dX10_readSaid_177
                    · have r_v_31 : RI v_31 1 1 := rc_neL r_v_31 rl_0 (ti_ne c9_v_31) (by decide)
                      obtain ⟨v_34, m_v_34, r_v_34⟩ := ((hp_v_31.2.2 c9_v_31).1)
                      obtain ⟨v_35, m_v_35, r_v_35⟩ := ((hp_v_31.2.2 c9_v_31).2.1)
                      have x_SNT_p0_gd_1_gh_1_gg := ((hp_v_31.2.2 c9_v_31).2.2.1)
                      refine lv_goto (tgt := 165) hx hb dX10_readSaid_157 (by decide) ?_
                      refine lv_istore_n (lv' := [(3, .int v_31), (0, .ref p0), (1, .int x1), (2, .int x2)]) hx hb dX10_readSaid_165 rfl hl (by decide) rfl (fun ls hl => ?_)
                      refine lv_aload_n hx hb dX10_readSaid_166 rfl (lv_at hl 1 rfl) ?_
                      refine lv_dup hx hb dX10_readSaid_167 rfl ?_
                      refine tg_mem (ci := 10) (C := RX10) (T := TX10) (N := 49) hx hb hts inX10 hown hK hw 47 n_k_22 rfl (by decide) (hts _ tw_1184) (fun _ h9 => h9) dX10_readSaid_168 ?_
                      refine lv_iconst (v := 1) hx hb dX10_readSaid_171 (by decide) ?_
                      refine lv_isub hx hb dX10_readSaid_172 (lv_topi (fun v_36 e_v_36 => ?_))
                      obtain ⟨t_v_36, r_v_36⟩ := tq_sub (lo := 0) (hi := 0) r_v_21 rl_1 (by decide +kernel) e_v_36
                      have t_v_36 : v_36.toInt = v_21.toInt - 1 := t_v_36
                      refine tg_put (ci := 10) (ts := ty_MODEL) (v := .int v_36) (ty := .int) (C := RX10) (T := TX10) (N := 49) hx hb hts inX10 tyX10 tyX10_ok nmX10 hown hK hw h_p0 rfl rfl 47 (by decide) (hts _ tw_1184) (fun _ h9 => h9) rfl (by decide +kernel) rfl rfl (ft := vI (-2147483648) 2147483647) rfl ⟨_, rfl, (r_v_36.to (by decide))⟩ (by decide) dX10_readSaid_173 (fun ws H locs hw n_k_37 hF9 => ?_)
                      have n_k_20 := FLD.over hF9 n_k_20 (by decide)
                      have m_v_34 := FLD.over hF9 m_v_34 (by decide)
                      have m_v_35 := FLD.over hF9 m_v_35 (by decide)
                      have x_SNT_p0_gd_1_gh_1_gg := SNT.over hF9 x_SNT_p0_gd_1_gh_1_gg (by decide)
                      refine lv_iload_n hx hb dX10_readSaid_176 rfl (lv_at hl 0 rfl) ?_
                      subst hQ
                      exact W.zret (v := v_31) hx hb hr (tq_nz (r_v_31.to (by decide))) (fun t ht hW => ⟨⟨v_31, ws, rfl, ⟨⟨r_v_31.to (by decide), (fun h0 => absurd (ti_eq h0) (by have h8 := r_v_31; unfold RI at h8; rw [Int32.toInt_zero]; omega)), (fun h0 => ⟨⟨_, n_k_20, r_v_19⟩, ⟨_, m_v_35, r_v_35⟩, ⟨_, n_k_37, r_v_36⟩, x_SNT_p0_gd_1_gh_1_gg, trivial⟩)⟩, hw.1, hw.2.2.2.2.1⟩, by rw [ht]; exact hw.2.1, va_K.moved hW.alike hK, hw.2.2.1⟩, hw.2.2.2.1.F ht⟩) hw.2.2.2.1.2.2 dX10_readSaid_177
                · have r_x2 : RI x2 19 21 := rc_lt1 r_x2 rl_22 (ti_nle c_125) (by decide)
                  refine lv_aload_n hx hb dX10_readSaid_128 rfl (lv_at hl 1 rfl) ?_
                  refine lv_aload_n hx hb dX10_readSaid_129 rfl (lv_at hl 1 rfl) ?_
                  refine lv_bipush (v := 50) hx hb dX10_readSaid_130 (by decide) ?_
                  refine lv_iload_n hx hb dX10_readSaid_132 rfl (lv_at hl 3 rfl) ?_
                  refine lv_iadd hx hb dX10_readSaid_133 (lv_topi (fun v_38 e_v_38 => ?_))
                  obtain ⟨t_v_38, r_v_38⟩ := tq_add (lo := 69) (hi := 71) rl_50 r_x2 (by decide +kernel) e_v_38
                  have t_v_38 : v_38.toInt = 50 + x2.toInt := t_v_38
                  refine lv_iconst (v := 0) hx hb dX10_readSaid_134 (by decide) ?_
                  refine lv_iconst (v := 0) hx hb dX10_readSaid_135 (by decide) ?_
                  refine lv_iconst (v := 0) hx hb dX10_readSaid_136 (by decide) ?_
                  refine tk_i (va_runV (As := [.int v_38, .int 0, .int 0, .int 0]) (rest := [.ref p0]) ⟨hx, hb, hml, hown, hts⟩ (c_X10_saysOne l D cy z H.size Ps ws hw.1 p0 v_38 0 0 0 (gd+1) (gh+1) (gg) h_p0 (r_v_38.to (by decide)) (rl_0.to (by decide)) (rl_0.to (by decide)) (rl_0.to (by decide)) x_SNI_p0_gd_1_gh_1_gg) (cwV 4 hts (gV tw_1771 tw_1773 ts_116 tw_15 tw_1774) rfl rfl rfl (by decide +kernel) ⟨Nat.le_of_ble_eq_true rfl, Nat.le_of_ble_eq_true rfl⟩) (tg_preV hw hK hSD hA (ci := 10) (q := (RX10, TX10, 49)) rfl h_p0 rfl) rfl rfl hl.1 rfl (lv_room (Nat.le_of_ble_eq_true rfl)) dX10_readSaid_137 ⟨Nat.le_of_ble_eq_true rfl, Nat.le_of_ble_eq_true rfl⟩) hw hA ⟨by decide, by decide⟩ (fun v_39 ws H locs hp_v_39 hw hF9 => ?_)
                  have n_k_20 := FLD.over hF9 n_k_20 (by decide)
                  have n_k_22 := FLD.over hF9 n_k_22 (by decide)
                  have r_v_39 : RI v_39 0 39 := hp_v_39.1
                  have x_SNL_p0_gd_1_gh_1_gg_v_39 := hp_v_39.2.2.2.1.1
                  refine tg_put (ci := 10) (ts := ty_MODEL) (v := .int v_39) (ty := .int) (C := RX10) (T := TX10) (N := 49) hx hb hts inX10 tyX10 tyX10_ok nmX10 hown hK hw h_p0 rfl rfl 48 (by decide) (hts _ tw_1185) (fun _ h9 => h9) rfl (by decide +kernel) rfl rfl (ft := vI (-2147483648) 2147483647) rfl ⟨_, rfl, (r_v_39.to (by decide))⟩ (by decide) dX10_readSaid_140 (fun ws H locs hw n_k_40 hF9 => ?_)
                  have n_k_20 := FLD.over hF9 n_k_20 (by decide)
                  have n_k_22 := FLD.over hF9 n_k_22 (by decide)
                  have x_SNL_p0_gd_1_gh_1_gg_v_39 := SNL.over hF9 x_SNL_p0_gd_1_gh_1_gg_v_39 (by decide)
                  have x_SNT_p0_gd_1_gh_1_gg : SNT ws p0 (gd+1) (gh+1) (gg) := (x_SNL_p0_gd_1_gh_1_gg_v_39.weak (d' := gd+1) (h' := gh+1) (g' := gg) (by have k1 := x_SNL_p0_gd_1_gh_1_gg_v_39.le; have d_8 := SNp.le x_SN_p0_gd_gh_gg; omega)).snt n_k_40
                  refine lv_goto (tgt := 166) hx hb dX10_readSaid_143 (by decide) ?_
                  refine lv_aload_n hx hb dX10_readSaid_166 rfl (lv_at hl 1 rfl) ?_
                  refine lv_dup hx hb dX10_readSaid_167 rfl ?_
                  refine tg_mem (ci := 10) (C := RX10) (T := TX10) (N := 49) hx hb hts inX10 hown hK hw 47 n_k_22 rfl (by decide) (hts _ tw_1184) (fun _ h9 => h9) dX10_readSaid_168 ?_
                  refine lv_iconst (v := 1) hx hb dX10_readSaid_171 (by decide) ?_
                  refine lv_isub hx hb dX10_readSaid_172 (lv_topi (fun v_41 e_v_41 => ?_))
                  obtain ⟨t_v_41, r_v_41⟩ := tq_sub (lo := 0) (hi := 0) r_v_21 rl_1 (by decide +kernel) e_v_41
                  have t_v_41 : v_41.toInt = v_21.toInt - 1 := t_v_41
                  refine tg_put (ci := 10) (ts := ty_MODEL) (v := .int v_41) (ty := .int) (C := RX10) (T := TX10) (N := 49) hx hb hts inX10 tyX10 tyX10_ok nmX10 hown hK hw h_p0 rfl rfl 47 (by decide) (hts _ tw_1184) (fun _ h9 => h9) rfl (by decide +kernel) rfl rfl (ft := vI (-2147483648) 2147483647) rfl ⟨_, rfl, (r_v_41.to (by decide))⟩ (by decide) dX10_readSaid_173 (fun ws H locs hw n_k_42 hF9 => ?_)
                  have n_k_20 := FLD.over hF9 n_k_20 (by decide)
                  have n_k_40 := FLD.over hF9 n_k_40 (by decide)
                  have x_SNL_p0_gd_1_gh_1_gg_v_39 := SNL.over hF9 x_SNL_p0_gd_1_gh_1_gg_v_39 (by decide)
                  have x_SNT_p0_gd_1_gh_1_gg := SNT.over hF9 x_SNT_p0_gd_1_gh_1_gg (by decide)
                  refine lv_iload_n hx hb dX10_readSaid_176 rfl (lv_at hl 0 rfl) ?_
                  subst hQ
                  exact W.zret (v := 1) hx hb hr (rfl) (fun t ht hW => ⟨⟨1, ws, rfl, ⟨⟨rl_1.to (by decide), (fun h0 => absurd h0 (by decide)), (fun h0 => ⟨⟨_, n_k_20, r_v_19⟩, ⟨_, n_k_40, r_v_39⟩, ⟨_, n_k_42, r_v_41⟩, x_SNT_p0_gd_1_gh_1_gg, trivial⟩)⟩, hw.1, hw.2.2.2.2.1⟩, by rw [ht]; exact hw.2.1, va_K.moved hW.alike hK, hw.2.2.1⟩, hw.2.2.2.1.F ht⟩) hw.2.2.2.1.2.2 dX10_readSaid_177
              · have r_x2 : RI x2 18 18 := rc_eq1 r_x2 rl_18 (ti_eq c_111) (by decide)
                refine lv_aload_n hx hb dX10_readSaid_114 rfl (lv_at hl 1 rfl) ?_
                refine tk_i (va_runV (As := []) (rest := []) ⟨hx, hb, hml, hown, hts⟩ (c_X10_readNot__7 l D cy z H.size Ps ws hw.1 p0 v_21 (gd+1) (gh+1) (gg) h_p0 r_v_21 n_k_22 x_SNI_p0_gd_1_gh_1_gg) (cwV 0 hts (gV tw_1767 tw_1769 ts_115 tw_15 tw_1770) rfl rfl rfl (by decide +kernel) ⟨Nat.le_of_ble_eq_true rfl, Nat.le_of_ble_eq_true rfl⟩) (tg_preV hw hK hSD hA (ci := 10) (q := (RX10, TX10, 49)) rfl h_p0 rfl) rfl rfl hl.1 rfl (lv_room (Nat.le_of_ble_eq_true rfl)) dX10_readSaid_115 ⟨Nat.le_of_ble_eq_true rfl, Nat.le_of_ble_eq_true rfl⟩) hw hA ⟨by decide, by decide⟩ (fun v_43 ws H locs hp_v_43 hw hF9 => ?_)
                have r_v_43 : RI v_43 0 1 := hp_v_43.1
                by_cases c9_v_43 : v_43 = 0
                · have r_v_43 : RI v_43 0 0 := by rw [c9_v_43]; exact rl_0
                  obtain ⟨v_44, m_v_44, r_v_44⟩ := ((hp_v_43.2.1 c9_v_43).1)
                  refine lv_istore_n (lv' := [(3, .int v_43), (0, .ref p0), (1, .int x1), (2, .int x2)]) hx hb dX10_readSaid_118 rfl hl (by decide) rfl (fun ls hl => ?_)
                  refine lv_goto (tgt := 166) hx hb dX10_readSaid_119 (by decide) ?_
                  refine lv_aload_n hx hb dX10_readSaid_166 rfl (lv_at hl 1 rfl) ?_
                  refine lv_dup hx hb dX10_readSaid_167 rfl ?_
                  refine tg_mem (ci := 10) (C := RX10) (T := TX10) (N := 49) hx hb hts inX10 hown hK hw 47 m_v_44 rfl (by decide) (hts _ tw_1184) (fun _ h9 => h9) dX10_readSaid_168 ?_
                  refine lv_iconst (v := 1) hx hb dX10_readSaid_171 (by decide) ?_
                  refine lv_isub hx hb dX10_readSaid_172 (lv_topi (fun v_45 e_v_45 => ?_))
                  obtain ⟨t_v_45, r_v_45⟩ := tq_sub (lo := 0) (hi := 0) r_v_44 rl_1 (by decide +kernel) e_v_45
                  have t_v_45 : v_45.toInt = v_44.toInt - 1 := t_v_45
                  refine tg_put (ci := 10) (ts := ty_MODEL) (v := .int v_45) (ty := .int) (C := RX10) (T := TX10) (N := 49) hx hb hts inX10 tyX10 tyX10_ok nmX10 hown hK hw h_p0 rfl rfl 47 (by decide) (hts _ tw_1184) (fun _ h9 => h9) rfl (by decide +kernel) rfl rfl (ft := vI (-2147483648) 2147483647) rfl ⟨_, rfl, (r_v_45.to (by decide))⟩ (by decide) dX10_readSaid_173 (fun ws H locs hw n_k_46 hF9 => ?_)
                  refine lv_iload_n hx hb dX10_readSaid_176 rfl (lv_at hl 0 rfl) ?_
                  subst hQ
                  exact W.zret (v := v_43) hx hb hr (tq_nz (r_v_43.to (by decide))) (fun t ht hW => ⟨⟨v_43, ws, rfl, ⟨⟨r_v_43.to (by decide), (fun h0 => ⟨⟨_, n_k_46, r_v_45⟩, trivial⟩), (fun h0 => absurd (Int32.toInt_inj.mp (by have h8 := r_v_43; unfold RI at h8; rw [Int32.toInt_zero]; omega)) h0)⟩, hw.1, hw.2.2.2.2.1⟩, by rw [ht]; exact hw.2.1, va_K.moved hW.alike hK, hw.2.2.1⟩, hw.2.2.2.1.F ht⟩) hw.2.2.2.1.2.2 dX10_readSaid_177
                · have r_v_43 : RI v_43 1 1 := rc_neL r_v_43 rl_0 (ti_ne c9_v_43) (by decide)
                  obtain ⟨v_47, m_v_47, r_v_47⟩ := ((hp_v_43.2.2 c9_v_43).1)
                  obtain ⟨v_48, m_v_48, r_v_48⟩ := ((hp_v_43.2.2 c9_v_43).2.1)
                  obtain ⟨v_49, m_v_49, r_v_49⟩ := ((hp_v_43.2.2 c9_v_43).2.2.1)
                  have x_SNT_p0_gd_1_gh_1_gg := ((hp_v_43.2.2 c9_v_43).2.2.2.1)
                  refine lv_istore_n (lv' := [(3, .int v_43), (0, .ref p0), (1, .int x1), (2, .int x2)]) hx hb dX10_readSaid_118 rfl hl (by decide) rfl (fun ls hl => ?_)
                  refine lv_goto (tgt := 166) hx hb dX10_readSaid_119 (by decide) ?_
                  refine lv_aload_n hx hb dX10_readSaid_166 rfl (lv_at hl 1 rfl) ?_
                  refine lv_dup hx hb dX10_readSaid_167 rfl ?_
                  refine tg_mem (ci := 10) (C := RX10) (T := TX10) (N := 49) hx hb hts inX10 hown hK hw 47 m_v_48 rfl (by decide) (hts _ tw_1184) (fun _ h9 => h9) dX10_readSaid_168 ?_
                  refine lv_iconst (v := 1) hx hb dX10_readSaid_171 (by decide) ?_
                  refine lv_isub hx hb dX10_readSaid_172 (lv_topi (fun v_50 e_v_50 => ?_))
                  obtain ⟨t_v_50, r_v_50⟩ := tq_sub (lo := 0) (hi := 0) r_v_48 rl_1 (by decide +kernel) e_v_50
                  have t_v_50 : v_50.toInt = v_48.toInt - 1 := t_v_50
                  refine tg_put (ci := 10) (ts := ty_MODEL) (v := .int v_50) (ty := .int) (C := RX10) (T := TX10) (N := 49) hx hb hts inX10 tyX10 tyX10_ok nmX10 hown hK hw h_p0 rfl rfl 47 (by decide) (hts _ tw_1184) (fun _ h9 => h9) rfl (by decide +kernel) rfl rfl (ft := vI (-2147483648) 2147483647) rfl ⟨_, rfl, (r_v_50.to (by decide))⟩ (by decide) dX10_readSaid_173 (fun ws H locs hw n_k_51 hF9 => ?_)
                  have m_v_47 := FLD.over hF9 m_v_47 (by decide)
                  have m_v_49 := FLD.over hF9 m_v_49 (by decide)
                  have x_SNT_p0_gd_1_gh_1_gg := SNT.over hF9 x_SNT_p0_gd_1_gh_1_gg (by decide)
                  refine lv_iload_n hx hb dX10_readSaid_176 rfl (lv_at hl 0 rfl) ?_
                  subst hQ
                  exact W.zret (v := v_43) hx hb hr (tq_nz (r_v_43.to (by decide))) (fun t ht hW => ⟨⟨v_43, ws, rfl, ⟨⟨r_v_43.to (by decide), (fun h0 => absurd (ti_eq h0) (by have h8 := r_v_43; unfold RI at h8; rw [Int32.toInt_zero]; omega)), (fun h0 => ⟨⟨_, m_v_47, r_v_47⟩, ⟨_, m_v_49, r_v_49⟩, ⟨_, n_k_51, r_v_50⟩, x_SNT_p0_gd_1_gh_1_gg, trivial⟩)⟩, hw.1, hw.2.2.2.2.1⟩, by rw [ht]; exact hw.2.1, va_K.moved hW.alike hK, hw.2.2.1⟩, hw.2.2.2.1.F ht⟩) hw.2.2.2.1.2.2 dX10_readSaid_177
            · exact absurd (r_x1.eq.trans rl_0.eq.symm) ((ti_ne c_97))
          · have r_z0_47 : RI z0_47 8 0 := rc_eq1 r_z0_47 rl_8 (ti_eq c_61) (by decide)
            exact (r_z0_47.no (by decide)).elim
      · have r_x2 : RI x2 28 28 := rc_lt2 rl_27 r_x2 (ti_nle c_37) (by decide)
        refine lv_aload_n hx hb dX10_readSaid_40 rfl (lv_at hl 0 rfl) ?_
        refine lv_iconst (v := 1) hx hb dX10_readSaid_41 (by decide) ?_
        refine tk_i (va_runV (As := [.int 1]) (rest := []) ⟨hx, hb, hml, hown, hts⟩ (c_X10_bad l D cy z H.size Ps ws hw.1 p0 1 h_p0 (rl_1.to (by decide))) (cwV 1 hts (gV tw_1336 tw_1338 ts_46 tw_15 tw_1339) rfl rfl rfl (by decide +kernel) ⟨Nat.le_of_ble_eq_true rfl, Nat.le_of_ble_eq_true rfl⟩) (tg_preV hw hK hSD hA (ci := 10) (q := (RX10, TX10, 49)) rfl h_p0 rfl) rfl rfl hl.1 rfl (lv_room (Nat.le_of_ble_eq_true rfl)) dX10_readSaid_42 ⟨Nat.le_of_ble_eq_true rfl, Nat.le_of_ble_eq_true rfl⟩) hw hA ⟨by decide, by decide⟩ (fun v_52 ws H locs hp_v_52 hw hF9 => ?_)
        have m_z0_47 := FLD.over hF9 m_z0_47 (by decide)
        have x_SN_p0_gd_gh_gg := SNp.over hF9 x_SN_p0_gd_gh_gg (by decide)
        have r_v_52 : RI v_52 0 0 := hp_v_52.1
        subst hQ
        exact W.zret (v := v_52) hx hb hr (tq_nz (r_v_52.to (by decide))) (fun t ht hW => ⟨⟨v_52, ws, rfl, ⟨⟨r_v_52.to (by decide), (fun h0 => ⟨⟨_, m_z0_47, r_z0_47⟩, trivial⟩), (fun h0 => absurd (Int32.toInt_inj.mp (by have h8 := r_v_52; unfold RI at h8; rw [Int32.toInt_zero]; omega)) h0)⟩, hw.1, hw.2.2.2.2.1⟩, by rw [ht]; exact hw.2.1, va_K.moved hW.alike hK, hw.2.2.1⟩, hw.2.2.2.1.F ht⟩) hw.2.2.2.1.2.2 dX10_readSaid_45
  have B10 : ∀ (nf : Nat) (x1 : Int32) (x2 : Int32) (z0_47 : Int32) (ws : va_W) (H : Heap) (locs : List Loc) (ls : Array Slot), 28 - x2.toInt < (nf : Int) → RI x1 0 1 → RI x2 18 28 → RI z0_47 0 0 → FLD ws p0 10 47 (.int z0_47) → SNp ws p0 (gd) (gh) (gg) → WD D cy GG A s wr_X10_readSaid wa_X10_readSaid Ps w0 Ps ws H locs → lv_has ls 4 [(0, .ref p0), (1, .int x1), (2, .int x2)] → W p l e (headSpec (Cond.code yX10_readSaid cX10_readSaid 4 (some .boolean) :: gT) ({ frames := 36, cells := 0, slots := 0, locals := 7200 } : Room)).room s m ([.ref p0] : List Value).toArray below meth c H locs 0 0 Q (F0 m 10 ls []) := by
    intro nf10
    induction nf10 with
    | zero =>
      intro x1 x2 z0_47 ws H locs ls hn10 r_x1 r_x2 r_z0_47 m_z0_47 x_SN_p0_gd_gh_gg hw hl
      exact absurd hn10 (by have q0 := r_x2.1; have u0 := r_x2.2; omega)
    | succ nf10 ih10 =>
      intro x1 x2 z0_47 ws H locs ls hn10 r_x1 r_x2 r_z0_47 m_z0_47 x_SN_p0_gd_gh_gg hw hl
      refine lv_iload_n hx hb dX10_readSaid_10 rfl (lv_at hl 2 rfl) ?_
      refine lv_bipush (v := 27) hx hb dX10_readSaid_11 (by decide) ?_
      refine lv_icmp_gt (tgt := 30) hx hb dX10_readSaid_13 (by decide) (fun c_13 => ?_) (fun c_13 => ?_)
      · have r_x2 : RI x2 28 28 := rc_lt2 rl_27 r_x2 (ti_lt c_13) (by decide)
        exact B30 x1 x2 z0_47 ws _ _ ls r_x1 (r_x2.to (by decide)) r_z0_47 m_z0_47 x_SN_p0_gd_gh_gg hw hl
      · have r_x2 : RI x2 18 27 := rc_le1 r_x2 rl_27 (ti_nlt c_13) (by decide)
        refine lv_aload_n hx hb dX10_readSaid_16 rfl (lv_at hl 0 rfl) ?_
        refine lv_iload_n hx hb dX10_readSaid_17 rfl (lv_at hl 2 rfl) ?_
        refine tk_ir (va_runV (As := [.int x2]) (rest := []) ⟨hx, hb, hml, hown, hts⟩ (c_X10_isWord l D cy z H.size Ps ws hw.1 p0 x2 h_p0 (r_x2.to (by decide))) (cwV 1 hts (gV tw_1318 tw_1320 ts_43 tw_15 tw_1321) rfl rfl rfl (by decide +kernel) ⟨Nat.le_of_ble_eq_true rfl, Nat.le_of_ble_eq_true rfl⟩) (tg_preV hw hK hSD hA (ci := 10) (q := (RX10, TX10, 49)) rfl h_p0 rfl) rfl rfl hl.1 rfl (lv_room (Nat.le_of_ble_eq_true rfl)) dX10_readSaid_18 ⟨Nat.le_of_ble_eq_true rfl, Nat.le_of_ble_eq_true rfl⟩) hw hA (fun v_53  H locs hp_v_53 hw => ?_)
        have r_v_53 : RI v_53 0 1 := hp_v_53.1
        refine lv_if_ne (tgt := 30) hx hb dX10_readSaid_21 (by decide) (fun c_21 => ?_) (fun c_21 => ?_)
        · have r_v_53 : RI v_53 1 1 := rc_neL r_v_53 rl_0 (ti_ne c_21) (by decide)
          exact B30 x1 x2 z0_47 ws _ _ ls r_x1 (r_x2.to (by decide)) r_z0_47 m_z0_47 x_SN_p0_gd_gh_gg hw hl
        · have r_v_53 : RI v_53 0 0 := rc_eq1 r_v_53 rl_0 (ti_eq c_21) (by decide)
          obtain ⟨v_54, e_v_54⟩ : ∃ q9 : Int32, q9 = x2 + Int32.ofInt 1 := ⟨_, rfl⟩
          obtain ⟨t_v_54, r_v_54⟩ := tq_add (lo := 19) (hi := 28) r_x2 (show RI (Int32.ofInt 1) 1 1 by unfold RI; decide +kernel) (by decide +kernel) e_v_54
          have t_v_54 : v_54.toInt = x2.toInt + 1 := t_v_54
          refine lv_iinc (v := v_54) (lv' := [(2, .int v_54), (0, .ref p0), (1, .int x1)]) hx hb dX10_readSaid_24 hl (k := 2) rfl e_v_54.symm (by decide) rfl (fun ls hl => ?_)
          refine lv_goto (tgt := 10) hx hb dX10_readSaid_27 (by decide) ?_
          exact ih10 x1 v_54 z0_47 ws _ _ ls (by have q0 := r_v_54.1; have u0 := r_v_54.2; have o0 := r_x2.1; have p0 := r_x2.2; omega) r_x1 (r_v_54.to (by decide)) r_z0_47 m_z0_47 x_SN_p0_gd_gh_gg hw (lv_sub hl [1, 2, 0] rfl)
  refine lv_aload_n hx hb dX10_readSaid_0 rfl (lv_at hl 0 rfl) ?_
  refine lv_bipush (v := 40) hx hb dX10_readSaid_1 (by decide) ?_
  refine tk_ir (va_runV (As := [.int 40]) (rest := []) ⟨hx, hb, hml, hown, hts⟩ (c_X10_isSign l D cy z s.heap.size Ps w0 hw.1 p0 40 h_p0 (rl_40.to (by decide))) (cwV 1 hts (gV tw_1413 tw_1415 ts_63 tw_15 tw_1416) rfl rfl rfl (by decide +kernel) ⟨Nat.le_of_ble_eq_true rfl, Nat.le_of_ble_eq_true rfl⟩) (tg_preV hw hK hSD hA (ci := 10) (q := (RX10, TX10, 49)) rfl h_p0 rfl) rfl rfl hl.1 rfl (lv_room (Nat.le_of_ble_eq_true rfl)) dX10_readSaid_3 ⟨Nat.le_of_ble_eq_true rfl, Nat.le_of_ble_eq_true rfl⟩) hw hA (fun v_55  H locs hp_v_55 hw => ?_)
  have r_v_55 : RI v_55 0 1 := hp_v_55.1
  by_cases c9_v_55 : v_55 = 0
  · have r_v_55 : RI v_55 0 0 := by rw [c9_v_55]; exact rl_0
    refine lv_istore_n (lv' := [(1, .int v_55), (0, .ref p0)]) hx hb dX10_readSaid_6 rfl hl (by decide) rfl (fun ls hl => ?_)
    refine lv_bipush (v := 18) hx hb dX10_readSaid_7 (by decide) ?_
    refine lv_istore_n (lv' := [(2, .int 18), (1, .int v_55), (0, .ref p0)]) hx hb dX10_readSaid_9 rfl hl (by decide) rfl (fun ls hl => ?_)
    exact B10 4294967298 v_55 18 f0_47 w0 _ _ ls (by have q0 := rl_18.1; have u0 := rl_18.2; omega) (r_v_55.to (by decide)) (rl_18.to (by decide)) r_f0_47 m_f0_47 x_SN_p0_gd_gh_gg hw (lv_sub hl [2, 1, 0] rfl)
  · have r_v_55 : RI v_55 1 1 := rc_neL r_v_55 rl_0 (ti_ne c9_v_55) (by decide)
    obtain ⟨v_56, m_v_56, r_v_56⟩ := ((hp_v_55.2.2 c9_v_55).1)
    refine lv_istore_n (lv' := [(1, .int v_55), (0, .ref p0)]) hx hb dX10_readSaid_6 rfl hl (by decide) rfl (fun ls hl => ?_)
    refine lv_bipush (v := 18) hx hb dX10_readSaid_7 (by decide) ?_
    refine lv_istore_n (lv' := [(2, .int 18), (1, .int v_55), (0, .ref p0)]) hx hb dX10_readSaid_9 rfl hl (by decide) rfl (fun ls hl => ?_)
    exact B10 4294967298 v_55 18 f0_47 w0 _ _ ls (by have q0 := rl_18.1; have u0 := rl_18.2; omega) (r_v_55.to (by decide)) (rl_18.to (by decide)) r_f0_47 m_f0_47 x_SN_p0_gd_gh_gg hw (lv_sub hl [2, 1, 0] rfl)
abbrev wr_X10_readAnd : List (Nat × Nat) := [(10, 5), (10, 6), (10, 7), (10, 8), (10, 9), (10, 10), (10, 11), (10, 12), (10, 13), (10, 45), (10, 46), (10, 47), (10, 48)]
abbrev wa_X10_readAnd : List Nat := [54]
set_option maxHeartbeats 4000000 in
set_option maxRecDepth 100000 in
theorem c_X10_readAnd (l : Launch) (D : va_G) (cy : Nat → ClassId) (z : Nat → Nat) (sz : Nat) (Ps : PSI) (w0 : va_W) (hT : HT cy GG Ps w0) (p0 : Nat) (f0_47 : Int32) (gd : Int) (gh : Int) (gg : Int) (h_p0 : (p0, 55) ∈ Ps) (r_f0_47 : RI f0_47 0 0) (m_f0_47 : FLD w0 p0 10 47 (.int f0_47)) (x_SN_p0_gd_gh_gg : SNp w0 p0 (gd) (gh) (gg)) : Met l yX10_readAnd (Cond.code yX10_readAnd cX10_readAnd 2 (some .boolean) :: gT) ({ frames := 37, cells := 0, slots := 0, locals := 7400 } : Room) (va_Pc [.ref p0] (PRE D cy z w0 sz)) (va_Qi (fun (r : Int32) (u : va_W) => (RI r 0 1 ∧ (r = 0 → (∃ v9 : Int32, FLD u p0 10 47 (.int v9) ∧ RI v9 0 0) ∧ True) ∧ (¬ r = 0 → (∃ v9 : Int32, FLD u p0 10 46 (.int v9) ∧ RI v9 1 20) ∧ (∃ v9 : Int32, FLD u p0 10 47 (.int v9) ∧ RI v9 0 0) ∧ (∃ v9 : Int32, FLD u p0 10 48 (.int v9) ∧ RI v9 0 39) ∧ SNT u p0 (gd+1) (gh+1) (gg) ∧ True)) ∧ HT cy GG Ps u ∧ FR wr_X10_readAnd wa_X10_readAnd Ps w0 u) (BB D cy (va_A w0 sz) (fun (u : va_W) => u)) (va_A w0 sz)) 0 0 (va_A w0 sz) := by
  refine Met.ofW (cc := cX10_readAnd) (maxL := 2) (ret := (some .boolean)) (by decide) rfl ?_
  intro p e s m args below meth c s₁ B hml hv
  obtain ⟨rfl, hsz, hP, hK, hD0, hSD⟩ := hv
  have hx := B.exec
  have hb := B.bytes
  have hr := B.returns
  have hlocks := B.notSynchronized
  have hts : ∀ w ∈ gT, w.before _ s = true := fun w h => atoms_spec (ws := Cond.code yX10_readAnd cX10_readAnd 2 (some .boolean) :: gT) B.pre w (List.mem_cons_of_mem _ h)
  have hown : s.vm.findClass RX10 = some m.cls := findClass_of_methodNamed B.named
  subst hsz
  have hD := hD0.self (sz := s.heap.size)
  generalize hAe : va_A w0 s.heap.size = A at hD hSD ⊢
  have hA : ∀ q : Nat, s.heap.size ≤ q → A q := fun q h => by rw [← hAe]; exact Or.inr h
  have hl := lv_entry ([.ref p0]) (n := 2) (Nat.le_of_ble_eq_true rfl)
  rw [lg_entry_eq]
  generalize (lg_sl ([.ref p0]) ++ List.replicate (2 - (lg_sl ([.ref p0])).length) Slot.unset).toArray = ls at hl ⊢
  have hl : lv_has ls 2 [(0, .ref p0)] := hl
  refine nameQ (fun Q hQ => ?_)
  have hw : WD D cy GG A s wr_X10_readAnd wa_X10_readAnd Ps w0 Ps w0 s.heap [] := ⟨hT, hP, hD, va_S.rf, FR.rf, hT.1, [], (List.append_nil _).symm⟩
  have B14 : ∀ (nf : Nat) (x1 : Int32) (z0_46 : Int32) (z0_47 : Int32) (z0_48 : Int32) (gz : Int) (ws : va_W) (H : Heap) (locs : List Loc) (ls : Array Slot), 21 - gz < (nf : Int) → RI x1 0 39 → RI z0_46 1 20 → FLD ws p0 10 46 (.int z0_46) → RI z0_47 0 0 → FLD ws p0 10 47 (.int z0_47) → RI z0_48 0 39 → FLD ws p0 10 48 (.int z0_48) → (SNL ws p0 (gd+1) (gz) (gg) x1 ∧ gh + 1 ≤ gz) → WD D cy GG A s wr_X10_readAnd wa_X10_readAnd Ps w0 Ps ws H locs → lv_has ls 2 [(0, .ref p0), (1, .int x1)] → W p l e (headSpec (Cond.code yX10_readAnd cX10_readAnd 2 (some .boolean) :: gT) ({ frames := 37, cells := 0, slots := 0, locals := 7400 } : Room)).room s m ([.ref p0] : List Value).toArray below meth c H locs 0 0 Q (F0 m 14 ls []) := by
    intro nf14
    induction nf14 with
    | zero =>
      intro x1 z0_46 z0_47 z0_48 gz ws H locs ls hn14 r_x1 r_z0_46 m_z0_46 r_z0_47 m_z0_47 r_z0_48 m_z0_48 x_SNW_p0_gd_1_gz_gg__1 hw hl
      exact absurd hn14 (by have q9 := SNL.le x_SNW_p0_gd_1_gz_gg__1.1; omega)
    | succ nf14 ih14 =>
      intro x1 z0_46 z0_47 z0_48 gz ws H locs ls hn14 r_x1 r_z0_46 m_z0_46 r_z0_47 m_z0_47 r_z0_48 m_z0_48 x_SNW_p0_gd_1_gz_gg__1 hw hl
      refine lv_aload_n hx hb dX10_readAnd_14 rfl (lv_at hl 0 rfl) ?_
      refine lv_bipush (v := 17) hx hb dX10_readAnd_15 (by decide) ?_
      refine tk_ir (va_runV (As := [.int 17]) (rest := []) ⟨hx, hb, hml, hown, hts⟩ (c_X10_isWord l D cy z H.size Ps ws hw.1 p0 17 h_p0 (rl_17.to (by decide))) (cwV 1 hts (gV tw_1318 tw_1320 ts_43 tw_15 tw_1321) rfl rfl rfl (by decide +kernel) ⟨Nat.le_of_ble_eq_true rfl, Nat.le_of_ble_eq_true rfl⟩) (tg_preV hw hK hSD hA (ci := 10) (q := (RX10, TX10, 49)) rfl h_p0 rfl) rfl rfl hl.1 rfl (lv_room (Nat.le_of_ble_eq_true rfl)) dX10_readAnd_17 ⟨Nat.le_of_ble_eq_true rfl, Nat.le_of_ble_eq_true rfl⟩) hw hA (fun v_1  H locs hp_v_1 hw => ?_)
      have r_v_1 : RI v_1 0 1 := hp_v_1.1
      refine lv_if_eq (tgt := 51) hx hb dX10_readAnd_20 (by decide) (fun c_20 => ?_) (fun c_20 => ?_)
      · have r_v_1 : RI v_1 0 0 := rc_eq1 r_v_1 rl_0 (ti_eq c_20) (by decide)
        refine lv_aload_n hx hb dX10_readAnd_51 rfl (lv_at hl 0 rfl) ?_
        refine lv_iload_n hx hb dX10_readAnd_52 rfl (lv_at hl 1 rfl) ?_
        refine tg_put (ci := 10) (ts := ty_MODEL) (v := .int x1) (ty := .int) (C := RX10) (T := TX10) (N := 49) hx hb hts inX10 tyX10 tyX10_ok nmX10 hown hK hw h_p0 rfl rfl 48 (by decide) (hts _ tw_1185) (fun _ h9 => h9) rfl (by decide +kernel) rfl rfl (ft := vI (-2147483648) 2147483647) rfl ⟨_, rfl, (r_x1.to (by decide))⟩ (by decide) dX10_readAnd_53 (fun ws H locs hw n_k_2 hF9 => ?_)
        have m_z0_46 := FLD.over hF9 m_z0_46 (by decide)
        have m_z0_47 := FLD.over hF9 m_z0_47 (by decide)
        have x_SNW_p0_gd_1_gz_gg__1 := SNW.over hF9 x_SNW_p0_gd_1_gz_gg__1 (by decide)
        have f6 := SNL.le x_SNW_p0_gd_1_gz_gg__1.1
        have f7 := x_SNW_p0_gd_1_gz_gg__1.2
        have x_SNT_p0_gd_1_gh_1_gg : SNT ws p0 (gd+1) (gh+1) (gg) := (SNL.snt x_SNW_p0_gd_1_gz_gg__1.1 n_k_2).weak (by have d_8 := SNp.le x_SN_p0_gd_gh_gg; omega)
        refine lv_iconst (v := 1) hx hb dX10_readAnd_56 (by decide) ?_
        subst hQ
        exact W.zret (v := 1) hx hb hr (rfl) (fun t ht hW => ⟨⟨1, ws, rfl, ⟨⟨rl_1.to (by decide), (fun h0 => absurd h0 (by decide)), (fun h0 => ⟨⟨_, m_z0_46, r_z0_46⟩, ⟨_, m_z0_47, r_z0_47⟩, ⟨_, n_k_2, r_x1⟩, x_SNT_p0_gd_1_gh_1_gg, trivial⟩)⟩, hw.1, hw.2.2.2.2.1⟩, by rw [ht]; exact hw.2.1, va_K.moved hW.alike hK, hw.2.2.1⟩, hw.2.2.2.1.F ht⟩) hw.2.2.2.1.2.2 dX10_readAnd_57
      · have r_v_1 : RI v_1 1 1 := rc_neL r_v_1 rl_0 (ti_ne c_20) (by decide)
        refine lv_aload_n hx hb dX10_readAnd_23 rfl (lv_at hl 0 rfl) ?_
        refine tk_v (va_runV (As := []) (rest := []) ⟨hx, hb, hml, hown, hts⟩ (c_X10_go l D cy z H.size Ps ws hw.1 p0 h_p0) (cwV 0 hts (gV tw_1298 tw_1300 ts_40 tw_15 tw_1301) rfl rfl rfl (by decide +kernel) ⟨Nat.le_of_ble_eq_true rfl, Nat.le_of_ble_eq_true rfl⟩) (tg_preV hw hK hSD hA (ci := 10) (q := (RX10, TX10, 49)) rfl h_p0 rfl) rfl rfl hl.1 rfl (lv_room (Nat.le_of_ble_eq_true rfl)) dX10_readAnd_24 ⟨Nat.le_of_ble_eq_true rfl, Nat.le_of_ble_eq_true rfl⟩) hw hA ⟨by decide, by decide⟩ (fun ws H locs hp_v_3 hw hF9 => ?_)
        have m_z0_46 := FLD.over hF9 m_z0_46 (by decide)
        have m_z0_47 := FLD.over hF9 m_z0_47 (by decide)
        have m_z0_48 := FLD.over hF9 m_z0_48 (by decide)
        have x_SNW_p0_gd_1_gz_gg__1 := SNW.over hF9 x_SNW_p0_gd_1_gz_gg__1 (by decide)
        refine lv_aload_n hx hb dX10_readAnd_27 rfl (lv_at hl 0 rfl) ?_
        have f9 := SNL.sn x_SNW_p0_gd_1_gz_gg__1.1
        have f8 := f9.2
        have f7 := x_SNW_p0_gd_1_gz_gg__1.2
        have f6 := SNL.le x_SNW_p0_gd_1_gz_gg__1.1
        have x_SN_p0_gd_1_gz_max_gg__Int32_toInt_x1___1_ : SNp ws p0 (gd+1) (gz) (max gg (Int32.toInt x1 + 1)) := f9.1
        refine tk_i (va_runV (As := []) (rest := []) ⟨hx, hb, hml, hown, hts⟩ (c_X10_readSaid l D cy z H.size Ps ws hw.1 p0 z0_47 (gd+1) (gz) (max gg (Int32.toInt x1 + 1)) h_p0 r_z0_47 m_z0_47 x_SN_p0_gd_1_gz_max_gg__Int32_toInt_x1___1_) (cwV 0 hts (gV tw_1759 tw_1761 ts_113 tw_15 tw_1762) rfl rfl rfl (by decide +kernel) ⟨Nat.le_of_ble_eq_true rfl, Nat.le_of_ble_eq_true rfl⟩) (tg_preV hw hK hSD hA (ci := 10) (q := (RX10, TX10, 49)) rfl h_p0 rfl) rfl rfl hl.1 rfl (lv_room (Nat.le_of_ble_eq_true rfl)) dX10_readAnd_28 ⟨Nat.le_of_ble_eq_true rfl, Nat.le_of_ble_eq_true rfl⟩) hw hA ⟨by decide, by decide⟩ (fun v_4 ws H locs hp_v_4 hw hF9 => ?_)
        have r_v_4 : RI v_4 0 1 := hp_v_4.1
        by_cases c9_v_4 : v_4 = 0
        · have r_v_4 : RI v_4 0 0 := by rw [c9_v_4]; exact rl_0
          obtain ⟨v_5, m_v_5, r_v_5⟩ := ((hp_v_4.2.1 c9_v_4).1)
          refine lv_if_ne (tgt := 36) hx hb dX10_readAnd_31 (by decide) (fun c_31 => ?_) (fun c_31 => ?_)
          · exact absurd (r_v_4.eq.trans rl_0.eq.symm) ((ti_ne c_31))
          · refine lv_iconst (v := 0) hx hb dX10_readAnd_34 (by decide) ?_
            subst hQ
            exact W.zret (v := 0) hx hb hr (rfl) (fun t ht hW => ⟨⟨0, ws, rfl, ⟨⟨rl_0.to (by decide), (fun h0 => ⟨⟨_, m_v_5, r_v_5⟩, trivial⟩), (fun h0 => absurd rfl h0)⟩, hw.1, hw.2.2.2.2.1⟩, by rw [ht]; exact hw.2.1, va_K.moved hW.alike hK, hw.2.2.1⟩, hw.2.2.2.1.F ht⟩) hw.2.2.2.1.2.2 dX10_readAnd_35
        · have r_v_4 : RI v_4 1 1 := rc_neL r_v_4 rl_0 (ti_ne c9_v_4) (by decide)
          obtain ⟨v_6, m_v_6, r_v_6⟩ := ((hp_v_4.2.2 c9_v_4).1)
          obtain ⟨v_7, m_v_7, r_v_7⟩ := ((hp_v_4.2.2 c9_v_4).2.1)
          obtain ⟨v_8, m_v_8, r_v_8⟩ := ((hp_v_4.2.2 c9_v_4).2.2.1)
          have x_SNT_p0_gd_2_gz_1_max_gg__Int32_toInt_x1___1_ := ((hp_v_4.2.2 c9_v_4).2.2.2.1)
          refine lv_if_ne (tgt := 36) hx hb dX10_readAnd_31 (by decide) (fun c_31 => ?_) (fun c_31 => ?_)
          · refine lv_aload_n hx hb dX10_readAnd_36 rfl (lv_at hl 0 rfl) ?_
            refine lv_iconst (v := 2) hx hb dX10_readAnd_37 (by decide) ?_
            refine lv_iload_n hx hb dX10_readAnd_38 rfl (lv_at hl 1 rfl) ?_
            refine lv_aload_n hx hb dX10_readAnd_39 rfl (lv_at hl 0 rfl) ?_
            refine tg_mem (ci := 10) (C := RX10) (T := TX10) (N := 49) hx hb hts inX10 hown hK hw 48 m_v_7 rfl (by decide) (hts _ tw_1185) (fun _ h9 => h9) dX10_readAnd_40 ?_
            refine lv_iconst (v := 0) hx hb dX10_readAnd_43 (by decide) ?_
            have l9 := SNT.top hw x_SNT_p0_gd_2_gz_1_max_gg__Int32_toInt_x1___1_ m_v_7
            have l8 := SNT.sn x_SNT_p0_gd_2_gz_1_max_gg__Int32_toInt_x1___1_
            have x_SNI_p0_gd_1_gz_1_gg : SNI ws p0 (gd+1) (gz+1) (gg) := SNp.sni l8 (by have d_8 := SNp.le x_SN_p0_gd_gh_gg; omega)
            have x_LTN_p0_x1 : LTN ws p0 (x1) := SNp.ltn l8 f8
            have x_LTN_p0_v_7 : LTN ws p0 (v_7) := l9.ltn
            refine tk_i (va_runV (As := [.int 2, .int x1, .int v_7, .int 0]) (rest := []) ⟨hx, hb, hml, hown, hts⟩ (c_X10_saysOne__1 l D cy z H.size Ps ws hw.1 p0 2 x1 v_7 0 (gd+1) (gz+1) (gg) h_p0 (rl_2.to (by decide)) (r_x1.to (by decide)) (r_v_7.to (by decide)) (rl_0.to (by decide)) x_SNI_p0_gd_1_gz_1_gg x_LTN_p0_x1 x_LTN_p0_v_7) (cwV 4 hts (gV tw_1771 tw_1773 ts_116 tw_15 tw_1774) rfl rfl rfl (by decide +kernel) ⟨Nat.le_of_ble_eq_true rfl, Nat.le_of_ble_eq_true rfl⟩) (tg_preV hw hK hSD hA (ci := 10) (q := (RX10, TX10, 49)) rfl h_p0 rfl) rfl rfl hl.1 rfl (lv_room (Nat.le_of_ble_eq_true rfl)) dX10_readAnd_44 ⟨Nat.le_of_ble_eq_true rfl, Nat.le_of_ble_eq_true rfl⟩) hw hA ⟨by decide, by decide⟩ (fun v_9 ws H locs hp_v_9 hw hF9 => ?_)
            have m_v_6 := FLD.over hF9 m_v_6 (by decide)
            have m_v_7 := FLD.over hF9 m_v_7 (by decide)
            have m_v_8 := FLD.over hF9 m_v_8 (by decide)
            have r_v_9 : RI v_9 0 39 := hp_v_9.1
            have x_SNL_p0_gd_1_gz_1_gg_v_9 := hp_v_9.2.2.2.1.1
            refine lv_istore_n (lv' := [(1, .int v_9), (0, .ref p0)]) hx hb dX10_readAnd_47 rfl hl (by decide) rfl (fun ls hl => ?_)
            refine lv_goto (tgt := 14) hx hb dX10_readAnd_48 (by decide) ?_
            have x_SNW_p0_gd_1_gz_1_gg_v_9 : (SNL ws p0 (gd+1) (gz+1) (gg) v_9 ∧ gh + 1 ≤ gz+1) := ⟨x_SNL_p0_gd_1_gz_1_gg_v_9, by omega⟩
            exact ih14 v_9 v_6 v_8 v_7 (gz+1) ws _ _ ls (by have d_8 := SNp.le x_SN_p0_gd_gh_gg; omega) r_v_9 r_v_6 m_v_6 r_v_8 m_v_8 r_v_7 m_v_7 x_SNW_p0_gd_1_gz_1_gg_v_9 hw (lv_sub hl [1, 0] rfl)
          · have r_v_4 : RI v_4 1 0 := rc_eq1 r_v_4 rl_0 (ti_eq c_31) (by decide)
            exact (r_v_4.no (by decide)).elim
  refine lv_aload_n hx hb dX10_readAnd_0 rfl (lv_at hl 0 rfl) ?_
  refine tk_i (va_runV (As := []) (rest := []) ⟨hx, hb, hml, hown, hts⟩ (c_X10_readSaid l D cy z s.heap.size Ps w0 hw.1 p0 f0_47 (gd) (gh) (gg) h_p0 r_f0_47 m_f0_47 x_SN_p0_gd_gh_gg) (cwV 0 hts (gV tw_1759 tw_1761 ts_113 tw_15 tw_1762) rfl rfl rfl (by decide +kernel) ⟨Nat.le_of_ble_eq_true rfl, Nat.le_of_ble_eq_true rfl⟩) (tg_preV hw hK hSD hA (ci := 10) (q := (RX10, TX10, 49)) rfl h_p0 rfl) rfl rfl hl.1 rfl (lv_room (Nat.le_of_ble_eq_true rfl)) dX10_readAnd_1 ⟨Nat.le_of_ble_eq_true rfl, Nat.le_of_ble_eq_true rfl⟩) hw hA ⟨by decide, by decide⟩ (fun v_10 ws H locs hp_v_10 hw hF9 => ?_)
  have r_v_10 : RI v_10 0 1 := hp_v_10.1
  by_cases c9_v_10 : v_10 = 0
  · have r_v_10 : RI v_10 0 0 := by rw [c9_v_10]; exact rl_0
    obtain ⟨v_11, m_v_11, r_v_11⟩ := ((hp_v_10.2.1 c9_v_10).1)
    refine lv_if_ne (tgt := 9) hx hb dX10_readAnd_4 (by decide) (fun c_4 => ?_) (fun c_4 => ?_)
    · exact absurd (r_v_10.eq.trans rl_0.eq.symm) ((ti_ne c_4))
    · refine lv_iconst (v := 0) hx hb dX10_readAnd_7 (by decide) ?_
      subst hQ
      exact W.zret (v := 0) hx hb hr (rfl) (fun t ht hW => ⟨⟨0, ws, rfl, ⟨⟨rl_0.to (by decide), (fun h0 => ⟨⟨_, m_v_11, r_v_11⟩, trivial⟩), (fun h0 => absurd rfl h0)⟩, hw.1, hw.2.2.2.2.1⟩, by rw [ht]; exact hw.2.1, va_K.moved hW.alike hK, hw.2.2.1⟩, hw.2.2.2.1.F ht⟩) hw.2.2.2.1.2.2 dX10_readAnd_8
  · have r_v_10 : RI v_10 1 1 := rc_neL r_v_10 rl_0 (ti_ne c9_v_10) (by decide)
    obtain ⟨v_12, m_v_12, r_v_12⟩ := ((hp_v_10.2.2 c9_v_10).1)
    obtain ⟨v_13, m_v_13, r_v_13⟩ := ((hp_v_10.2.2 c9_v_10).2.1)
    obtain ⟨v_14, m_v_14, r_v_14⟩ := ((hp_v_10.2.2 c9_v_10).2.2.1)
    have x_SNT_p0_gd_1_gh_1_gg := ((hp_v_10.2.2 c9_v_10).2.2.2.1)
    refine lv_if_ne (tgt := 9) hx hb dX10_readAnd_4 (by decide) (fun c_4 => ?_) (fun c_4 => ?_)
    · refine lv_aload_n hx hb dX10_readAnd_9 rfl (lv_at hl 0 rfl) ?_
      refine tg_mem (ci := 10) (C := RX10) (T := TX10) (N := 49) hx hb hts inX10 hown hK hw 48 m_v_13 rfl (by decide) (hts _ tw_1185) (fun _ h9 => h9) dX10_readAnd_10 ?_
      refine lv_istore_n (lv' := [(1, .int v_13), (0, .ref p0)]) hx hb dX10_readAnd_13 rfl hl (by decide) rfl (fun ls hl => ?_)
      have x_SNW_p0_gd_1_gh_1_gg_v_13 : (SNL ws p0 (gd+1) (gh+1) (gg) v_13 ∧ gh + 1 ≤ gh+1) := ⟨SNT.top hw x_SNT_p0_gd_1_gh_1_gg m_v_13, by omega⟩
      exact B14 4294967298 v_13 v_12 v_14 v_13 (gh+1) ws _ _ ls (by have d_8 := SNp.le x_SN_p0_gd_gh_gg; omega) r_v_13 r_v_12 m_v_12 r_v_14 m_v_14 r_v_13 m_v_13 x_SNW_p0_gd_1_gh_1_gg_v_13 hw (lv_sub hl [1, 0] rfl)
    · have r_v_10 : RI v_10 1 0 := rc_eq1 r_v_10 rl_0 (ti_eq c_4) (by decide)
      exact (r_v_10.no (by decide)).elim
abbrev wr_X10_readOr : List (Nat × Nat) := [(10, 5), (10, 6), (10, 7), (10, 8), (10, 9), (10, 10), (10, 11), (10, 12), (10, 13), (10, 45), (10, 46), (10, 47), (10, 48)]
abbrev wa_X10_readOr : List Nat := [54]
set_option maxHeartbeats 4000000 in
set_option maxRecDepth 100000 in
theorem c_X10_readOr (l : Launch) (D : va_G) (cy : Nat → ClassId) (z : Nat → Nat) (sz : Nat) (Ps : PSI) (w0 : va_W) (hT : HT cy GG Ps w0) (p0 : Nat) (f0_47 : Int32) (gd : Int) (gh : Int) (gg : Int) (h_p0 : (p0, 55) ∈ Ps) (r_f0_47 : RI f0_47 0 0) (m_f0_47 : FLD w0 p0 10 47 (.int f0_47)) (x_SN_p0_gd_gh_gg : SNp w0 p0 (gd) (gh) (gg)) : Met l yX10_readOr (Cond.code yX10_readOr cX10_readOr 2 (some .boolean) :: gT) ({ frames := 38, cells := 0, slots := 0, locals := 7600 } : Room) (va_Pc [.ref p0] (PRE D cy z w0 sz)) (va_Qi (fun (r : Int32) (u : va_W) => (RI r 0 1 ∧ (r = 0 → (∃ v9 : Int32, FLD u p0 10 47 (.int v9) ∧ RI v9 0 0) ∧ True) ∧ (¬ r = 0 → (∃ v9 : Int32, FLD u p0 10 46 (.int v9) ∧ RI v9 1 20) ∧ (∃ v9 : Int32, FLD u p0 10 47 (.int v9) ∧ RI v9 0 0) ∧ (∃ v9 : Int32, FLD u p0 10 48 (.int v9) ∧ RI v9 0 39) ∧ SNT u p0 (gd+1) (gh+1) (gg) ∧ True)) ∧ HT cy GG Ps u ∧ FR wr_X10_readOr wa_X10_readOr Ps w0 u) (BB D cy (va_A w0 sz) (fun (u : va_W) => u)) (va_A w0 sz)) 0 0 (va_A w0 sz) := by
  refine Met.ofW (cc := cX10_readOr) (maxL := 2) (ret := (some .boolean)) (by decide) rfl ?_
  intro p e s m args below meth c s₁ B hml hv
  obtain ⟨rfl, hsz, hP, hK, hD0, hSD⟩ := hv
  have hx := B.exec
  have hb := B.bytes
  have hr := B.returns
  have hlocks := B.notSynchronized
  have hts : ∀ w ∈ gT, w.before _ s = true := fun w h => atoms_spec (ws := Cond.code yX10_readOr cX10_readOr 2 (some .boolean) :: gT) B.pre w (List.mem_cons_of_mem _ h)
  have hown : s.vm.findClass RX10 = some m.cls := findClass_of_methodNamed B.named
  subst hsz
  have hD := hD0.self (sz := s.heap.size)
  generalize hAe : va_A w0 s.heap.size = A at hD hSD ⊢
  have hA : ∀ q : Nat, s.heap.size ≤ q → A q := fun q h => by rw [← hAe]; exact Or.inr h
  have hl := lv_entry ([.ref p0]) (n := 2) (Nat.le_of_ble_eq_true rfl)
  rw [lg_entry_eq]
  generalize (lg_sl ([.ref p0]) ++ List.replicate (2 - (lg_sl ([.ref p0])).length) Slot.unset).toArray = ls at hl ⊢
  have hl : lv_has ls 2 [(0, .ref p0)] := hl
  refine nameQ (fun Q hQ => ?_)
  have hw : WD D cy GG A s wr_X10_readOr wa_X10_readOr Ps w0 Ps w0 s.heap [] := ⟨hT, hP, hD, va_S.rf, FR.rf, hT.1, [], (List.append_nil _).symm⟩
  have B14 : ∀ (nf : Nat) (x1 : Int32) (z0_46 : Int32) (z0_47 : Int32) (z0_48 : Int32) (gz : Int) (ws : va_W) (H : Heap) (locs : List Loc) (ls : Array Slot), 21 - gz < (nf : Int) → RI x1 0 39 → RI z0_46 1 20 → FLD ws p0 10 46 (.int z0_46) → RI z0_47 0 0 → FLD ws p0 10 47 (.int z0_47) → RI z0_48 0 39 → FLD ws p0 10 48 (.int z0_48) → (SNL ws p0 (gd+1) (gz) (gg) x1 ∧ gh + 1 ≤ gz) → WD D cy GG A s wr_X10_readOr wa_X10_readOr Ps w0 Ps ws H locs → lv_has ls 2 [(0, .ref p0), (1, .int x1)] → W p l e (headSpec (Cond.code yX10_readOr cX10_readOr 2 (some .boolean) :: gT) ({ frames := 38, cells := 0, slots := 0, locals := 7600 } : Room)).room s m ([.ref p0] : List Value).toArray below meth c H locs 0 0 Q (F0 m 14 ls []) := by
    intro nf14
    induction nf14 with
    | zero =>
      intro x1 z0_46 z0_47 z0_48 gz ws H locs ls hn14 r_x1 r_z0_46 m_z0_46 r_z0_47 m_z0_47 r_z0_48 m_z0_48 x_SNW_p0_gd_1_gz_gg__1 hw hl
      exact absurd hn14 (by have q9 := SNL.le x_SNW_p0_gd_1_gz_gg__1.1; omega)
    | succ nf14 ih14 =>
      intro x1 z0_46 z0_47 z0_48 gz ws H locs ls hn14 r_x1 r_z0_46 m_z0_46 r_z0_47 m_z0_47 r_z0_48 m_z0_48 x_SNW_p0_gd_1_gz_gg__1 hw hl
      refine lv_aload_n hx hb dX10_readOr_14 rfl (lv_at hl 0 rfl) ?_
      refine lv_bipush (v := 16) hx hb dX10_readOr_15 (by decide) ?_
      refine tk_ir (va_runV (As := [.int 16]) (rest := []) ⟨hx, hb, hml, hown, hts⟩ (c_X10_isWord l D cy z H.size Ps ws hw.1 p0 16 h_p0 (rl_16.to (by decide))) (cwV 1 hts (gV tw_1318 tw_1320 ts_43 tw_15 tw_1321) rfl rfl rfl (by decide +kernel) ⟨Nat.le_of_ble_eq_true rfl, Nat.le_of_ble_eq_true rfl⟩) (tg_preV hw hK hSD hA (ci := 10) (q := (RX10, TX10, 49)) rfl h_p0 rfl) rfl rfl hl.1 rfl (lv_room (Nat.le_of_ble_eq_true rfl)) dX10_readOr_17 ⟨Nat.le_of_ble_eq_true rfl, Nat.le_of_ble_eq_true rfl⟩) hw hA (fun v_1  H locs hp_v_1 hw => ?_)
      have r_v_1 : RI v_1 0 1 := hp_v_1.1
      refine lv_if_eq (tgt := 51) hx hb dX10_readOr_20 (by decide) (fun c_20 => ?_) (fun c_20 => ?_)
      · have r_v_1 : RI v_1 0 0 := rc_eq1 r_v_1 rl_0 (ti_eq c_20) (by decide)
        refine lv_aload_n hx hb dX10_readOr_51 rfl (lv_at hl 0 rfl) ?_
        refine lv_iload_n hx hb dX10_readOr_52 rfl (lv_at hl 1 rfl) ?_
        refine tg_put (ci := 10) (ts := ty_MODEL) (v := .int x1) (ty := .int) (C := RX10) (T := TX10) (N := 49) hx hb hts inX10 tyX10 tyX10_ok nmX10 hown hK hw h_p0 rfl rfl 48 (by decide) (hts _ tw_1185) (fun _ h9 => h9) rfl (by decide +kernel) rfl rfl (ft := vI (-2147483648) 2147483647) rfl ⟨_, rfl, (r_x1.to (by decide))⟩ (by decide) dX10_readOr_53 (fun ws H locs hw n_k_2 hF9 => ?_)
        have m_z0_46 := FLD.over hF9 m_z0_46 (by decide)
        have m_z0_47 := FLD.over hF9 m_z0_47 (by decide)
        have x_SNW_p0_gd_1_gz_gg__1 := SNW.over hF9 x_SNW_p0_gd_1_gz_gg__1 (by decide)
        have f6 := SNL.le x_SNW_p0_gd_1_gz_gg__1.1
        have f7 := x_SNW_p0_gd_1_gz_gg__1.2
        have x_SNT_p0_gd_1_gh_1_gg : SNT ws p0 (gd+1) (gh+1) (gg) := (SNL.snt x_SNW_p0_gd_1_gz_gg__1.1 n_k_2).weak (by have d_8 := SNp.le x_SN_p0_gd_gh_gg; omega)
        refine lv_iconst (v := 1) hx hb dX10_readOr_56 (by decide) ?_
        subst hQ
        exact W.zret (v := 1) hx hb hr (rfl) (fun t ht hW => ⟨⟨1, ws, rfl, ⟨⟨rl_1.to (by decide), (fun h0 => absurd h0 (by decide)), (fun h0 => ⟨⟨_, m_z0_46, r_z0_46⟩, ⟨_, m_z0_47, r_z0_47⟩, ⟨_, n_k_2, r_x1⟩, x_SNT_p0_gd_1_gh_1_gg, trivial⟩)⟩, hw.1, hw.2.2.2.2.1⟩, by rw [ht]; exact hw.2.1, va_K.moved hW.alike hK, hw.2.2.1⟩, hw.2.2.2.1.F ht⟩) hw.2.2.2.1.2.2 dX10_readOr_57
      · have r_v_1 : RI v_1 1 1 := rc_neL r_v_1 rl_0 (ti_ne c_20) (by decide)
        refine lv_aload_n hx hb dX10_readOr_23 rfl (lv_at hl 0 rfl) ?_
        refine tk_v (va_runV (As := []) (rest := []) ⟨hx, hb, hml, hown, hts⟩ (c_X10_go l D cy z H.size Ps ws hw.1 p0 h_p0) (cwV 0 hts (gV tw_1298 tw_1300 ts_40 tw_15 tw_1301) rfl rfl rfl (by decide +kernel) ⟨Nat.le_of_ble_eq_true rfl, Nat.le_of_ble_eq_true rfl⟩) (tg_preV hw hK hSD hA (ci := 10) (q := (RX10, TX10, 49)) rfl h_p0 rfl) rfl rfl hl.1 rfl (lv_room (Nat.le_of_ble_eq_true rfl)) dX10_readOr_24 ⟨Nat.le_of_ble_eq_true rfl, Nat.le_of_ble_eq_true rfl⟩) hw hA ⟨by decide, by decide⟩ (fun ws H locs hp_v_3 hw hF9 => ?_)
        have m_z0_46 := FLD.over hF9 m_z0_46 (by decide)
        have m_z0_47 := FLD.over hF9 m_z0_47 (by decide)
        have m_z0_48 := FLD.over hF9 m_z0_48 (by decide)
        have x_SNW_p0_gd_1_gz_gg__1 := SNW.over hF9 x_SNW_p0_gd_1_gz_gg__1 (by decide)
        refine lv_aload_n hx hb dX10_readOr_27 rfl (lv_at hl 0 rfl) ?_
        have f9 := SNL.sn x_SNW_p0_gd_1_gz_gg__1.1
        have f8 := f9.2
        have f7 := x_SNW_p0_gd_1_gz_gg__1.2
        have f6 := SNL.le x_SNW_p0_gd_1_gz_gg__1.1
        have x_SN_p0_gd_1_gz_max_gg__Int32_toInt_x1___1_ : SNp ws p0 (gd+1) (gz) (max gg (Int32.toInt x1 + 1)) := f9.1
        refine tk_i (va_runV (As := []) (rest := []) ⟨hx, hb, hml, hown, hts⟩ (c_X10_readAnd l D cy z H.size Ps ws hw.1 p0 z0_47 (gd+1) (gz) (max gg (Int32.toInt x1 + 1)) h_p0 r_z0_47 m_z0_47 x_SN_p0_gd_1_gz_max_gg__Int32_toInt_x1___1_) (cwV 0 hts (gV tw_1755 tw_1757 ts_112 tw_15 tw_1758) rfl rfl rfl (by decide +kernel) ⟨Nat.le_of_ble_eq_true rfl, Nat.le_of_ble_eq_true rfl⟩) (tg_preV hw hK hSD hA (ci := 10) (q := (RX10, TX10, 49)) rfl h_p0 rfl) rfl rfl hl.1 rfl (lv_room (Nat.le_of_ble_eq_true rfl)) dX10_readOr_28 ⟨Nat.le_of_ble_eq_true rfl, Nat.le_of_ble_eq_true rfl⟩) hw hA ⟨by decide, by decide⟩ (fun v_4 ws H locs hp_v_4 hw hF9 => ?_)
        have r_v_4 : RI v_4 0 1 := hp_v_4.1
        by_cases c9_v_4 : v_4 = 0
        · have r_v_4 : RI v_4 0 0 := by rw [c9_v_4]; exact rl_0
          obtain ⟨v_5, m_v_5, r_v_5⟩ := ((hp_v_4.2.1 c9_v_4).1)
          refine lv_if_ne (tgt := 36) hx hb dX10_readOr_31 (by decide) (fun c_31 => ?_) (fun c_31 => ?_)
          · exact absurd (r_v_4.eq.trans rl_0.eq.symm) ((ti_ne c_31))
          · refine lv_iconst (v := 0) hx hb dX10_readOr_34 (by decide) ?_
            subst hQ
            exact W.zret (v := 0) hx hb hr (rfl) (fun t ht hW => ⟨⟨0, ws, rfl, ⟨⟨rl_0.to (by decide), (fun h0 => ⟨⟨_, m_v_5, r_v_5⟩, trivial⟩), (fun h0 => absurd rfl h0)⟩, hw.1, hw.2.2.2.2.1⟩, by rw [ht]; exact hw.2.1, va_K.moved hW.alike hK, hw.2.2.1⟩, hw.2.2.2.1.F ht⟩) hw.2.2.2.1.2.2 dX10_readOr_35
        · have r_v_4 : RI v_4 1 1 := rc_neL r_v_4 rl_0 (ti_ne c9_v_4) (by decide)
          obtain ⟨v_6, m_v_6, r_v_6⟩ := ((hp_v_4.2.2 c9_v_4).1)
          obtain ⟨v_7, m_v_7, r_v_7⟩ := ((hp_v_4.2.2 c9_v_4).2.1)
          obtain ⟨v_8, m_v_8, r_v_8⟩ := ((hp_v_4.2.2 c9_v_4).2.2.1)
          have x_SNT_p0_gd_2_gz_1_max_gg__Int32_toInt_x1___1_ := ((hp_v_4.2.2 c9_v_4).2.2.2.1)
          refine lv_if_ne (tgt := 36) hx hb dX10_readOr_31 (by decide) (fun c_31 => ?_) (fun c_31 => ?_)
          · refine lv_aload_n hx hb dX10_readOr_36 rfl (lv_at hl 0 rfl) ?_
            refine lv_iconst (v := 3) hx hb dX10_readOr_37 (by decide) ?_
            refine lv_iload_n hx hb dX10_readOr_38 rfl (lv_at hl 1 rfl) ?_
            refine lv_aload_n hx hb dX10_readOr_39 rfl (lv_at hl 0 rfl) ?_
            refine tg_mem (ci := 10) (C := RX10) (T := TX10) (N := 49) hx hb hts inX10 hown hK hw 48 m_v_8 rfl (by decide) (hts _ tw_1185) (fun _ h9 => h9) dX10_readOr_40 ?_
            refine lv_iconst (v := 0) hx hb dX10_readOr_43 (by decide) ?_
            have l9 := SNT.top hw x_SNT_p0_gd_2_gz_1_max_gg__Int32_toInt_x1___1_ m_v_8
            have l8 := SNT.sn x_SNT_p0_gd_2_gz_1_max_gg__Int32_toInt_x1___1_
            have x_SNI_p0_gd_1_gz_1_gg : SNI ws p0 (gd+1) (gz+1) (gg) := SNp.sni l8 (by have d_8 := SNp.le x_SN_p0_gd_gh_gg; omega)
            have x_LTN_p0_x1 : LTN ws p0 (x1) := SNp.ltn l8 f8
            have x_LTN_p0_v_8 : LTN ws p0 (v_8) := l9.ltn
            refine tk_i (va_runV (As := [.int 3, .int x1, .int v_8, .int 0]) (rest := []) ⟨hx, hb, hml, hown, hts⟩ (c_X10_saysOne__1 l D cy z H.size Ps ws hw.1 p0 3 x1 v_8 0 (gd+1) (gz+1) (gg) h_p0 (rl_3.to (by decide)) (r_x1.to (by decide)) (r_v_8.to (by decide)) (rl_0.to (by decide)) x_SNI_p0_gd_1_gz_1_gg x_LTN_p0_x1 x_LTN_p0_v_8) (cwV 4 hts (gV tw_1771 tw_1773 ts_116 tw_15 tw_1774) rfl rfl rfl (by decide +kernel) ⟨Nat.le_of_ble_eq_true rfl, Nat.le_of_ble_eq_true rfl⟩) (tg_preV hw hK hSD hA (ci := 10) (q := (RX10, TX10, 49)) rfl h_p0 rfl) rfl rfl hl.1 rfl (lv_room (Nat.le_of_ble_eq_true rfl)) dX10_readOr_44 ⟨Nat.le_of_ble_eq_true rfl, Nat.le_of_ble_eq_true rfl⟩) hw hA ⟨by decide, by decide⟩ (fun v_9 ws H locs hp_v_9 hw hF9 => ?_)
            have m_v_6 := FLD.over hF9 m_v_6 (by decide)
            have m_v_7 := FLD.over hF9 m_v_7 (by decide)
            have m_v_8 := FLD.over hF9 m_v_8 (by decide)
            have r_v_9 : RI v_9 0 39 := hp_v_9.1
            have x_SNL_p0_gd_1_gz_1_gg_v_9 := hp_v_9.2.2.2.1.1
            refine lv_istore_n (lv' := [(1, .int v_9), (0, .ref p0)]) hx hb dX10_readOr_47 rfl hl (by decide) rfl (fun ls hl => ?_)
            refine lv_goto (tgt := 14) hx hb dX10_readOr_48 (by decide) ?_
            have x_SNW_p0_gd_1_gz_1_gg_v_9 : (SNL ws p0 (gd+1) (gz+1) (gg) v_9 ∧ gh + 1 ≤ gz+1) := ⟨x_SNL_p0_gd_1_gz_1_gg_v_9, by omega⟩
            exact ih14 v_9 v_6 v_7 v_8 (gz+1) ws _ _ ls (by have d_8 := SNp.le x_SN_p0_gd_gh_gg; omega) r_v_9 r_v_6 m_v_6 r_v_7 m_v_7 r_v_8 m_v_8 x_SNW_p0_gd_1_gz_1_gg_v_9 hw (lv_sub hl [1, 0] rfl)
          · have r_v_4 : RI v_4 1 0 := rc_eq1 r_v_4 rl_0 (ti_eq c_31) (by decide)
            exact (r_v_4.no (by decide)).elim
  refine lv_aload_n hx hb dX10_readOr_0 rfl (lv_at hl 0 rfl) ?_
  refine tk_i (va_runV (As := []) (rest := []) ⟨hx, hb, hml, hown, hts⟩ (c_X10_readAnd l D cy z s.heap.size Ps w0 hw.1 p0 f0_47 (gd) (gh) (gg) h_p0 r_f0_47 m_f0_47 x_SN_p0_gd_gh_gg) (cwV 0 hts (gV tw_1755 tw_1757 ts_112 tw_15 tw_1758) rfl rfl rfl (by decide +kernel) ⟨Nat.le_of_ble_eq_true rfl, Nat.le_of_ble_eq_true rfl⟩) (tg_preV hw hK hSD hA (ci := 10) (q := (RX10, TX10, 49)) rfl h_p0 rfl) rfl rfl hl.1 rfl (lv_room (Nat.le_of_ble_eq_true rfl)) dX10_readOr_1 ⟨Nat.le_of_ble_eq_true rfl, Nat.le_of_ble_eq_true rfl⟩) hw hA ⟨by decide, by decide⟩ (fun v_10 ws H locs hp_v_10 hw hF9 => ?_)
  have r_v_10 : RI v_10 0 1 := hp_v_10.1
  by_cases c9_v_10 : v_10 = 0
  · have r_v_10 : RI v_10 0 0 := by rw [c9_v_10]; exact rl_0
    obtain ⟨v_11, m_v_11, r_v_11⟩ := ((hp_v_10.2.1 c9_v_10).1)
    refine lv_if_ne (tgt := 9) hx hb dX10_readOr_4 (by decide) (fun c_4 => ?_) (fun c_4 => ?_)
    · exact absurd (r_v_10.eq.trans rl_0.eq.symm) ((ti_ne c_4))
    · refine lv_iconst (v := 0) hx hb dX10_readOr_7 (by decide) ?_
      subst hQ
      exact W.zret (v := 0) hx hb hr (rfl) (fun t ht hW => ⟨⟨0, ws, rfl, ⟨⟨rl_0.to (by decide), (fun h0 => ⟨⟨_, m_v_11, r_v_11⟩, trivial⟩), (fun h0 => absurd rfl h0)⟩, hw.1, hw.2.2.2.2.1⟩, by rw [ht]; exact hw.2.1, va_K.moved hW.alike hK, hw.2.2.1⟩, hw.2.2.2.1.F ht⟩) hw.2.2.2.1.2.2 dX10_readOr_8
  · have r_v_10 : RI v_10 1 1 := rc_neL r_v_10 rl_0 (ti_ne c9_v_10) (by decide)
    obtain ⟨v_12, m_v_12, r_v_12⟩ := ((hp_v_10.2.2 c9_v_10).1)
    obtain ⟨v_13, m_v_13, r_v_13⟩ := ((hp_v_10.2.2 c9_v_10).2.1)
    obtain ⟨v_14, m_v_14, r_v_14⟩ := ((hp_v_10.2.2 c9_v_10).2.2.1)
    have x_SNT_p0_gd_1_gh_1_gg := ((hp_v_10.2.2 c9_v_10).2.2.2.1)
    refine lv_if_ne (tgt := 9) hx hb dX10_readOr_4 (by decide) (fun c_4 => ?_) (fun c_4 => ?_)
    · refine lv_aload_n hx hb dX10_readOr_9 rfl (lv_at hl 0 rfl) ?_
      refine tg_mem (ci := 10) (C := RX10) (T := TX10) (N := 49) hx hb hts inX10 hown hK hw 48 m_v_14 rfl (by decide) (hts _ tw_1185) (fun _ h9 => h9) dX10_readOr_10 ?_
      refine lv_istore_n (lv' := [(1, .int v_14), (0, .ref p0)]) hx hb dX10_readOr_13 rfl hl (by decide) rfl (fun ls hl => ?_)
      have x_SNW_p0_gd_1_gh_1_gg_v_14 : (SNL ws p0 (gd+1) (gh+1) (gg) v_14 ∧ gh + 1 ≤ gh+1) := ⟨SNT.top hw x_SNT_p0_gd_1_gh_1_gg m_v_14, by omega⟩
      exact B14 4294967298 v_14 v_12 v_13 v_14 (gh+1) ws _ _ ls (by have d_8 := SNp.le x_SN_p0_gd_gh_gg; omega) r_v_14 r_v_12 m_v_12 r_v_13 m_v_13 r_v_14 m_v_14 x_SNW_p0_gd_1_gh_1_gg_v_14 hw (lv_sub hl [1, 0] rfl)
    · have r_v_10 : RI v_10 1 0 := rc_eq1 r_v_10 rl_0 (ti_eq c_4) (by decide)
      exact (r_v_10.no (by decide)).elim
abbrev wr_X10_sentence : List (Nat × Nat) := [(10, 0), (10, 2), (10, 3), (10, 4), (10, 5), (10, 6), (10, 7), (10, 8), (10, 9), (10, 10), (10, 11), (10, 12), (10, 13), (10, 45), (10, 46), (10, 47), (10, 48)]
abbrev wa_X10_sentence : List Nat := [34, 54]
set_option maxHeartbeats 4000000 in
set_option maxRecDepth 100000 in
theorem c_X10_sentence (l : Launch) (D : va_G) (cy : Nat → ClassId) (z : Nat → Nat) (sz : Nat) (Ps : PSI) (w0 : va_W) (hT : HT cy GG Ps w0) (p0 : Nat) (h_p0 : (p0, 55) ∈ Ps) : Met l yX10_sentence (Cond.code yX10_sentence cX10_sentence 2 (some .int) :: gT) ({ frames := 39, cells := 0, slots := 0, locals := 7800 } : Room) (va_Pc [.ref p0] (PRE D cy z w0 sz)) (va_Qi (fun (r : Int32) (u : va_W) => (RI r (-2147483648) 2147483647 ∧ (r = 0 → True) ∧ (¬ r = 0 → True)) ∧ HT cy GG Ps u ∧ FR wr_X10_sentence wa_X10_sentence Ps w0 u) (BB D cy (va_A w0 sz) (fun (u : va_W) => u)) (va_A w0 sz)) 0 0 (va_A w0 sz) := by
  refine Met.ofW (cc := cX10_sentence) (maxL := 2) (ret := (some .int)) (by decide) rfl ?_
  intro p e s m args below meth c s₁ B hml hv
  obtain ⟨rfl, hsz, hP, hK, hD0, hSD⟩ := hv
  have hx := B.exec
  have hb := B.bytes
  have hr := B.returns
  have hlocks := B.notSynchronized
  have hts : ∀ w ∈ gT, w.before _ s = true := fun w h => atoms_spec (ws := Cond.code yX10_sentence cX10_sentence 2 (some .int) :: gT) B.pre w (List.mem_cons_of_mem _ h)
  have hown : s.vm.findClass RX10 = some m.cls := findClass_of_methodNamed B.named
  subst hsz
  have hD := hD0.self (sz := s.heap.size)
  generalize hAe : va_A w0 s.heap.size = A at hD hSD ⊢
  have hA : ∀ q : Nat, s.heap.size ≤ q → A q := fun q h => by rw [← hAe]; exact Or.inr h
  have hl := lv_entry ([.ref p0]) (n := 2) (Nat.le_of_ble_eq_true rfl)
  rw [lg_entry_eq]
  generalize (lg_sl ([.ref p0]) ++ List.replicate (2 - (lg_sl ([.ref p0])).length) Slot.unset).toArray = ls at hl ⊢
  have hl : lv_has ls 2 [(0, .ref p0)] := hl
  refine nameQ (fun Q hQ => ?_)
  have hw : WD D cy GG A s wr_X10_sentence wa_X10_sentence Ps w0 Ps w0 s.heap [] := ⟨hT, hP, hD, va_S.rf, FR.rf, hT.1, [], (List.append_nil _).symm⟩
  have B79 : ∀ (nf : Nat) (x1 : Int32) (z0_2 : Int32) (z0_7 : Int32) (z0_46 : Int32) (z0_47 : Int32) (z0_48 : Int32) (za14 : Nat) (za44 : Nat) (ws : va_W) (H : Heap) (locs : List Loc) (ls : Array Slot), 240 - x1.toInt < (nf : Int) → RI x1 0 240 → RI z0_2 0 0 → FLD ws p0 10 2 (.int z0_2) → RI z0_7 0 0 → FLD ws p0 10 7 (.int z0_7) → RI z0_46 1 20 → FLD ws p0 10 46 (.int z0_46) → RI z0_47 0 0 → FLD ws p0 10 47 (.int z0_47) → RI z0_48 0 39 → FLD ws p0 10 48 (.int z0_48) → SNT ws p0 (1) (1) (0) → (za14, 34) ∈ Ps → FLD ws p0 10 14 (.ref za14) → (za44, 54) ∈ Ps → FLD ws p0 10 44 (.ref za44) → AX2 14 34 44 54 (fun f g => CNp x1 f g) Ps ws p0 → WD D cy (GX za14) A s wr_X10_sentence wa_X10_sentence Ps w0 Ps ws H locs → lv_has ls 2 [(0, .ref p0), (1, .int x1)] → W p l e (headSpec (Cond.code yX10_sentence cX10_sentence 2 (some .int) :: gT) ({ frames := 39, cells := 0, slots := 0, locals := 7800 } : Room)).room s m ([.ref p0] : List Value).toArray below meth c H locs 0 0 Q (F0 m 79 ls []) := by
    intro nf79
    induction nf79 with
    | zero =>
      intro x1 z0_2 z0_7 z0_46 z0_47 z0_48 za14 za44 ws H locs ls hn79 r_x1 r_z0_2 m_z0_2 r_z0_7 m_z0_7 r_z0_46 m_z0_46 r_z0_47 m_z0_47 r_z0_48 m_z0_48 x_SNT_p0_1_1_0 h_za14 m_za14 h_za44 m_za44 x_CSE_p0__1 hw hl
      exact absurd hn79 (by have q0 := r_x1.1; have u0 := r_x1.2; omega)
    | succ nf79 ih79 =>
      intro x1 z0_2 z0_7 z0_46 z0_47 z0_48 za14 za44 ws H locs ls hn79 r_x1 r_z0_2 m_z0_2 r_z0_7 m_z0_7 r_z0_46 m_z0_46 r_z0_47 m_z0_47 r_z0_48 m_z0_48 x_SNT_p0_1_1_0 h_za14 m_za14 h_za44 m_za44 x_CSE_p0__1 hw hl
      refine lv_iload_n hx hb dX10_sentence_79 rfl (lv_at hl 1 rfl) ?_
      refine lv_sipush (v := 240) hx hb dX10_sentence_80 (by decide) ?_
      refine lv_icmp_ge (tgt := 108) hx hb dX10_sentence_83 (by decide) (fun c_83 => ?_) (fun c_83 => ?_)
      · have r_x1 : RI x1 240 240 := rc_le2 rl_240 r_x1 (ti_le c_83) (by decide)
        have hw := WD.back hw h_za14 rfl (fun f9 q9 => by obtain ⟨g9, e9⟩ := AX2.arr hw x_CSE_p0__1 m_za14 f9 q9; exact CN_end e9 (r_x1.to (by decide)))
        refine lv_aload_n hx hb dX10_sentence_108 rfl (lv_at hl 0 rfl) ?_
        refine tg_mem (ci := 10) (C := RX10) (T := TX10) (N := 49) hx hb hts inX10 hown hK hw 46 m_z0_46 rfl (by decide) (hts _ tw_1183) (fun _ h9 => h9) dX10_sentence_109 ?_
        subst hQ
        exact W.iret (v := z0_46) hx hb hr (fun t ht hW => ⟨⟨z0_46, ws, rfl, ⟨⟨r_z0_46.to (by decide), (fun _ => trivial), (fun h0 => trivial)⟩, hw.1, hw.2.2.2.2.1⟩, by rw [ht]; exact hw.2.1, va_K.moved hW.alike hK, hw.2.2.1⟩, hw.2.2.2.1.F ht⟩) hw.2.2.2.1.2.2 dX10_sentence_112
      · have r_x1 : RI x1 0 239 := rc_lt1 r_x1 rl_240 (ti_nle c_83) (by decide)
        refine lv_aload_n hx hb dX10_sentence_86 rfl (lv_at hl 0 rfl) ?_
        refine tg_mem (ci := 10) (C := RX10) (T := TX10) (N := 49) hx hb hts inX10 hown hK hw 14 m_za14 rfl (by decide) (hts _ tw_1151) (fun _ h9 => h9) dX10_sentence_87 ?_
        refine lv_sipush (v := 174) hx hb dX10_sentence_90 (by decide) ?_
        refine lv_iload_n hx hb dX10_sentence_93 rfl (lv_at hl 1 rfl) ?_
        refine lv_iadd hx hb dX10_sentence_94 (lv_topi (fun v_1 e_v_1 => ?_))
        obtain ⟨t_v_1, r_v_1⟩ := tq_add (lo := 174) (hi := 413) rl_174 r_x1 (by decide +kernel) e_v_1
        have t_v_1 : v_1.toInt = 174 + x1.toInt := t_v_1
        refine lv_aload_n hx hb dX10_sentence_95 rfl (lv_at hl 0 rfl) ?_
        refine tg_mem (ci := 10) (C := RX10) (T := TX10) (N := 49) hx hb hts inX10 hown hK hw 44 m_za44 rfl (by decide) (hts _ tw_1181) (fun _ h9 => h9) dX10_sentence_96 ?_
        refine lv_iload_n hx hb dX10_sentence_99 rfl (lv_at hl 1 rfl) ?_
        refine tg_iald (lo := (-2147483648)) (hi := 2147483647) hx hb hK hw h_za44 rfl 0 239 r_x1 (by decide) (by exact fun _ _ _ => ⟨Int.le_refl _, Int.le_refl _⟩) dX10_sentence_100 (fun v_2 r_v_2 m_v_2 o_v_2 => ?_)
        have x_CSEV_p0_x1_x1_v_2 : AX2 14 34 44 54 (fun f g => CNp x1 f g ∧ g (Int32.toNatClampNeg x1) = v_2) Ps ws p0 := AX2.el hw x_CSE_p0__1 m_za44 m_v_2
        have hw8 := hw
        refine tg_iast hx hb hK hw h_za14 rfl 174 413 r_v_1 (by decide) r_v_2 (by decide +kernel) (fun _ _ _ _ _ => Or.inl rfl) (by decide) dX10_sentence_101 (fun ws H locs hw hF9 hU9 => ?_)
        have x_CSET_p0_x1 : AX2 14 34 44 54 (fun f g => ∀ k9 : Int32, k9.toInt = Int32.toInt x1 + 1 → CNp  k9 f g) Ps ws p0 := AX2.ast hF9 hU9 x_CSEV_p0_x1_x1_v_2 m_za14 (by decide) (fun f9 g9 h9 => fun k9 e9 => CN_step h9 (r_x1.to (by decide)) rfl e9 (by have k1 := t_v_1; omega))
        have m_v_2 := AEL.over hw8 hF9 h_za44 m_v_2 (by decide)
        have x_SNT_p0_1_1_0 := SNT.over hF9 x_SNT_p0_1_1_0 (by decide)
        have m_z0_2 := FLD.over hF9 m_z0_2 (by decide)
        have m_z0_7 := FLD.over hF9 m_z0_7 (by decide)
        have m_z0_46 := FLD.over hF9 m_z0_46 (by decide)
        have m_z0_47 := FLD.over hF9 m_z0_47 (by decide)
        have m_z0_48 := FLD.over hF9 m_z0_48 (by decide)
        have m_za14 := FLD.over hF9 m_za14 (by decide)
        have m_za44 := FLD.over hF9 m_za44 (by decide)
        obtain ⟨v_3, e_v_3⟩ : ∃ q9 : Int32, q9 = x1 + Int32.ofInt 1 := ⟨_, rfl⟩
        obtain ⟨t_v_3, r_v_3⟩ := tq_add (lo := 1) (hi := 240) r_x1 (show RI (Int32.ofInt 1) 1 1 by unfold RI; decide +kernel) (by decide +kernel) e_v_3
        have t_v_3 : v_3.toInt = x1.toInt + 1 := t_v_3
        refine lv_iinc (v := v_3) (lv' := [(1, .int v_3), (0, .ref p0)]) hx hb dX10_sentence_102 hl (k := 1) rfl e_v_3.symm (by decide) rfl (fun ls hl => ?_)
        refine lv_goto (tgt := 79) hx hb dX10_sentence_105 (by decide) ?_
        have x_CSE_p0_v_3 : AX2 14 34 44 54 (fun f g => CNp v_3 f g) Ps ws p0 := AX2.imp x_CSET_p0_x1 (fun f9 g9 h9 => h9 _ t_v_3)
        exact ih79 v_3 z0_2 z0_7 z0_46 z0_47 z0_48 za14 za44 ws _ _ ls (by have q0 := r_v_3.1; have u0 := r_v_3.2; have o0 := r_x1.1; have p0 := r_x1.2; omega) (r_v_3.to (by decide)) r_z0_2 m_z0_2 r_z0_7 m_z0_7 r_z0_46 m_z0_46 r_z0_47 m_z0_47 r_z0_48 m_z0_48 x_SNT_p0_1_1_0 h_za14 m_za14 h_za44 m_za44 x_CSE_p0_v_3 hw (lv_sub hl [1, 0] rfl)
  refine lv_aload_n hx hb dX10_sentence_0 rfl (lv_at hl 0 rfl) ?_
  refine lv_sipush (v := 200) hx hb dX10_sentence_1 (by decide) ?_
  refine tk_v (va_runV (As := [.int 200]) (rest := []) ⟨hx, hb, hml, hown, hts⟩ (c_X10_begin__2 l D cy z s.heap.size Ps w0 hw.1 p0 200 h_p0 rl_200) (cwV 1 hts (gV tw_1290 tw_1292 ts_38 tw_15 tw_1293) rfl rfl rfl (by decide +kernel) ⟨Nat.le_of_ble_eq_true rfl, Nat.le_of_ble_eq_true rfl⟩) (tg_preV hw hK hSD hA (ci := 10) (q := (RX10, TX10, 49)) rfl h_p0 rfl) rfl rfl hl.1 rfl (lv_room (Nat.le_of_ble_eq_true rfl)) dX10_sentence_4 ⟨Nat.le_of_ble_eq_true rfl, Nat.le_of_ble_eq_true rfl⟩) hw hA ⟨by decide, by decide⟩ (fun ws H locs hp_v_4 hw hF9 => ?_)
  obtain ⟨v_5, m_v_5, r_v_5⟩ := (hp_v_4.1)
  refine lv_aload_n hx hb dX10_sentence_7 rfl (lv_at hl 0 rfl) ?_
  refine lv_iconst (v := 0) hx hb dX10_sentence_8 (by decide) ?_
  refine tg_put (ci := 10) (ts := ty_MODEL) (v := .int 0) (ty := .int) (C := RX10) (T := TX10) (N := 49) hx hb hts inX10 tyX10 tyX10_ok nmX10 hown hK hw h_p0 rfl rfl 45 (by decide) (hts _ tw_1182) (fun _ h9 => h9) rfl (by decide +kernel) rfl rfl (ft := vI (-2147483648) 2147483647) rfl ⟨_, rfl, (rl_0.to (by decide))⟩ (by decide) dX10_sentence_9 (fun ws H locs hw n_k_6 hF9 => ?_)
  have m_v_5 := FLD.over hF9 m_v_5 (by decide)
  refine lv_aload_n hx hb dX10_sentence_12 rfl (lv_at hl 0 rfl) ?_
  refine lv_iconst (v := 0) hx hb dX10_sentence_13 (by decide) ?_
  refine tg_put (ci := 10) (ts := ty_MODEL) (v := .int 0) (ty := .int) (C := RX10) (T := TX10) (N := 49) hx hb hts inX10 tyX10 tyX10_ok nmX10 hown hK hw h_p0 rfl rfl 46 (by decide) (hts _ tw_1183) (fun _ h9 => h9) rfl (by decide +kernel) rfl rfl (ft := vI (-2147483648) 2147483647) rfl ⟨_, rfl, (rl_0.to (by decide))⟩ (by decide) dX10_sentence_14 (fun ws H locs hw n_k_7 hF9 => ?_)
  have m_v_5 := FLD.over hF9 m_v_5 (by decide)
  have n_k_6 := FLD.over hF9 n_k_6 (by decide)
  refine lv_aload_n hx hb dX10_sentence_17 rfl (lv_at hl 0 rfl) ?_
  refine lv_iconst (v := 0) hx hb dX10_sentence_18 (by decide) ?_
  refine tg_put (ci := 10) (ts := ty_MODEL) (v := .int 0) (ty := .int) (C := RX10) (T := TX10) (N := 49) hx hb hts inX10 tyX10 tyX10_ok nmX10 hown hK hw h_p0 rfl rfl 47 (by decide) (hts _ tw_1184) (fun _ h9 => h9) rfl (by decide +kernel) rfl rfl (ft := vI (-2147483648) 2147483647) rfl ⟨_, rfl, (rl_0.to (by decide))⟩ (by decide) dX10_sentence_19 (fun ws H locs hw n_k_8 hF9 => ?_)
  have m_v_5 := FLD.over hF9 m_v_5 (by decide)
  have n_k_6 := FLD.over hF9 n_k_6 (by decide)
  have n_k_7 := FLD.over hF9 n_k_7 (by decide)
  refine lv_aload_n hx hb dX10_sentence_22 rfl (lv_at hl 0 rfl) ?_
  have x_SN_p0_0_0_0 : SNp ws p0 (0) (0) (0) := ⟨0, 0, n_k_6, n_k_7, by decide⟩
  refine tk_i (va_runV (As := []) (rest := []) ⟨hx, hb, hml, hown, hts⟩ (c_X10_readOr l D cy z H.size Ps ws hw.1 p0 0 (0) (0) (0) h_p0 rl_0 n_k_8 x_SN_p0_0_0_0) (cwV 0 hts (gV tw_1751 tw_1753 ts_111 tw_15 tw_1754) rfl rfl rfl (by decide +kernel) ⟨Nat.le_of_ble_eq_true rfl, Nat.le_of_ble_eq_true rfl⟩) (tg_preV hw hK hSD hA (ci := 10) (q := (RX10, TX10, 49)) rfl h_p0 rfl) rfl rfl hl.1 rfl (lv_room (Nat.le_of_ble_eq_true rfl)) dX10_sentence_23 ⟨Nat.le_of_ble_eq_true rfl, Nat.le_of_ble_eq_true rfl⟩) hw hA ⟨by decide, by decide⟩ (fun v_9 ws H locs hp_v_9 hw hF9 => ?_)
  have m_v_5 := FLD.over hF9 m_v_5 (by decide)
  have r_v_9 : RI v_9 0 1 := hp_v_9.1
  by_cases c9_v_9 : v_9 = 0
  · have r_v_9 : RI v_9 0 0 := by rw [c9_v_9]; exact rl_0
    obtain ⟨v_10, m_v_10, r_v_10⟩ := ((hp_v_9.2.1 c9_v_9).1)
    refine lv_if_ne (tgt := 36) hx hb dX10_sentence_26 (by decide) (fun c_26 => ?_) (fun c_26 => ?_)
    · exact absurd (r_v_9.eq.trans rl_0.eq.symm) ((ti_ne c_26))
    · refine lv_iconst (v := (-1)) hx hb dX10_sentence_29 (by decide) ?_
      refine lv_aload_n hx hb dX10_sentence_30 rfl (lv_at hl 0 rfl) ?_
      refine tg_get (ci := 10) (ts := ty_MODEL) (C := RX10) (T := TX10) (N := 49) hx hb hts inX10 hown hK hw h_p0 rfl rfl 11 (by decide) (hts _ tw_1148) (fun _ h9 => h9) (ft := vI (-2147483648) 2147483647) rfl dX10_sentence_31 (fun u_11 hv_u_11 m_u_11 => ?_)
      obtain ⟨vu_11, rfl, r_vu_11⟩ := hv_u_11
      refine lv_isub hx hb dX10_sentence_34 (lv_topi (fun v_12 e_v_12 => ?_))
      obtain ⟨t_v_12, r_v_12⟩ := tq_sub (lo := (-2147483648)) (hi := 2147483647) rl_m1 r_vu_11 (by decide +kernel) e_v_12
      have t_v_12 : v_12.toInt = (-1) - vu_11.toInt := t_v_12
      subst hQ
      exact W.iret (v := v_12) hx hb hr (fun t ht hW => ⟨⟨v_12, ws, rfl, ⟨⟨r_v_12.to (by decide), (fun h0 => trivial), (fun h0 => trivial)⟩, hw.1, hw.2.2.2.2.1⟩, by rw [ht]; exact hw.2.1, va_K.moved hW.alike hK, hw.2.2.1⟩, hw.2.2.2.1.F ht⟩) hw.2.2.2.1.2.2 dX10_sentence_35
  · have r_v_9 : RI v_9 1 1 := rc_neL r_v_9 rl_0 (ti_ne c9_v_9) (by decide)
    obtain ⟨v_13, m_v_13, r_v_13⟩ := ((hp_v_9.2.2 c9_v_9).1)
    obtain ⟨v_14, m_v_14, r_v_14⟩ := ((hp_v_9.2.2 c9_v_9).2.1)
    obtain ⟨v_15, m_v_15, r_v_15⟩ := ((hp_v_9.2.2 c9_v_9).2.2.1)
    have x_SNT_p0_1_1_0 := ((hp_v_9.2.2 c9_v_9).2.2.2.1)
    refine lv_if_ne (tgt := 36) hx hb dX10_sentence_26 (by decide) (fun c_26 => ?_) (fun c_26 => ?_)
    · refine lv_aload_n hx hb dX10_sentence_36 rfl (lv_at hl 0 rfl) ?_
      refine tg_get (ci := 10) (ts := ty_MODEL) (C := RX10) (T := TX10) (N := 49) hx hb hts inX10 hown hK hw h_p0 rfl rfl 7 (by decide) (hts _ tw_1144) (fun _ h9 => h9) (ft := vI (-2147483648) 2147483647) rfl dX10_sentence_37 (fun u_16 hv_u_16 m_u_16 => ?_)
      obtain ⟨vu_16, rfl, r_vu_16⟩ := hv_u_16
      refine lv_if_eq (tgt := 56) hx hb dX10_sentence_40 (by decide) (fun c_40 => ?_) (fun c_40 => ?_)
      · have r_vu_16 : RI vu_16 0 0 := rc_eq1 r_vu_16 rl_0 (ti_eq c_40) (by decide)
        refine lv_aload_n hx hb dX10_sentence_56 rfl (lv_at hl 0 rfl) ?_
        refine tg_get (ci := 10) (ts := ty_MODEL) (C := RX10) (T := TX10) (N := 49) hx hb hts inX10 hown hK hw h_p0 rfl rfl 14 (by decide) (hts _ tw_1151) (fun _ h9 => h9) (ft := vR 34) rfl dX10_sentence_57 (fun u_17 hv_u_17 m_u_17 => ?_)
        obtain ⟨vu_17, rfl, h_vu_17⟩ := hv_u_17
        refine lv_sipush (v := 172) hx hb dX10_sentence_60 (by decide) ?_
        refine lv_iconst (v := 1) hx hb dX10_sentence_63 (by decide) ?_
        refine tg_iast hx hb hK hw h_vu_17 rfl 172 172 rl_172 (by decide) rl_1 (by decide +kernel) (RN_upd (by decide) (by decide)) (by decide) dX10_sentence_64 (fun ws H locs hw hF9 hU9 => ?_)
        have x_SNT_p0_1_1_0 := SNT.over hF9 x_SNT_p0_1_1_0 (by decide)
        have m_v_5 := FLD.over hF9 m_v_5 (by decide)
        have m_v_13 := FLD.over hF9 m_v_13 (by decide)
        have m_v_14 := FLD.over hF9 m_v_14 (by decide)
        have m_v_15 := FLD.over hF9 m_v_15 (by decide)
        have m_u_16 := FLD.over hF9 m_u_16 (by decide)
        have m_u_17 := FLD.over hF9 m_u_17 (by decide)
        refine lv_aload_n hx hb dX10_sentence_65 rfl (lv_at hl 0 rfl) ?_
        refine tg_mem (ci := 10) (C := RX10) (T := TX10) (N := 49) hx hb hts inX10 hown hK hw 14 m_u_17 rfl (by decide) (hts _ tw_1151) (fun _ h9 => h9) dX10_sentence_66 ?_
        refine lv_sipush (v := 173) hx hb dX10_sentence_69 (by decide) ?_
        refine lv_aload_n hx hb dX10_sentence_72 rfl (lv_at hl 0 rfl) ?_
        refine tg_mem (ci := 10) (C := RX10) (T := TX10) (N := 49) hx hb hts inX10 hown hK hw 48 m_v_15 rfl (by decide) (hts _ tw_1185) (fun _ h9 => h9) dX10_sentence_73 ?_
        have r_v_15 : RI v_15 0 39 := SNL.rng (SNT.top hw x_SNT_p0_1_1_0 m_v_15) (by decide)
        refine tg_iast hx hb hK hw h_vu_17 rfl 173 173 rl_173 (by decide) r_v_15 (by decide +kernel) (RN_upd (by decide) (by decide)) (by decide) dX10_sentence_76 (fun ws H locs hw hF9 hU9 => ?_)
        have x_SNT_p0_1_1_0 := SNT.over hF9 x_SNT_p0_1_1_0 (by decide)
        have m_v_5 := FLD.over hF9 m_v_5 (by decide)
        have m_v_13 := FLD.over hF9 m_v_13 (by decide)
        have m_v_14 := FLD.over hF9 m_v_14 (by decide)
        have m_v_15 := FLD.over hF9 m_v_15 (by decide)
        have m_u_16 := FLD.over hF9 m_u_16 (by decide)
        have m_u_17 := FLD.over hF9 m_u_17 (by decide)
        refine lv_iconst (v := 0) hx hb dX10_sentence_77 (by decide) ?_
        refine lv_istore_n (lv' := [(1, .int 0), (0, .ref p0)]) hx hb dX10_sentence_78 rfl hl (by decide) rfl (fun ls hl => ?_)
        obtain ⟨b_18, m_b_18, h_b_18⟩ := tg_fldR (k := 44) (ci := 10) (ts := ty_MODEL) (u := 54) hw h_p0 rfl rfl
        have x_CSE_p0_0 : AX2 14 34 44 54 (fun f g => CNp 0 f g) Ps ws p0 := AX2.imp (AX.two (ax_of (k := 14) (t := 34) hw h_p0 rfl (fun _ => rfl)) (ax_of (k := 44) (t := 54) hw h_p0 rfl (fun _ => rfl))) (fun f9 g9 h9 => ⟨h9.1.1.1, h9.2.1, fun j9 q9 => absurd q9 (by rw [Int32.toInt_zero]; omega)⟩)
        have hw := WD.weak vu_17 hw
        exact B79 4294967298 0 v_5 vu_16 v_13 v_14 v_15 vu_17 b_18 ws _ _ ls (by have q0 := rl_0.1; have u0 := rl_0.2; omega) (rl_0.to (by decide)) r_v_5 m_v_5 r_vu_16 m_u_16 r_v_13 m_v_13 r_v_14 m_v_14 r_v_15 m_v_15 x_SNT_p0_1_1_0 h_vu_17 m_u_17 h_b_18 m_b_18 x_CSE_p0_0 hw (lv_sub hl [1, 0] rfl)
      · refine lv_aload_n hx hb dX10_sentence_43 rfl (lv_at hl 0 rfl) ?_
        refine lv_iconst (v := 1) hx hb dX10_sentence_44 (by decide) ?_
        refine tk_i (va_runV (As := [.int 1]) (rest := []) ⟨hx, hb, hml, hown, hts⟩ (c_X10_bad l D cy z H.size Ps ws hw.1 p0 1 h_p0 (rl_1.to (by decide))) (cwV 1 hts (gV tw_1336 tw_1338 ts_46 tw_15 tw_1339) rfl rfl rfl (by decide +kernel) ⟨Nat.le_of_ble_eq_true rfl, Nat.le_of_ble_eq_true rfl⟩) (tg_preV hw hK hSD hA (ci := 10) (q := (RX10, TX10, 49)) rfl h_p0 rfl) rfl rfl hl.1 rfl (lv_room (Nat.le_of_ble_eq_true rfl)) dX10_sentence_45 ⟨Nat.le_of_ble_eq_true rfl, Nat.le_of_ble_eq_true rfl⟩) hw hA ⟨by decide, by decide⟩ (fun v_19 ws H locs hp_v_19 hw hF9 => ?_)
        have m_v_5 := FLD.over hF9 m_v_5 (by decide)
        have m_v_13 := FLD.over hF9 m_v_13 (by decide)
        have m_v_14 := FLD.over hF9 m_v_14 (by decide)
        have m_v_15 := FLD.over hF9 m_v_15 (by decide)
        have m_u_16 := FLD.over hF9 m_u_16 (by decide)
        have x_SNT_p0_1_1_0 := SNT.over hF9 x_SNT_p0_1_1_0 (by decide)
        have r_v_19 : RI v_19 0 0 := hp_v_19.1
        refine lv_pop hx hb dX10_sentence_48 rfl ?_
        refine lv_iconst (v := (-1)) hx hb dX10_sentence_49 (by decide) ?_
        refine lv_aload_n hx hb dX10_sentence_50 rfl (lv_at hl 0 rfl) ?_
        refine tg_get (ci := 10) (ts := ty_MODEL) (C := RX10) (T := TX10) (N := 49) hx hb hts inX10 hown hK hw h_p0 rfl rfl 11 (by decide) (hts _ tw_1148) (fun _ h9 => h9) (ft := vI (-2147483648) 2147483647) rfl dX10_sentence_51 (fun u_20 hv_u_20 m_u_20 => ?_)
        obtain ⟨vu_20, rfl, r_vu_20⟩ := hv_u_20
        refine lv_isub hx hb dX10_sentence_54 (lv_topi (fun v_21 e_v_21 => ?_))
        obtain ⟨t_v_21, r_v_21⟩ := tq_sub (lo := (-2147483648)) (hi := 2147483647) rl_m1 r_vu_20 (by decide +kernel) e_v_21
        have t_v_21 : v_21.toInt = (-1) - vu_20.toInt := t_v_21
        subst hQ
        exact W.iret (v := v_21) hx hb hr (fun t ht hW => ⟨⟨v_21, ws, rfl, ⟨⟨r_v_21.to (by decide), (fun h0 => trivial), (fun h0 => trivial)⟩, hw.1, hw.2.2.2.2.1⟩, by rw [ht]; exact hw.2.1, va_K.moved hW.alike hK, hw.2.2.1⟩, hw.2.2.2.1.F ht⟩) hw.2.2.2.1.2.2 dX10_sentence_55
    · have r_v_9 : RI v_9 1 0 := rc_eq1 r_v_9 rl_0 (ti_eq c_26) (by decide)
      exact (r_v_9.no (by decide)).elim
