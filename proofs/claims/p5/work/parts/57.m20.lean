/-! how long the tape is, in class and reference -/
def TLN (ws : va_W) (t : Nat) (g : Int) : Prop := ∃ v : Int32, FLD ws t 7 2 (.int v) ∧ v.toInt = g
def TLM (ws : va_W) (m : Nat) (g : Int) : Prop := ∃ v : Int32, FLD ws m 10 2 (.int v) ∧ v.toInt = g
def TLX (ws : va_W) (x : Nat) (g : Int) : Prop := ∃ t : Nat, FLD ws x 9 0 (.ref t) ∧ TLN ws t g
theorem TLN.over {wr : List (Nat × Nat)} {wa : List Nat} {Ps : PSI} {ws ws' : va_W} {m : Nat} {g : Int} (h : FR wr wa Ps ws ws') (x : TLN ws m g) (hn : (7, 2) ∉ wr) : TLN ws' m g := by
  obtain ⟨t, h1, h2⟩ := x
  exact ⟨t, FLD.over h h1 hn, h2⟩
theorem TLM.over {wr : List (Nat × Nat)} {wa : List Nat} {Ps : PSI} {ws ws' : va_W} {m : Nat} {g : Int} (h : FR wr wa Ps ws ws') (x : TLM ws m g) (hn : (10, 2) ∉ wr) : TLM ws' m g := by
  obtain ⟨t, h1, h2⟩ := x
  exact ⟨t, FLD.over h h1 hn, h2⟩
theorem TLX.over {wr : List (Nat × Nat)} {wa : List Nat} {Ps : PSI} {ws ws' : va_W} {m : Nat} {g : Int} (h : FR wr wa Ps ws ws') (x : TLX ws m g) (hn : (9, 0) ∉ wr ∧ (7, 2) ∉ wr) : TLX ws' m g := by
  obtain ⟨t, h1, h2⟩ := x
  exact ⟨t, FLD.over h h1 hn.1, TLN.over h h2 hn.2⟩
/-- book: the tape is empty behind it if it lived the book or tried it, else as before -/
def BKX (ws : va_W) (x : Nat) (v : Int32) (g : Int) : Prop := ((0 ≤ v.toInt ∧ v.toInt ≤ 1) → TLX ws x 0) ∧ (¬ (0 ≤ v.toInt ∧ v.toInt ≤ 1) → TLX ws x g)
def BKM (ws : va_W) (x : Nat) (v : Int32) (g : Int) : Prop := ((0 ≤ v.toInt ∧ v.toInt ≤ 1) → TLM ws x 0) ∧ (¬ (0 ≤ v.toInt ∧ v.toInt ≤ 1) → TLM ws x g)
theorem BKX.over {wr : List (Nat × Nat)} {wa : List Nat} {Ps : PSI} {ws ws' : va_W} {m : Nat} {v : Int32} {g : Int} (h : FR wr wa Ps ws ws') (x : BKX ws m v g) (hn : (9, 0) ∉ wr ∧ (7, 2) ∉ wr) : BKX ws' m v g := ⟨fun k => TLX.over h (x.1 k) hn, fun k => TLX.over h (x.2 k) hn⟩
theorem BKM.over {wr : List (Nat × Nat)} {wa : List Nat} {Ps : PSI} {ws ws' : va_W} {m : Nat} {v : Int32} {g : Int} (h : FR wr wa Ps ws ws') (x : BKM ws m v g) (hn : (10, 2) ∉ wr) : BKM ws' m v g := ⟨fun k => TLM.over h (x.1 k) hn, fun k => TLM.over h (x.2 k) hn⟩
theorem FLD.app {ws wx : va_W} {a ci k : Nat} {v : Value} (h : FLD ws a ci k v) : FLD (ws ++ wx) a ci k v := by
  obtain ⟨q, fs, h1, h2⟩ := h
  exact ⟨q, fs, by rw [List.getElem?_append_left (List.getElem?_eq_some_iff.mp h1).1]; exact h1, h2⟩
theorem FLD.mid {ws wx : va_W} {a ci k : Nat} {fs : List Value} {v : Value} (h : fs[k]? = some v) : FLD (ws ++ (a, .inr (ci, fs)) :: wx) a ci k v :=
  ⟨ws.length, fs, by rw [List.getElem?_append_right (Nat.le_refl _), Nat.sub_self]; rfl, h⟩
theorem TLX.app {ws wx : va_W} {x : Nat} {g : Int} (h : TLX ws x g) : TLX (ws ++ wx) x g := by
  obtain ⟨t, h1, v, h2, h3⟩ := h
  exact ⟨t, FLD.app h1, v, FLD.app h2, h3⟩
theorem TLM.app {ws wx : va_W} {x : Nat} {g : Int} (h : TLM ws x g) : TLM (ws ++ wx) x g := by
  obtain ⟨v, h2, h3⟩ := h
  exact ⟨v, FLD.app h2, h3⟩
section FACTS20
variable {s : State} {H : Heap} {locs : List Loc} {D : va_G} {cy : Nat → ClassId} {A : Nat → Prop} {ws w0 : va_W} {G : Nat → Nat → CTy} {Ps P0 : PSI} {wr : List (Nat × Nat)} {wa : List Nat}
theorem TLN.get {t : Nat} {g : Int} {v : Int32} (hw : WD D cy G A s wr wa P0 w0 Ps ws H locs) (x : TLN ws t g) (h : FLD ws t 7 2 (.int v)) : v.toInt = g := by
  obtain ⟨u, h1, h2⟩ := x
  cases FLD.inj hw.2.2.1 h1 h
  exact h2
theorem TLM.get {t : Nat} {g : Int} {v : Int32} (hw : WD D cy G A s wr wa P0 w0 Ps ws H locs) (x : TLM ws t g) (h : FLD ws t 10 2 (.int v)) : v.toInt = g := by
  obtain ⟨u, h1, h2⟩ := x
  cases FLD.inj hw.2.2.1 h1 h
  exact h2
theorem TLX.tape {x t : Nat} {g : Int} (hw : WD D cy G A s wr wa P0 w0 Ps ws H locs) (h : TLX ws x g) (ht : FLD ws x 9 0 (.ref t)) : TLN ws t g := by
  obtain ⟨u, h1, h2⟩ := h
  cases FLD.inj hw.2.2.1 h1 ht
  exact h2
end FACTS20
abbrev wr_X9_end__1 : List (Nat × Nat) := [(7, 2)]
abbrev wa_X9_end__1 : List Nat := []
set_option maxHeartbeats 4000000 in
set_option maxRecDepth 100000 in
theorem c_X9_end__1 (l : Launch) (D : va_G) (cy : Nat → ClassId) (z : Nat → Nat) (sz : Nat) (Ps : PSI) (w0 : va_W) (hT : HT cy GG Ps w0) (p0 : Nat) (p1 : Int32) (gh : Int) (h_p0 : (p0, 33) ∈ Ps) (r_p1 : RI p1 (-2147483648) 2147483647) (x_TLX_p0_gh : TLX w0 p0 (gh)) : Met l yX9_end (Cond.code yX9_end cX9_end 2 (some .boolean) :: gT) ({ frames := 0, cells := 0, slots := 0, locals := 200 } : Room) (va_Pc [.ref p0, .int p1] (PRE D cy z w0 sz)) (va_Qi (fun (r : Int32) (u : va_W) => (RI r 0 1 ∧ (r = 0 → ¬ (0 ≤ Int32.toInt p1 ∧ Int32.toInt p1 ≤ gh) ∧ TLX u p0 (gh) ∧ True) ∧ (¬ r = 0 → (0 ≤ Int32.toInt p1 ∧ Int32.toInt p1 ≤ gh) ∧ TLX u p0 (Int32.toInt p1) ∧ True)) ∧ HT cy GG Ps u ∧ FR wr_X9_end__1 wa_X9_end__1 Ps w0 u) (BB D cy (va_A w0 sz) (fun (u : va_W) => u)) (va_A w0 sz)) 0 0 (va_A w0 sz) := by
  refine Met.ofW (cc := cX9_end) (maxL := 2) (ret := (some .boolean)) (by decide) rfl ?_
  intro p e s m args below meth c s₁ B hml hv
  obtain ⟨rfl, hsz, hP, hK, hD0, hSD⟩ := hv
  have hx := B.exec
  have hb := B.bytes
  have hr := B.returns
  have hlocks := B.notSynchronized
  have hts : ∀ w ∈ gT, w.before _ s = true := fun w h => atoms_spec (ws := Cond.code yX9_end cX9_end 2 (some .boolean) :: gT) B.pre w (List.mem_cons_of_mem _ h)
  have hown : s.vm.findClass RX9 = some m.cls := findClass_of_methodNamed B.named
  subst hsz
  have hD := hD0.self (sz := s.heap.size)
  generalize hAe : va_A w0 s.heap.size = A at hD hSD ⊢
  have hA : ∀ q : Nat, s.heap.size ≤ q → A q := fun q h => by rw [← hAe]; exact Or.inr h
  have hl := lv_entry ([.ref p0, .int p1]) (n := 2) (Nat.le_of_ble_eq_true rfl)
  rw [lg_entry_eq]
  generalize (lg_sl ([.ref p0, .int p1]) ++ List.replicate (2 - (lg_sl ([.ref p0, .int p1])).length) Slot.unset).toArray = ls at hl ⊢
  have hl : lv_has ls 2 [(0, .ref p0), (1, .int p1)] := hl
  refine nameQ (fun Q hQ => ?_)
  have hw : WD D cy GG A s wr_X9_end__1 wa_X9_end__1 Ps w0 Ps w0 s.heap [] := ⟨hT, hP, hD, va_S.rf, FR.rf, hT.1, [], (List.append_nil _).symm⟩
  refine lv_iload_n hx hb dX9_end_0 rfl (lv_at hl 1 rfl) ?_
  refine lv_if_lt (tgt := 15) hx hb dX9_end_1 (by decide) (fun c_1 => ?_) (fun c_1 => ?_)
  · have r_p1 : RI p1 (-2147483648) (-1) := rc_lt1 r_p1 rl_0 (ti_lt c_1) (by decide)
    have x_EN0_p1_gh : ¬ (0 ≤ Int32.toInt p1 ∧ Int32.toInt p1 ≤ gh) := (fun h9 => by have k1 := r_p1.2; omega)
    refine lv_iconst (v := 0) hx hb dX9_end_15 (by decide) ?_
    subst hQ
    exact W.zret (v := 0) hx hb hr (rfl) (fun t ht hW => ⟨⟨0, w0, rfl, ⟨⟨rl_0.to (by decide), (fun h0 => ⟨x_EN0_p1_gh, x_TLX_p0_gh, trivial⟩), (fun h0 => absurd rfl h0)⟩, hw.1, hw.2.2.2.2.1⟩, by rw [ht]; exact hw.2.1, va_K.moved hW.alike hK, hw.2.2.1⟩, hw.2.2.2.1.F ht⟩) hw.2.2.2.1.2.2 dX9_end_16
  · have r_p1 : RI p1 0 2147483647 := rc_le2 rl_0 r_p1 (ti_nlt c_1) (by decide)
    refine lv_iload_n hx hb dX9_end_4 rfl (lv_at hl 1 rfl) ?_
    refine lv_aload_n hx hb dX9_end_5 rfl (lv_at hl 0 rfl) ?_
    refine tg_get (ci := 9) (ts := ty_WP) (C := RX9) (T := TX9) (N := 15) hx hb hts inX9 hown hK hw h_p0 rfl rfl 0 (by decide) (hts _ tw_346) (fun _ h9 => h9) (ft := vR 26) rfl dX9_end_6 (fun u_1 hv_u_1 m_u_1 => ?_)
    obtain ⟨vu_1, rfl, h_vu_1⟩ := hv_u_1
    refine tg_getN (ci := 7) (ts := ty_TAPE) (C := RX7) (T := TX7) (N := 12) hx hb hts inX7 hown hK hw h_vu_1 rfl rfl 2 (by decide) (hSD.nest tn_90) (fun _ h9 => h9) (ft := vI 0 940) rfl dX9_end_9 (fun u_2 hv_u_2 m_u_2 => ?_)
    obtain ⟨vu_2, rfl, r_vu_2⟩ := hv_u_2
    have g_l := TLN.get hw (TLX.tape hw x_TLX_p0_gh m_u_1) m_u_2
    refine lv_icmp_le (tgt := 17) hx hb dX9_end_12 (by decide) (fun c_12 => ?_) (fun c_12 => ?_)
    · have r_p1 : RI p1 0 940 := rc_le1 r_p1 r_vu_2 (ti_le c_12) (by decide)
      have x_EN1_p1_gh : (0 ≤ Int32.toInt p1 ∧ Int32.toInt p1 ≤ gh) := ⟨r_p1.1, by have k1 := ti_le c_12; omega⟩
      refine lv_aload_n hx hb dX9_end_17 rfl (lv_at hl 0 rfl) ?_
      refine tg_mem (ci := 9) (C := RX9) (T := TX9) (N := 15) hx hb hts inX9 hown hK hw 0 m_u_1 rfl (by decide) (hts _ tw_346) (fun _ h9 => h9) dX9_end_18 ?_
      refine lv_iload_n hx hb dX9_end_21 rfl (lv_at hl 1 rfl) ?_
      refine tg_putN (ci := 7) (ts := ty_TAPE) (v := .int p1) (ty := .int) (C := RX7) (T := TX7) (N := 12) hx hb hts inX7 tyX7 tyX7_ok nmX7 hown hK hw h_vu_1 rfl rfl 2 (by decide) (hSD.nest tn_90) (fun _ h9 => h9) rfl (by decide +kernel) rfl rfl (ft := vI 0 940) rfl ⟨_, rfl, r_p1⟩ (by decide) dX9_end_22 (fun ws H locs hw n_k_3 hF9 => ?_)
      have m_u_1 := FLD.over hF9 m_u_1 (by decide)
      have x_TLXV_p0_p1 : TLX ws p0 (Int32.toInt p1) := ⟨_, m_u_1, _, n_k_3, rfl⟩
      refine lv_iconst (v := 1) hx hb dX9_end_25 (by decide) ?_
      subst hQ
      exact W.zret (v := 1) hx hb hr (rfl) (fun t ht hW => ⟨⟨1, ws, rfl, ⟨⟨rl_1.to (by decide), (fun h0 => absurd h0 (by decide)), (fun h0 => ⟨x_EN1_p1_gh, x_TLXV_p0_p1, trivial⟩)⟩, hw.1, hw.2.2.2.2.1⟩, by rw [ht]; exact hw.2.1, va_K.moved hW.alike hK, hw.2.2.1⟩, hw.2.2.2.1.F ht⟩) hw.2.2.2.1.2.2 dX9_end_26
    · have r_p1 : RI p1 1 2147483647 := rc_lt2 r_vu_2 r_p1 (ti_nle c_12) (by decide)
      have x_EN0_p1_gh : ¬ (0 ≤ Int32.toInt p1 ∧ Int32.toInt p1 ≤ gh) := (fun h9 => by have k1 := ti_nle c_12; omega)
      refine lv_iconst (v := 0) hx hb dX9_end_15 (by decide) ?_
      subst hQ
      exact W.zret (v := 0) hx hb hr (rfl) (fun t ht hW => ⟨⟨0, w0, rfl, ⟨⟨rl_0.to (by decide), (fun h0 => ⟨x_EN0_p1_gh, x_TLX_p0_gh, trivial⟩), (fun h0 => absurd rfl h0)⟩, hw.1, hw.2.2.2.2.1⟩, by rw [ht]; exact hw.2.1, va_K.moved hW.alike hK, hw.2.2.1⟩, hw.2.2.2.1.F ht⟩) hw.2.2.2.1.2.2 dX9_end_16
abbrev wr_X10_end__1 : List (Nat × Nat) := [(10, 0), (10, 2)]
abbrev wa_X10_end__1 : List Nat := []
set_option maxHeartbeats 4000000 in
set_option maxRecDepth 100000 in
theorem c_X10_end__1 (l : Launch) (D : va_G) (cy : Nat → ClassId) (z : Nat → Nat) (sz : Nat) (Ps : PSI) (w0 : va_W) (hT : HT cy GG Ps w0) (p0 : Nat) (p1 : Int32) (gh : Int) (h_p0 : (p0, 55) ∈ Ps) (r_p1 : RI p1 (-2147483648) 2147483647) (x_TLM_p0_gh : TLM w0 p0 (gh)) : Met l yX10_end (Cond.code yX10_end cX10_end 2 (some .boolean) :: gT) ({ frames := 0, cells := 0, slots := 0, locals := 200 } : Room) (va_Pc [.ref p0, .int p1] (PRE D cy z w0 sz)) (va_Qi (fun (r : Int32) (u : va_W) => (RI r 0 1 ∧ (r = 0 → ¬ (0 ≤ Int32.toInt p1 ∧ Int32.toInt p1 ≤ gh) ∧ TLM u p0 (gh) ∧ True) ∧ (¬ r = 0 → (0 ≤ Int32.toInt p1 ∧ Int32.toInt p1 ≤ gh) ∧ TLM u p0 (Int32.toInt p1) ∧ True)) ∧ HT cy GG Ps u ∧ FR wr_X10_end__1 wa_X10_end__1 Ps w0 u) (BB D cy (va_A w0 sz) (fun (u : va_W) => u)) (va_A w0 sz)) 0 0 (va_A w0 sz) := by
  refine Met.ofW (cc := cX10_end) (maxL := 2) (ret := (some .boolean)) (by decide) rfl ?_
  intro p e s m args below meth c s₁ B hml hv
  obtain ⟨rfl, hsz, hP, hK, hD0, hSD⟩ := hv
  have hx := B.exec
  have hb := B.bytes
  have hr := B.returns
  have hlocks := B.notSynchronized
  have hts : ∀ w ∈ gT, w.before _ s = true := fun w h => atoms_spec (ws := Cond.code yX10_end cX10_end 2 (some .boolean) :: gT) B.pre w (List.mem_cons_of_mem _ h)
  have hown : s.vm.findClass RX10 = some m.cls := findClass_of_methodNamed B.named
  subst hsz
  have hD := hD0.self (sz := s.heap.size)
  generalize hAe : va_A w0 s.heap.size = A at hD hSD ⊢
  have hA : ∀ q : Nat, s.heap.size ≤ q → A q := fun q h => by rw [← hAe]; exact Or.inr h
  have hl := lv_entry ([.ref p0, .int p1]) (n := 2) (Nat.le_of_ble_eq_true rfl)
  rw [lg_entry_eq]
  generalize (lg_sl ([.ref p0, .int p1]) ++ List.replicate (2 - (lg_sl ([.ref p0, .int p1])).length) Slot.unset).toArray = ls at hl ⊢
  have hl : lv_has ls 2 [(0, .ref p0), (1, .int p1)] := hl
  refine nameQ (fun Q hQ => ?_)
  have hw : WD D cy GG A s wr_X10_end__1 wa_X10_end__1 Ps w0 Ps w0 s.heap [] := ⟨hT, hP, hD, va_S.rf, FR.rf, hT.1, [], (List.append_nil _).symm⟩
  refine lv_aload_n hx hb dX10_end_0 rfl (lv_at hl 0 rfl) ?_
  refine lv_iconst (v := 0) hx hb dX10_end_1 (by decide) ?_
  refine tg_put (ci := 10) (ts := ty_MODEL) (v := .int 0) (ty := .int) (C := RX10) (T := TX10) (N := 49) hx hb hts inX10 tyX10 tyX10_ok nmX10 hown hK hw h_p0 rfl rfl 0 (by decide) (hts _ tw_1137) (fun _ h9 => h9) rfl (by decide +kernel) rfl rfl (ft := vI (-2147483648) 2147483647) rfl ⟨_, rfl, (rl_0.to (by decide))⟩ (by decide) dX10_end_2 (fun ws H locs hw n_k_1 hF9 => ?_)
  have x_TLM_p0_gh := TLM.over hF9 x_TLM_p0_gh (by decide)
  refine lv_iload_n hx hb dX10_end_5 rfl (lv_at hl 1 rfl) ?_
  refine lv_if_lt (tgt := 17) hx hb dX10_end_6 (by decide) (fun c_6 => ?_) (fun c_6 => ?_)
  · have r_p1 : RI p1 (-2147483648) (-1) := rc_lt1 r_p1 rl_0 (ti_lt c_6) (by decide)
    have x_EN0_p1_gh : ¬ (0 ≤ Int32.toInt p1 ∧ Int32.toInt p1 ≤ gh) := (fun h9 => by have k1 := r_p1.2; omega)
    refine lv_iconst (v := 0) hx hb dX10_end_17 (by decide) ?_
    subst hQ
    exact W.zret (v := 0) hx hb hr (rfl) (fun t ht hW => ⟨⟨0, ws, rfl, ⟨⟨rl_0.to (by decide), (fun h0 => ⟨x_EN0_p1_gh, x_TLM_p0_gh, trivial⟩), (fun h0 => absurd rfl h0)⟩, hw.1, hw.2.2.2.2.1⟩, by rw [ht]; exact hw.2.1, va_K.moved hW.alike hK, hw.2.2.1⟩, hw.2.2.2.1.F ht⟩) hw.2.2.2.1.2.2 dX10_end_18
  · have r_p1 : RI p1 0 2147483647 := rc_le2 rl_0 r_p1 (ti_nlt c_6) (by decide)
    refine lv_iload_n hx hb dX10_end_9 rfl (lv_at hl 1 rfl) ?_
    refine lv_aload_n hx hb dX10_end_10 rfl (lv_at hl 0 rfl) ?_
    refine tg_get (ci := 10) (ts := ty_MODEL) (C := RX10) (T := TX10) (N := 49) hx hb hts inX10 hown hK hw h_p0 rfl rfl 2 (by decide) (hts _ tw_1139) (fun _ h9 => h9) (ft := vI 0 940) rfl dX10_end_11 (fun u_2 hv_u_2 m_u_2 => ?_)
    obtain ⟨vu_2, rfl, r_vu_2⟩ := hv_u_2
    have g_l := TLM.get hw x_TLM_p0_gh m_u_2
    refine lv_icmp_le (tgt := 19) hx hb dX10_end_14 (by decide) (fun c_14 => ?_) (fun c_14 => ?_)
    · have r_p1 : RI p1 0 940 := rc_le1 r_p1 r_vu_2 (ti_le c_14) (by decide)
      have x_EN1_p1_gh : (0 ≤ Int32.toInt p1 ∧ Int32.toInt p1 ≤ gh) := ⟨r_p1.1, by have k1 := ti_le c_14; omega⟩
      refine lv_aload_n hx hb dX10_end_19 rfl (lv_at hl 0 rfl) ?_
      refine lv_iload_n hx hb dX10_end_20 rfl (lv_at hl 1 rfl) ?_
      refine tg_put (ci := 10) (ts := ty_MODEL) (v := .int p1) (ty := .int) (C := RX10) (T := TX10) (N := 49) hx hb hts inX10 tyX10 tyX10_ok nmX10 hown hK hw h_p0 rfl rfl 2 (by decide) (hts _ tw_1139) (fun _ h9 => h9) rfl (by decide +kernel) rfl rfl (ft := vI 0 940) rfl ⟨_, rfl, r_p1⟩ (by decide) dX10_end_21 (fun ws H locs hw n_k_3 hF9 => ?_)
      have n_k_1 := FLD.over hF9 n_k_1 (by decide)
      have x_TLMV_p0_p1 : TLM ws p0 (Int32.toInt p1) := ⟨_, n_k_3, rfl⟩
      refine lv_iconst (v := 1) hx hb dX10_end_24 (by decide) ?_
      subst hQ
      exact W.zret (v := 1) hx hb hr (rfl) (fun t ht hW => ⟨⟨1, ws, rfl, ⟨⟨rl_1.to (by decide), (fun h0 => absurd h0 (by decide)), (fun h0 => ⟨x_EN1_p1_gh, x_TLMV_p0_p1, trivial⟩)⟩, hw.1, hw.2.2.2.2.1⟩, by rw [ht]; exact hw.2.1, va_K.moved hW.alike hK, hw.2.2.1⟩, hw.2.2.2.1.F ht⟩) hw.2.2.2.1.2.2 dX10_end_25
    · have r_p1 : RI p1 1 2147483647 := rc_lt2 r_vu_2 r_p1 (ti_nle c_14) (by decide)
      have x_EN0_p1_gh : ¬ (0 ≤ Int32.toInt p1 ∧ Int32.toInt p1 ≤ gh) := (fun h9 => by have k1 := ti_nle c_14; omega)
      refine lv_iconst (v := 0) hx hb dX10_end_17 (by decide) ?_
      subst hQ
      exact W.zret (v := 0) hx hb hr (rfl) (fun t ht hW => ⟨⟨0, ws, rfl, ⟨⟨rl_0.to (by decide), (fun h0 => ⟨x_EN0_p1_gh, x_TLM_p0_gh, trivial⟩), (fun h0 => absurd rfl h0)⟩, hw.1, hw.2.2.2.2.1⟩, by rw [ht]; exact hw.2.1, va_K.moved hW.alike hK, hw.2.2.1⟩, hw.2.2.2.1.F ht⟩) hw.2.2.2.1.2.2 dX10_end_18
abbrev wr_X9_noteFault__2 : List (Nat × Nat) := [(7, 2), (9, 11)]
abbrev wa_X9_noteFault__2 : List Nat := []
set_option maxHeartbeats 4000000 in
set_option maxRecDepth 100000 in
theorem c_X9_noteFault__2 (l : Launch) (D : va_G) (cy : Nat → ClassId) (z : Nat → Nat) (sz : Nat) (Ps : PSI) (w0 : va_W) (hT : HT cy GG Ps w0) (p0 : Nat) (h_p0 : (p0, 33) ∈ Ps) : Met l yX9_noteFault (Cond.code yX9_noteFault cX9_noteFault 1 none :: gT) ({ frames := 0, cells := 0, slots := 0, locals := 200 } : Room) (va_Pc [.ref p0] (PRE D cy z w0 sz)) (va_Qv (fun (u : va_W) => (EQF u p0 ∧ TLX u p0 (0) ∧ True) ∧ HT cy GG Ps u ∧ FR wr_X9_noteFault__2 wa_X9_noteFault__2 Ps w0 u) (BB D cy (va_A w0 sz) (fun (u : va_W) => u)) (va_A w0 sz)) 0 0 (va_A w0 sz) := by
  refine Met.ofW (cc := cX9_noteFault) (maxL := 1) (ret := none) (by decide) rfl ?_
  intro p e s m args below meth c s₁ B hml hv
  obtain ⟨rfl, hsz, hP, hK, hD0, hSD⟩ := hv
  have hx := B.exec
  have hb := B.bytes
  have hr := B.returns
  have hlocks := B.notSynchronized
  have hts : ∀ w ∈ gT, w.before _ s = true := fun w h => atoms_spec (ws := Cond.code yX9_noteFault cX9_noteFault 1 none :: gT) B.pre w (List.mem_cons_of_mem _ h)
  have hown : s.vm.findClass RX9 = some m.cls := findClass_of_methodNamed B.named
  subst hsz
  have hD := hD0.self (sz := s.heap.size)
  generalize hAe : va_A w0 s.heap.size = A at hD hSD ⊢
  have hA : ∀ q : Nat, s.heap.size ≤ q → A q := fun q h => by rw [← hAe]; exact Or.inr h
  have hl := lv_entry ([.ref p0]) (n := 1) (Nat.le_of_ble_eq_true rfl)
  rw [lg_entry_eq]
  generalize (lg_sl ([.ref p0]) ++ List.replicate (1 - (lg_sl ([.ref p0])).length) Slot.unset).toArray = ls at hl ⊢
  have hl : lv_has ls 1 [(0, .ref p0)] := hl
  refine nameQ (fun Q hQ => ?_)
  have hw : WD D cy GG A s wr_X9_noteFault__2 wa_X9_noteFault__2 Ps w0 Ps w0 s.heap [] := ⟨hT, hP, hD, va_S.rf, FR.rf, hT.1, [], (List.append_nil _).symm⟩
  refine lv_aload_n hx hb dX9_noteFault_0 rfl (lv_at hl 0 rfl) ?_
  refine lv_aload_n hx hb dX9_noteFault_1 rfl (lv_at hl 0 rfl) ?_
  refine tg_get (ci := 9) (ts := ty_WP) (C := RX9) (T := TX9) (N := 15) hx hb hts inX9 hown hK hw h_p0 rfl rfl 0 (by decide) (hts _ tw_346) (fun _ h9 => h9) (ft := vR 26) rfl dX9_noteFault_2 (fun u_1 hv_u_1 m_u_1 => ?_)
  obtain ⟨vu_1, rfl, h_vu_1⟩ := hv_u_1
  refine tg_getN (ci := 7) (ts := ty_TAPE) (C := RX7) (T := TX7) (N := 12) hx hb hts inX7 hown hK hw h_vu_1 rfl rfl 10 (by decide) (hSD.nest tn_106) (fun _ h9 => h9) (ft := vI 0 4) rfl dX9_noteFault_5 (fun u_2 hv_u_2 m_u_2 => ?_)
  obtain ⟨vu_2, rfl, r_vu_2⟩ := hv_u_2
  refine tg_put (ci := 9) (ts := ty_WP) (v := .int vu_2) (ty := .int) (C := RX9) (T := TX9) (N := 15) hx hb hts inX9 tyX9 tyX9_ok nmX9 hown hK hw h_p0 rfl rfl 11 (by decide) (hts _ tw_357) (fun _ h9 => h9) rfl (by decide +kernel) rfl rfl (ft := vI (-2147483648) 2147483647) rfl ⟨_, rfl, (r_vu_2.to (by decide))⟩ (by decide) dX9_noteFault_8 (fun ws H locs hw n_k_3 hF9 => ?_)
  have m_u_1 := FLD.over hF9 m_u_1 (by decide)
  have m_u_2 := FLD.over hF9 m_u_2 (by decide)
  have x_EQF_p0 : EQF ws p0 := ⟨_, _, m_u_1, n_k_3, m_u_2⟩
  refine lv_aload_n hx hb dX9_noteFault_11 rfl (lv_at hl 0 rfl) ?_
  refine tg_mem (ci := 9) (C := RX9) (T := TX9) (N := 15) hx hb hts inX9 hown hK hw 0 m_u_1 rfl (by decide) (hts _ tw_346) (fun _ h9 => h9) dX9_noteFault_12 ?_
  refine lv_iconst (v := 0) hx hb dX9_noteFault_15 (by decide) ?_
  refine tg_putN (ci := 7) (ts := ty_TAPE) (v := .int 0) (ty := .int) (C := RX7) (T := TX7) (N := 12) hx hb hts inX7 tyX7 tyX7_ok nmX7 hown hK hw h_vu_1 rfl rfl 2 (by decide) (hSD.nest tn_90) (fun _ h9 => h9) rfl (by decide +kernel) rfl rfl (ft := vI 0 940) rfl ⟨_, rfl, (rl_0.to (by decide))⟩ (by decide) dX9_noteFault_16 (fun ws H locs hw n_k_4 hF9 => ?_)
  have m_u_1 := FLD.over hF9 m_u_1 (by decide)
  have m_u_2 := FLD.over hF9 m_u_2 (by decide)
  have n_k_3 := FLD.over hF9 n_k_3 (by decide)
  have x_EQF_p0 := EQF.over hF9 x_EQF_p0 (by decide)
  have x_TLX_p0_0 : TLX ws p0 (0) := ⟨_, m_u_1, _, n_k_4, (by decide)⟩
  subst hQ
  exact W.vret hx hb hr (fun t ht hW => ⟨⟨ws, rfl, ⟨⟨x_EQF_p0, x_TLX_p0_0, trivial⟩, hw.1, hw.2.2.2.2.1⟩, by rw [ht]; exact hw.2.1, va_K.moved hW.alike hK, hw.2.2.1⟩, hw.2.2.2.1.F ht⟩) hw.2.2.2.1.2.2 dX9_noteFault_19
abbrev wr_X10_take__2 : List (Nat × Nat) := [(10, 2)]
abbrev wa_X10_take__2 : List Nat := []
set_option maxHeartbeats 4000000 in
set_option maxRecDepth 100000 in
theorem c_X10_take__2 (l : Launch) (D : va_G) (cy : Nat → ClassId) (z : Nat → Nat) (sz : Nat) (Ps : PSI) (w0 : va_W) (hT : HT cy GG Ps w0) (p0 : Nat) (s0 : OS) (h_p0 : (p0, 55) ∈ Ps) (o_p0 : OV vw_MODEL Ps w0 p0 s0) : Met l yX10_take (Cond.code yX10_take cX10_take 2 (some .int) :: gT) ({ frames := 0, cells := 0, slots := 0, locals := 200 } : Room) (va_Pc [.ref p0] (PRE D cy z w0 sz)) (va_Qi (fun (r : Int32) (u : va_W) => ((OV vw_MODEL Ps u p0 ((f_X10_take__1 s0).1) ∧ (f_X10_take__1 s0).2 = r ∧ True) ∧ (RI r 0 940 ∧ (r = 0 → (∃ v9 : Int32, FLD u p0 10 2 (.int v9) ∧ RI v9 0 0) ∧ TLM u p0 (0) ∧ True) ∧ (¬ r = 0 → (∃ v9 : Int32, FLD u p0 10 2 (.int v9) ∧ RI v9 0 0) ∧ TLM u p0 (0) ∧ True))) ∧ HT cy GG Ps u ∧ FR wr_X10_take__2 wa_X10_take__2 Ps w0 u) (BB D cy (va_A w0 sz) (fun (u : va_W) => u)) (va_A w0 sz)) 0 0 (va_A w0 sz) := by
  refine Met.ofW (cc := cX10_take) (maxL := 2) (ret := (some .int)) (by decide) rfl ?_
  intro p e s m args below meth c s₁ B hml hv
  obtain ⟨rfl, hsz, hP, hK, hD0, hSD⟩ := hv
  have hx := B.exec
  have hb := B.bytes
  have hr := B.returns
  have hlocks := B.notSynchronized
  have hts : ∀ w ∈ gT, w.before _ s = true := fun w h => atoms_spec (ws := Cond.code yX10_take cX10_take 2 (some .int) :: gT) B.pre w (List.mem_cons_of_mem _ h)
  have hown : s.vm.findClass RX10 = some m.cls := findClass_of_methodNamed B.named
  subst hsz
  have hD := hD0.self (sz := s.heap.size)
  generalize hAe : va_A w0 s.heap.size = A at hD hSD ⊢
  have hA : ∀ q : Nat, s.heap.size ≤ q → A q := fun q h => by rw [← hAe]; exact Or.inr h
  have hl := lv_entry ([.ref p0]) (n := 2) (Nat.le_of_ble_eq_true rfl)
  rw [lg_entry_eq]
  generalize (lg_sl ([.ref p0]) ++ List.replicate (2 - (lg_sl ([.ref p0])).length) Slot.unset).toArray = ls at hl ⊢
  have hl : lv_has ls 2 [(0, .ref p0)] := hl
  refine nameQ (fun Q hQ => ?_)
  have hw : WD D cy GG A s wr_X10_take__2 wa_X10_take__2 Ps w0 Ps w0 s.heap [] := ⟨hT, hP, hD, va_S.rf, FR.rf, hT.1, [], (List.append_nil _).symm⟩
  obtain ⟨R9, hR⟩ : ∃ q9 : OS × Int32, f_X10_take__1 s0 = q9 := ⟨_, rfl⟩
  have hE := hR
  refine lv_aload_n hx hb dX10_take_0 rfl (lv_at hl 0 rfl) ?_
  refine tg_get (ci := 10) (ts := ty_MODEL) (C := RX10) (T := TX10) (N := 49) hx hb hts inX10 hown hK hw h_p0 rfl rfl 2 (by decide) (hts _ tw_1139) (fun _ h9 => h9) (ft := vI 0 940) rfl dX10_take_1 (fun u_1 hv_u_1 m_u_1 => ?_)
  obtain ⟨vu_1, rfl, r_vu_1⟩ := hv_u_1
  have q_vu_1 : s0.1 2 = vu_1 := OV.eqI (V := vw_MODEL) hw.2.2.1 o_p0 m_u_1 (by decide)
  refine lv_istore_n (lv' := [(1, .int vu_1), (0, .ref p0)]) hx hb dX10_take_4 rfl hl (by decide) rfl (fun ls hl => ?_)
  refine lv_aload_n hx hb dX10_take_5 rfl (lv_at hl 1 rfl) ?_
  refine lv_iconst (v := 0) hx hb dX10_take_6 (by decide) ?_
  refine tg_put (ci := 10) (ts := ty_MODEL) (v := .int 0) (ty := .int) (C := RX10) (T := TX10) (N := 49) hx hb hts inX10 tyX10 tyX10_ok nmX10 hown hK hw h_p0 rfl rfl 2 (by decide) (hts _ tw_1139) (fun _ h9 => h9) rfl (by decide +kernel) rfl rfl (ft := vI 0 940) rfl ⟨_, rfl, (rl_0.to (by decide))⟩ (by decide) dX10_take_7 (fun ws H locs hw n_k_2 hF9 => ?_)
  obtain ⟨sg_3, q_sg_3⟩ : ∃ q9 : OS, sI s0 2 (0 : Int32) = q9 := ⟨_, rfl⟩
  have o_p0 : OV vw_MODEL Ps ws p0 sg_3 := by rw [← q_sg_3]; exact OV.putI (V := vw_MODEL) hF9 n_k_2 o_p0 (by decide)
  have x_TLM_p0_0 : TLM ws p0 (0) := ⟨_, n_k_2, (by decide)⟩
  refine lv_iload_n hx hb dX10_take_10 rfl (lv_at hl 0 rfl) ?_
  simp only [f_X10_take__1, ↓reduceIte, q_vu_1, q_sg_3] at hE
  subst hQ
  exact W.iret (v := vu_1) hx hb hr (fun t ht hW => ⟨⟨vu_1, ws, rfl, ⟨⟨⟨(by rw [hR, ← hE]; exact o_p0), (by rw [hR, ← hE]), trivial⟩, r_vu_1.to (by decide), (fun h0 => ⟨⟨_, n_k_2, rl_0⟩, x_TLM_p0_0, trivial⟩), (fun h0 => ⟨⟨_, n_k_2, rl_0⟩, x_TLM_p0_0, trivial⟩)⟩, hw.1, hw.2.2.2.2.1⟩, by rw [ht]; exact hw.2.1, va_K.moved hW.alike hK, hw.2.2.1⟩, hw.2.2.2.1.F ht⟩) hw.2.2.2.1.2.2 dX10_take_11
abbrev wr_X9_post__1 : List (Nat × Nat) := [(1, 2), (3, 5), (3, 6), (3, 7), (3, 8), (7, 2), (7, 3), (7, 4), (7, 5), (7, 6), (7, 7), (7, 8), (7, 9), (7, 10), (7, 11), (8, 0), (8, 1), (9, 5), (9, 11)]
abbrev wa_X9_post__1 : List Nat := [1, 4, 5, 6, 7, 8, 9, 10, 11, 12, 13]
set_option maxHeartbeats 4000000 in
set_option maxRecDepth 100000 in
theorem c_X9_post__1 (l : Launch) (D : va_G) (cy : Nat → ClassId) (z : Nat → Nat) (sz : Nat) (Ps : PSI) (w0 : va_W) (hT : HT cy GG Ps w0) (p0 : Nat) (h_p0 : (p0, 33) ∈ Ps) : Met l yX9_post (Cond.code yX9_post cX9_post 3 (some .int) :: gT) ({ frames := 6, cells := 6, slots := 65, locals := 1200 } : Room) (va_Pc [.ref p0] (PRE D cy z w0 sz)) (va_Qi (fun (r : Int32) (u : PSI × va_W) => (RI r (-2147483648) 2147483647 ∧ (r = 0 → True) ∧ (¬ r = 0 → True) ∧ (TLX u.2 p0 (0) ∧ True) ∧ (r.toInt < 0 → True) ∧ (0 ≤ r.toInt → True)) ∧ (∃ X, u.1 = Ps ++ X) ∧ HT cy GG u.1 u.2 ∧ FR wr_X9_post__1 wa_X9_post__1 Ps w0 u.2) (BB D cy (va_A w0 sz) (fun (u : PSI × va_W) => u.2)) (va_A w0 sz)) 6 65 (va_A w0 sz) := by
  refine Met.ofW (cc := cX9_post) (maxL := 3) (ret := (some .int)) (by decide) rfl ?_
  intro p e s m args below meth c s₁ B hml hv
  obtain ⟨rfl, hsz, hP, hK, hD0, hSD⟩ := hv
  have hx := B.exec
  have hb := B.bytes
  have hr := B.returns
  have hlocks := B.notSynchronized
  have hts : ∀ w ∈ gT, w.before _ s = true := fun w h => atoms_spec (ws := Cond.code yX9_post cX9_post 3 (some .int) :: gT) B.pre w (List.mem_cons_of_mem _ h)
  have hown : s.vm.findClass RX9 = some m.cls := findClass_of_methodNamed B.named
  subst hsz
  have hD := hD0.self (sz := s.heap.size)
  generalize hAe : va_A w0 s.heap.size = A at hD hSD ⊢
  have hA : ∀ q : Nat, s.heap.size ≤ q → A q := fun q h => by rw [← hAe]; exact Or.inr h
  have hl := lv_entry ([.ref p0]) (n := 3) (Nat.le_of_ble_eq_true rfl)
  rw [lg_entry_eq]
  generalize (lg_sl ([.ref p0]) ++ List.replicate (3 - (lg_sl ([.ref p0])).length) Slot.unset).toArray = ls at hl ⊢
  have hl : lv_has ls 3 [(0, .ref p0)] := hl
  refine nameQ (fun Q hQ => ?_)
  have hw : WD D cy GG A s wr_X9_post__1 wa_X9_post__1 Ps w0 Ps w0 s.heap [] := ⟨hT, hP, hD, va_S.rf, FR.rf, hT.1, [], (List.append_nil _).symm⟩
  refine va_new (ci := 3) (fs := [.null, .null, .null, .null, .null, .int 0, .int 0, .int 0, .int 0]) (C := RX3) (T := TX3) (N := 9) hx hb hts inX3 tyX3 tyX3_ok hown (hts _ tw_192) (hts _ tw_193) (hts _ tw_11) hK hw.2.1 hw.2.2.1 hw.2.2.2.1 hA rfl (dfX3) (Nat.le_of_ble_eq_true rfl) (Nat.le_of_ble_eq_true rfl) dX9_post_0 (fun q_1 H hP9 hD9 hS9 => ?_)
  refine lv_dup hx hb dX9_post_3 rfl ?_
  refine tkN (va_runIN (As := []) (rest := [.ref q_1]) ⟨hx, hb, hml, hown, hts⟩ (c_Post_init l D cy z H.size q_1) ⟨va_cnB 0 hts (gC tw_196) rfl rfl rfl (va_Nw.of rfl (hSD.nest (args := #[]) tn_194)) (hts _ tw_11) (by decide +kernel) ⟨Nat.le_of_ble_eq_true rfl, Nat.le_of_ble_eq_true rfl⟩, rfl, hts _ tw_195⟩ (preS hP9 hD9 hK hSD hS9 hA [w0.length] last1 rfl) rfl rfl hl.1 rfl (lv_room (Nat.le_of_ble_eq_true rfl)) dX9_post_4 ⟨Nat.le_of_ble_eq_true rfl, Nat.le_of_ble_eq_true rfl⟩) hP9 hD9 hS9 hA (fun u9 H locs hp9 hP9 hD9 hS9 => ?_)
  obtain ⟨u0_1, u1_1, u2_1, u3_1, u4_1⟩ := u9
  have hw := WD.app (X := [(q_1, 25), (u0_1, 1), (u1_1, 4), (u2_1, 5), (u3_1, 6), (u4_1, 7)]) (wx := [(q_1, .inr (3, [.ref u0_1, .ref u1_1, .ref u2_1, .ref u3_1, .ref u4_1, .int 0, .int 5, .int 0, .int 0])), (u0_1, .inl (cy 2, 32, .inr (.inl (fun _ => 0)))), (u1_1, .inl (cy 1, 4, .inl (fun _ => 0))), (u2_1, .inl (cy 1, 6, .inl (fun _ => 0))), (u3_1, .inl (cy 1, 6, .inl (fun _ => 0))), (u4_1, .inl (cy 1, 8, .inl (fun _ => 0)))]) hw ⟨⟨rfl, ok_POST (List.mem_append_right _ (by simp)) (List.mem_append_right _ (by simp)) (List.mem_append_right _ (by simp)) (List.mem_append_right _ (by simp)) (List.mem_append_right _ (by simp)) (rl_0.to (by decide)) (rl_5.to (by decide)) (rl_0.to (by decide)) (rl_0.to (by decide))⟩, ⟨rfl, z_lon (fun _ => 0)⟩, ⟨rfl, z_arr (fun _ => 0) (by decide +kernel) trivial⟩, ⟨rfl, z_arr (fun _ => 0) (fun j9 _ => (by show ((-2147483648) : Int) ≤ (0 : Int32).toInt ∧ (0 : Int32).toInt ≤ 2147483647; decide)) trivial⟩, ⟨rfl, z_arr (fun _ => 0) (fun j9 _ => (by show ((-2147483648) : Int) ≤ (0 : Int32).toInt ∧ (0 : Int32).toInt ≤ 2147483647; decide)) trivial⟩, ⟨rfl, z_arr (fun _ => 0) (fun j9 _ => (by show ((-2147483648) : Int) ≤ (0 : Int32).toInt ∧ (0 : Int32).toInt ≤ 2147483647; decide)) trivial⟩, trivial⟩ hP9 hD9 hS9
  obtain ⟨Pn, hPn⟩ : ∃ q9 : PSI, q9 = Ps ++ [(q_1, 25), (u0_1, 1), (u1_1, 4), (u2_1, 5), (u3_1, 6), (u4_1, 7)] := ⟨_, rfl⟩
  have hup : ∀ x9 ∈ Ps, x9 ∈ Pn := fun x9 h9 => by rw [hPn]; exact List.mem_append_left _ h9
  obtain ⟨ws, hws⟩ : ∃ q9 : va_W, q9 = w0 ++ [(q_1, .inr (3, [.ref u0_1, .ref u1_1, .ref u2_1, .ref u3_1, .ref u4_1, .int 0, .int 5, .int 0, .int 0])), (u0_1, .inl (cy 2, 32, .inr (.inl (fun _ => 0)))), (u1_1, .inl (cy 1, 4, .inl (fun _ => 0))), (u2_1, .inl (cy 1, 6, .inl (fun _ => 0))), (u3_1, .inl (cy 1, 6, .inl (fun _ => 0))), (u4_1, .inl (cy 1, 8, .inl (fun _ => 0)))] := ⟨_, rfl⟩
  rw [← hPn, ← hws] at hw
  have h_p0 := hup _ h_p0
  have h_q_1 : (q_1, 25) ∈ Pn := by rw [hPn]; exact List.mem_append_right _ (by simp)
  have h_u0_1 : (u0_1, 1) ∈ Pn := by rw [hPn]; exact List.mem_append_right _ (by simp)
  have h_u1_1 : (u1_1, 4) ∈ Pn := by rw [hPn]; exact List.mem_append_right _ (by simp)
  have h_u2_1 : (u2_1, 5) ∈ Pn := by rw [hPn]; exact List.mem_append_right _ (by simp)
  have h_u3_1 : (u3_1, 6) ∈ Pn := by rw [hPn]; exact List.mem_append_right _ (by simp)
  have h_u4_1 : (u4_1, 7) ∈ Pn := by rw [hPn]; exact List.mem_append_right _ (by simp)
  refine W.widen (k := 6) (n := 65) (Nat.le_of_ble_eq_true rfl) (Nat.le_of_ble_eq_true rfl) ?_
  refine lv_astore_n (lv' := [(1, .ref q_1), (0, .ref p0)]) hx hb dX9_post_7 rfl hl (by decide) rfl (fun ls hl => ?_)
  refine lv_aload_n hx hb dX9_post_8 rfl (lv_at hl 0 rfl) ?_
  refine lv_aload_n hx hb dX9_post_9 rfl (lv_at hl 1 rfl) ?_
  refine tg_get (ci := 9) (ts := ty_WP) (C := RX9) (T := TX9) (N := 15) hx hb hts inX9 hown hK hw h_p0 rfl rfl 0 (by decide) (hts _ tw_346) (fun _ h9 => h9) (ft := vR 26) rfl dX9_post_10 (fun u_2 hv_u_2 m_u_2 => ?_)
  obtain ⟨vu_2, rfl, h_vu_2⟩ := hv_u_2
  refine lv_aload_n hx hb dX9_post_13 rfl (lv_at hl 1 rfl) ?_
  refine tg_get (ci := 9) (ts := ty_WP) (C := RX9) (T := TX9) (N := 15) hx hb hts inX9 hown hK hw h_p0 rfl rfl 2 (by decide) (hts _ tw_348) (fun _ h9 => h9) (ft := vR 24) rfl dX9_post_14 (fun u_3 hv_u_3 m_u_3 => ?_)
  obtain ⟨vu_3, rfl, h_vu_3⟩ := hv_u_3
  refine tk_i (va_runV (As := [.ref vu_2, .ref vu_3]) (rest := []) ⟨hx, hb, hml, hown, hts⟩ (c_X3_read l D cy z H.size Pn ws hw.1 q_1 vu_2 vu_3 h_q_1 h_vu_2 h_vu_3) (cwV 2 hts (gV tw_412 tw_413 tw_414 tw_11 tw_415) rfl rfl rfl (by decide +kernel) ⟨Nat.le_of_ble_eq_true rfl, Nat.le_of_ble_eq_true rfl⟩) (tg_preV hw hK hSD hA (ci := 3) (q := (RX3, TX3, 9)) rfl h_q_1 rfl) rfl rfl hl.1 rfl (lv_room (Nat.le_of_ble_eq_true rfl)) dX9_post_17 ⟨Nat.le_of_ble_eq_true rfl, Nat.le_of_ble_eq_true rfl⟩) hw hA ⟨by decide, by decide⟩ (fun v_4 ws H locs hp_v_4 hw hF9 => ?_)
  have r_v_4 : RI v_4 (-1) 900 := hp_v_4.1
  refine lv_istore_n (lv' := [(2, .int v_4), (1, .ref q_1), (0, .ref p0)]) hx hb dX9_post_20 rfl hl (by decide) rfl (fun ls hl => ?_)
  refine lv_aload_n hx hb dX9_post_21 rfl (lv_at hl 2 rfl) ?_
  refine tk_v (va_runV (As := []) (rest := []) ⟨hx, hb, hml, hown, hts⟩ (c_X9_noteFault__2 l D cy z H.size Pn ws hw.1 p0 h_p0) (cwV 0 hts (gV tw_517 tw_519 ts_9 tw_1 tw_520) rfl rfl rfl (by decide +kernel) ⟨Nat.le_of_ble_eq_true rfl, Nat.le_of_ble_eq_true rfl⟩) (tg_preV hw hK hSD hA (ci := 9) (q := (RX9, TX9, 15)) rfl h_p0 rfl) rfl rfl hl.1 rfl (lv_room (Nat.le_of_ble_eq_true rfl)) dX9_post_22 ⟨Nat.le_of_ble_eq_true rfl, Nat.le_of_ble_eq_true rfl⟩) hw hA ⟨by decide, by decide⟩ (fun ws H locs hp_v_5 hw hF9 => ?_)
  have x_EQF_p0 := (hp_v_5.1)
  have x_TLX_p0_0 := (hp_v_5.2.1)
  refine lv_aload_n hx hb dX9_post_25 rfl (lv_at hl 2 rfl) ?_
  refine tg_get (ci := 9) (ts := ty_WP) (C := RX9) (T := TX9) (N := 15) hx hb hts inX9 hown hK hw h_p0 rfl rfl 11 (by decide) (hts _ tw_357) (fun _ h9 => h9) (ft := vI (-2147483648) 2147483647) rfl dX9_post_26 (fun u_6 hv_u_6 m_u_6 => ?_)
  obtain ⟨vu_6, rfl, r_vu_6⟩ := hv_u_6
  refine lv_if_eq (tgt := 42) hx hb dX9_post_29 (by decide) (fun c_29 => ?_) (fun c_29 => ?_)
  · have r_vu_6 : RI vu_6 0 0 := rc_eq1 r_vu_6 rl_0 (ti_eq c_29) (by decide)
    refine lv_aload_n hx hb dX9_post_42 rfl (lv_at hl 2 rfl) ?_
    refine tg_get (ci := 9) (ts := ty_WP) (C := RX9) (T := TX9) (N := 15) hx hb hts inX9 hown hK hw h_p0 rfl rfl 1 (by decide) (hts _ tw_347) (fun _ h9 => h9) (ft := vR 24) rfl dX9_post_43 (fun u_7 hv_u_7 m_u_7 => ?_)
    obtain ⟨vu_7, rfl, h_vu_7⟩ := hv_u_7
    refine lv_aload_n hx hb dX9_post_46 rfl (lv_at hl 2 rfl) ?_
    refine tg_get (ci := 9) (ts := ty_WP) (C := RX9) (T := TX9) (N := 15) hx hb hts inX9 hown hK hw h_p0 rfl rfl 2 (by decide) (hts _ tw_348) (fun _ h9 => h9) (ft := vR 24) rfl dX9_post_47 (fun u_8 hv_u_8 m_u_8 => ?_)
    obtain ⟨vu_8, rfl, h_vu_8⟩ := hv_u_8
    refine tk_v (va_runV (As := [.ref vu_8]) (rest := []) ⟨hx, hb, hml, hown, hts⟩ (c_X8_takeFrom l D cy z H.size Pn ws hw.1 vu_7 vu_8 h_vu_7 h_vu_8) (cwV 1 hts (gV tw_521 tw_522 tw_523 tw_12 tw_524) rfl rfl rfl (by decide +kernel) ⟨Nat.le_of_ble_eq_true rfl, Nat.le_of_ble_eq_true rfl⟩) (tg_preV hw hK hSD hA (ci := 8) (q := (RX8, TX8, 13)) rfl h_vu_7 rfl) rfl rfl hl.1 rfl (lv_room (Nat.le_of_ble_eq_true rfl)) dX9_post_50 ⟨Nat.le_of_ble_eq_true rfl, Nat.le_of_ble_eq_true rfl⟩) hw hA ⟨by decide, by decide⟩ (fun ws H locs hp_v_9 hw hF9 => ?_)
    have m_u_6 := FLD.over hF9 m_u_6 (by decide)
    have x_EQF_p0 := EQF.over hF9 x_EQF_p0 (by decide)
    have x_TLX_p0_0 := TLX.over hF9 x_TLX_p0_0 (by decide)
    refine lv_aload_n hx hb dX9_post_53 rfl (lv_at hl 2 rfl) ?_
    refine lv_null hx hb dX9_post_54 ?_
    refine tg_put (ci := 9) (ts := ty_WP) (v := .null) (ty := .object "WonderParcels$Sentence") (C := RX9) (T := TX9) (N := 15) hx hb hts inX9 tyX9 tyX9_ok nmX9 hown hK hw h_p0 rfl rfl 5 (by decide) (hts _ tw_351) (fun _ h9 => h9) rfl (by decide +kernel) rfl rfl (ft := vN 32) rfl (Or.inl rfl) (by decide) dX9_post_55 (fun ws H locs hw n_k_10 hF9 => ?_)
    have m_u_6 := FLD.over hF9 m_u_6 (by decide)
    have x_EQF_p0 := EQF.over hF9 x_EQF_p0 (by decide)
    have x_TLX_p0_0 := TLX.over hF9 x_TLX_p0_0 (by decide)
    refine lv_aload_n hx hb dX9_post_58 rfl (lv_at hl 2 rfl) ?_
    refine tg_get (ci := 9) (ts := ty_WP) (C := RX9) (T := TX9) (N := 15) hx hb hts inX9 hown hK hw h_p0 rfl rfl 3 (by decide) (hts _ tw_349) (fun _ h9 => h9) (ft := vR 27) rfl dX9_post_59 (fun u_11 hv_u_11 m_u_11 => ?_)
    obtain ⟨vu_11, rfl, h_vu_11⟩ := hv_u_11
    refine tk_v (va_runV (As := []) (rest := []) ⟨hx, hb, hml, hown, hts⟩ (c_X1_forget l D cy z H.size Pn ws hw.1 vu_11 h_vu_11) (cwV 0 hts (gV tw_528 tw_529 tw_530 tw_13 tw_531) rfl rfl rfl (by decide +kernel) ⟨Nat.le_of_ble_eq_true rfl, Nat.le_of_ble_eq_true rfl⟩) (tg_preV hw hK hSD hA (ci := 1) (q := (RX1, TX1, 3)) rfl h_vu_11 rfl) rfl rfl hl.1 rfl (lv_room (Nat.le_of_ble_eq_true rfl)) dX9_post_62 ⟨Nat.le_of_ble_eq_true rfl, Nat.le_of_ble_eq_true rfl⟩) hw hA ⟨by decide, by decide⟩ (fun ws H locs hp_v_12 hw hF9 => ?_)
    have m_u_6 := FLD.over hF9 m_u_6 (by decide)
    have x_EQF_p0 := EQF.over hF9 x_EQF_p0 (by decide)
    have x_TLX_p0_0 := TLX.over hF9 x_TLX_p0_0 (by decide)
    refine lv_iload_n hx hb dX9_post_65 rfl (lv_at hl 0 rfl) ?_
    subst hQ
    exact W.iret (v := v_4) hx hb hr (fun t ht hW => ⟨⟨v_4, (Pn, ws), rfl, ⟨⟨r_v_4.to (by decide), (fun h0 => trivial), (fun h0 => trivial), ⟨x_TLX_p0_0, trivial⟩, (fun _ => trivial), (fun _ => trivial)⟩, hw.2.2.2.2.2.2, hw.1, hw.2.2.2.2.1⟩, by rw [ht]; exact hw.2.1, va_K.moved hW.alike hK, hw.2.2.1⟩, hw.2.2.2.1.F ht⟩) hw.2.2.2.1.2.2 dX9_post_66
  · refine lv_iconst (v := (-1)) hx hb dX9_post_32 (by decide) ?_
    refine lv_aload_n hx hb dX9_post_33 rfl (lv_at hl 2 rfl) ?_
    refine tg_get (ci := 9) (ts := ty_WP) (C := RX9) (T := TX9) (N := 15) hx hb hts inX9 hown hK hw h_p0 rfl rfl 0 (by decide) (hts _ tw_346) (fun _ h9 => h9) (ft := vR 26) rfl dX9_post_34 (fun u_13 hv_u_13 m_u_13 => ?_)
    obtain ⟨vu_13, rfl, h_vu_13⟩ := hv_u_13
    refine tg_getN (ci := 7) (ts := ty_TAPE) (C := RX7) (T := TX7) (N := 12) hx hb hts inX7 hown hK hw h_vu_13 rfl rfl 11 (by decide) (hSD.nest tn_107) (fun _ h9 => h9) (ft := vI (-2147483648) 2147483647) rfl dX9_post_37 (fun u_14 hv_u_14 m_u_14 => ?_)
    obtain ⟨vu_14, rfl, r_vu_14⟩ := hv_u_14
    refine lv_isub hx hb dX9_post_40 (lv_topi (fun v_15 e_v_15 => ?_))
    obtain ⟨t_v_15, r_v_15⟩ := tq_sub (lo := (-2147483648)) (hi := 2147483647) rl_m1 r_vu_14 (by decide +kernel) e_v_15
    have t_v_15 : v_15.toInt = (-1) - vu_14.toInt := t_v_15
    subst hQ
    exact W.iret (v := v_15) hx hb hr (fun t ht hW => ⟨⟨v_15, (Pn, ws), rfl, ⟨⟨r_v_15.to (by decide), (fun h0 => trivial), (fun h0 => trivial), ⟨x_TLX_p0_0, trivial⟩, (fun _ => trivial), (fun _ => trivial)⟩, hw.2.2.2.2.2.2, hw.1, hw.2.2.2.2.1⟩, by rw [ht]; exact hw.2.1, va_K.moved hW.alike hK, hw.2.2.1⟩, hw.2.2.2.1.F ht⟩) hw.2.2.2.1.2.2 dX9_post_41
abbrev wr_X9_sentence__1 : List (Nat × Nat) := [(5, 3), (5, 4), (7, 2), (7, 3), (7, 4), (7, 5), (7, 6), (7, 7), (7, 8), (7, 9), (7, 10), (7, 11), (9, 5), (9, 11)]
abbrev wa_X9_sentence__1 : List Nat := [21]
set_option maxHeartbeats 4000000 in
set_option maxRecDepth 100000 in
theorem c_X9_sentence__1 (l : Launch) (D : va_G) (cy : Nat → ClassId) (z : Nat → Nat) (sz : Nat) (Ps : PSI) (w0 : va_W) (hT : HT cy GG Ps w0) (p0 : Nat) (h_p0 : (p0, 33) ∈ Ps) : Met l yX9_sentence (Cond.code yX9_sentence cX9_sentence 2 (some .int) :: gT) ({ frames := 22, cells := 4, slots := 125, locals := 4400 } : Room) (va_Pc [.ref p0] (PRE D cy z w0 sz)) (va_Qi (fun (r : Int32) (u : PSI × va_W) => (RI r (-2147483648) 2147483647 ∧ (r = 0 → True) ∧ (¬ r = 0 → True) ∧ (TLX u.2 p0 (0) ∧ True) ∧ (r.toInt < 0 → True) ∧ (0 ≤ r.toInt → True)) ∧ (∃ X, u.1 = Ps ++ X) ∧ HT cy GG u.1 u.2 ∧ FR wr_X9_sentence__1 wa_X9_sentence__1 Ps w0 u.2) (BB D cy (va_A w0 sz) (fun (u : PSI × va_W) => u.2)) (va_A w0 sz)) 4 125 (va_A w0 sz) := by
  refine Met.ofW (cc := cX9_sentence) (maxL := 2) (ret := (some .int)) (by decide) rfl ?_
  intro p e s m args below meth c s₁ B hml hv
  obtain ⟨rfl, hsz, hP, hK, hD0, hSD⟩ := hv
  have hx := B.exec
  have hb := B.bytes
  have hr := B.returns
  have hlocks := B.notSynchronized
  have hts : ∀ w ∈ gT, w.before _ s = true := fun w h => atoms_spec (ws := Cond.code yX9_sentence cX9_sentence 2 (some .int) :: gT) B.pre w (List.mem_cons_of_mem _ h)
  have hown : s.vm.findClass RX9 = some m.cls := findClass_of_methodNamed B.named
  subst hsz
  have hD := hD0.self (sz := s.heap.size)
  generalize hAe : va_A w0 s.heap.size = A at hD hSD ⊢
  have hA : ∀ q : Nat, s.heap.size ≤ q → A q := fun q h => by rw [← hAe]; exact Or.inr h
  have hl := lv_entry ([.ref p0]) (n := 2) (Nat.le_of_ble_eq_true rfl)
  rw [lg_entry_eq]
  generalize (lg_sl ([.ref p0]) ++ List.replicate (2 - (lg_sl ([.ref p0])).length) Slot.unset).toArray = ls at hl ⊢
  have hl : lv_has ls 2 [(0, .ref p0)] := hl
  refine nameQ (fun Q hQ => ?_)
  have hw : WD D cy GG A s wr_X9_sentence__1 wa_X9_sentence__1 Ps w0 Ps w0 s.heap [] := ⟨hT, hP, hD, va_S.rf, FR.rf, hT.1, [], (List.append_nil _).symm⟩
  refine va_new (ci := 5) (fs := [.null, .null, .null, .int 0, .int 0]) (C := RX5) (T := TX5) (N := 5) hx hb hts inX5 tyX5 tyX5_ok hown (hts _ tw_945) (hts _ tw_946) (hts _ tw_23) hK hw.2.1 hw.2.2.1 hw.2.2.2.1 hA rfl (dfX5) (Nat.le_of_ble_eq_true rfl) (Nat.le_of_ble_eq_true rfl) dX9_sentence_0 (fun q_1 H hP9 hD9 hS9 => ?_)
  refine lv_dup hx hb dX9_sentence_3 rfl ?_
  refine tkN (va_runIN (As := []) (rest := [.ref q_1]) ⟨hx, hb, hml, hown, hts⟩ (c_Sent_init l D cy z H.size q_1) ⟨va_cnB 0 hts (gC tw_949) rfl rfl rfl (va_Nw.of rfl (hSD.nest (args := #[]) tn_947)) (hts _ tw_23) (by decide +kernel) ⟨Nat.le_of_ble_eq_true rfl, Nat.le_of_ble_eq_true rfl⟩, rfl, hts _ tw_948⟩ (preS hP9 hD9 hK hSD hS9 hA [w0.length] last1 rfl) rfl rfl hl.1 rfl (lv_room (Nat.le_of_ble_eq_true rfl)) dX9_sentence_4 ⟨Nat.le_of_ble_eq_true rfl, Nat.le_of_ble_eq_true rfl⟩) hP9 hD9 hS9 hA (fun u9 H locs hp9 hP9 hD9 hS9 => ?_)
  obtain ⟨u0_1, u1_1, u2_1⟩ := u9
  have hw := WD.app (X := [(q_1, 32), (u0_1, 21), (u1_1, 21), (u2_1, 21)]) (wx := [(q_1, .inr (5, [.ref u0_1, .ref u1_1, .ref u2_1, .int 0, .int 0])), (u0_1, .inl (cy 1, 40, .inl (fun _ => 0))), (u1_1, .inl (cy 1, 40, .inl (fun _ => 0))), (u2_1, .inl (cy 1, 40, .inl (fun _ => 0)))]) hw ⟨⟨rfl, ok_SENT (List.mem_append_right _ (by simp)) (List.mem_append_right _ (by simp)) (List.mem_append_right _ (by simp)) (rl_0.to (by decide)) (rl_0.to (by decide))⟩, ⟨rfl, z_arr (fun _ => 0) (fun j9 _ => (by show ((-2147483648) : Int) ≤ (0 : Int32).toInt ∧ (0 : Int32).toInt ≤ 2147483647; decide)) trivial⟩, ⟨rfl, z_arr (fun _ => 0) (fun j9 _ => (by show ((-2147483648) : Int) ≤ (0 : Int32).toInt ∧ (0 : Int32).toInt ≤ 2147483647; decide)) trivial⟩, ⟨rfl, z_arr (fun _ => 0) (fun j9 _ => (by show ((-2147483648) : Int) ≤ (0 : Int32).toInt ∧ (0 : Int32).toInt ≤ 2147483647; decide)) trivial⟩, trivial⟩ hP9 hD9 hS9
  obtain ⟨Pn, hPn⟩ : ∃ q9 : PSI, q9 = Ps ++ [(q_1, 32), (u0_1, 21), (u1_1, 21), (u2_1, 21)] := ⟨_, rfl⟩
  have hup : ∀ x9 ∈ Ps, x9 ∈ Pn := fun x9 h9 => by rw [hPn]; exact List.mem_append_left _ h9
  obtain ⟨ws, hws⟩ : ∃ q9 : va_W, q9 = w0 ++ [(q_1, .inr (5, [.ref u0_1, .ref u1_1, .ref u2_1, .int 0, .int 0])), (u0_1, .inl (cy 1, 40, .inl (fun _ => 0))), (u1_1, .inl (cy 1, 40, .inl (fun _ => 0))), (u2_1, .inl (cy 1, 40, .inl (fun _ => 0)))] := ⟨_, rfl⟩
  rw [← hPn, ← hws] at hw
  have h_p0 := hup _ h_p0
  have h_q_1 : (q_1, 32) ∈ Pn := by rw [hPn]; exact List.mem_append_right _ (by simp)
  have h_u0_1 : (u0_1, 21) ∈ Pn := by rw [hPn]; exact List.mem_append_right _ (by simp)
  have h_u1_1 : (u1_1, 21) ∈ Pn := by rw [hPn]; exact List.mem_append_right _ (by simp)
  have h_u2_1 : (u2_1, 21) ∈ Pn := by rw [hPn]; exact List.mem_append_right _ (by simp)
  refine W.widen (k := 4) (n := 125) (Nat.le_of_ble_eq_true rfl) (Nat.le_of_ble_eq_true rfl) ?_
  refine lv_astore_n (lv' := [(1, .ref q_1), (0, .ref p0)]) hx hb dX9_sentence_7 rfl hl (by decide) rfl (fun ls hl => ?_)
  refine lv_aload_n hx hb dX9_sentence_8 rfl (lv_at hl 0 rfl) ?_
  refine lv_aload_n hx hb dX9_sentence_9 rfl (lv_at hl 1 rfl) ?_
  refine tg_get (ci := 9) (ts := ty_WP) (C := RX9) (T := TX9) (N := 15) hx hb hts inX9 hown hK hw h_p0 rfl rfl 0 (by decide) (hts _ tw_346) (fun _ h9 => h9) (ft := vR 26) rfl dX9_sentence_10 (fun u_2 hv_u_2 m_u_2 => ?_)
  obtain ⟨vu_2, rfl, h_vu_2⟩ := hv_u_2
  refine lv_aload_n hx hb dX9_sentence_13 rfl (lv_at hl 1 rfl) ?_
  refine tg_get (ci := 9) (ts := ty_WP) (C := RX9) (T := TX9) (N := 15) hx hb hts inX9 hown hK hw h_p0 rfl rfl 1 (by decide) (hts _ tw_347) (fun _ h9 => h9) (ft := vR 24) rfl dX9_sentence_14 (fun u_3 hv_u_3 m_u_3 => ?_)
  obtain ⟨vu_3, rfl, h_vu_3⟩ := hv_u_3
  refine tg_getN (ci := 8) (ts := ty_WORLD) (C := RX8) (T := TX8) (N := 13) hx hb hts inX8 hown hK hw h_vu_3 rfl rfl 0 (by decide) (hSD.nest tn_249) (fun _ h9 => h9) (ft := vR 25) rfl dX9_sentence_17 (fun u_4 hv_u_4 m_u_4 => ?_)
  obtain ⟨vu_4, rfl, h_vu_4⟩ := hv_u_4
  refine tk_v (va_runV (As := [.ref vu_2, .ref vu_4]) (rest := []) ⟨hx, hb, hml, hown, hts⟩ (c_X5_read l D cy z H.size Pn ws hw.1 q_1 vu_2 vu_4 h_q_1 h_vu_2 h_vu_4) (cwV 2 hts (gV tw_968 tw_969 tw_970 tw_23 tw_971) rfl rfl rfl (by decide +kernel) ⟨Nat.le_of_ble_eq_true rfl, Nat.le_of_ble_eq_true rfl⟩) (tg_preV hw hK hSD hA (ci := 5) (q := (RX5, TX5, 5)) rfl h_q_1 rfl) rfl rfl hl.1 rfl (lv_room (Nat.le_of_ble_eq_true rfl)) dX9_sentence_20 ⟨Nat.le_of_ble_eq_true rfl, Nat.le_of_ble_eq_true rfl⟩) hw hA ⟨by decide, by decide⟩ (fun ws H locs hp_v_5 hw hF9 => ?_)
  refine lv_aload_n hx hb dX9_sentence_23 rfl (lv_at hl 1 rfl) ?_
  refine tk_v (va_runV (As := []) (rest := []) ⟨hx, hb, hml, hown, hts⟩ (c_X9_noteFault__2 l D cy z H.size Pn ws hw.1 p0 h_p0) (cwV 0 hts (gV tw_517 tw_519 ts_9 tw_1 tw_520) rfl rfl rfl (by decide +kernel) ⟨Nat.le_of_ble_eq_true rfl, Nat.le_of_ble_eq_true rfl⟩) (tg_preV hw hK hSD hA (ci := 9) (q := (RX9, TX9, 15)) rfl h_p0 rfl) rfl rfl hl.1 rfl (lv_room (Nat.le_of_ble_eq_true rfl)) dX9_sentence_24 ⟨Nat.le_of_ble_eq_true rfl, Nat.le_of_ble_eq_true rfl⟩) hw hA ⟨by decide, by decide⟩ (fun ws H locs hp_v_6 hw hF9 => ?_)
  have x_EQF_p0 := (hp_v_6.1)
  have x_TLX_p0_0 := (hp_v_6.2.1)
  refine lv_aload_n hx hb dX9_sentence_27 rfl (lv_at hl 1 rfl) ?_
  refine tg_get (ci := 9) (ts := ty_WP) (C := RX9) (T := TX9) (N := 15) hx hb hts inX9 hown hK hw h_p0 rfl rfl 11 (by decide) (hts _ tw_357) (fun _ h9 => h9) (ft := vI (-2147483648) 2147483647) rfl dX9_sentence_28 (fun u_7 hv_u_7 m_u_7 => ?_)
  obtain ⟨vu_7, rfl, r_vu_7⟩ := hv_u_7
  refine lv_if_eq (tgt := 44) hx hb dX9_sentence_31 (by decide) (fun c_31 => ?_) (fun c_31 => ?_)
  · have r_vu_7 : RI vu_7 0 0 := rc_eq1 r_vu_7 rl_0 (ti_eq c_31) (by decide)
    refine lv_aload_n hx hb dX9_sentence_44 rfl (lv_at hl 1 rfl) ?_
    refine lv_aload_n hx hb dX9_sentence_45 rfl (lv_at hl 0 rfl) ?_
    refine tg_put (ci := 9) (ts := ty_WP) (v := .ref q_1) (ty := .object "WonderParcels$Sentence") (C := RX9) (T := TX9) (N := 15) hx hb hts inX9 tyX9 tyX9_ok nmX9 hown hK hw h_p0 rfl rfl 5 (by decide) (hts _ tw_351) (fun _ h9 => h9) rfl (by decide +kernel) rfl rfl (ft := vN 32) rfl (Or.inr ⟨_, rfl, h_q_1⟩) (by decide) dX9_sentence_46 (fun ws H locs hw n_k_8 hF9 => ?_)
    have m_u_7 := FLD.over hF9 m_u_7 (by decide)
    have x_EQF_p0 := EQF.over hF9 x_EQF_p0 (by decide)
    have x_TLX_p0_0 := TLX.over hF9 x_TLX_p0_0 (by decide)
    refine lv_aload_n hx hb dX9_sentence_49 rfl (lv_at hl 0 rfl) ?_
    refine tg_getN (ci := 5) (ts := ty_SENT) (C := RX5) (T := TX5) (N := 5) hx hb hts inX5 hown hK hw h_q_1 rfl rfl 4 (by decide) (hSD.nest tn_956) (fun _ h9 => h9) (ft := vI (-2147483648) 2147483647) rfl dX9_sentence_50 (fun u_9 hv_u_9 m_u_9 => ?_)
    obtain ⟨vu_9, rfl, r_vu_9⟩ := hv_u_9
    subst hQ
    exact W.iret (v := vu_9) hx hb hr (fun t ht hW => ⟨⟨vu_9, (Pn, ws), rfl, ⟨⟨r_vu_9.to (by decide), (fun h0 => trivial), (fun h0 => trivial), ⟨x_TLX_p0_0, trivial⟩, (fun _ => trivial), (fun _ => trivial)⟩, hw.2.2.2.2.2.2, hw.1, hw.2.2.2.2.1⟩, by rw [ht]; exact hw.2.1, va_K.moved hW.alike hK, hw.2.2.1⟩, hw.2.2.2.1.F ht⟩) hw.2.2.2.1.2.2 dX9_sentence_53
  · refine lv_iconst (v := (-1)) hx hb dX9_sentence_34 (by decide) ?_
    refine lv_aload_n hx hb dX9_sentence_35 rfl (lv_at hl 1 rfl) ?_
    refine tg_get (ci := 9) (ts := ty_WP) (C := RX9) (T := TX9) (N := 15) hx hb hts inX9 hown hK hw h_p0 rfl rfl 0 (by decide) (hts _ tw_346) (fun _ h9 => h9) (ft := vR 26) rfl dX9_sentence_36 (fun u_10 hv_u_10 m_u_10 => ?_)
    obtain ⟨vu_10, rfl, h_vu_10⟩ := hv_u_10
    refine tg_getN (ci := 7) (ts := ty_TAPE) (C := RX7) (T := TX7) (N := 12) hx hb hts inX7 hown hK hw h_vu_10 rfl rfl 11 (by decide) (hSD.nest tn_107) (fun _ h9 => h9) (ft := vI (-2147483648) 2147483647) rfl dX9_sentence_39 (fun u_11 hv_u_11 m_u_11 => ?_)
    obtain ⟨vu_11, rfl, r_vu_11⟩ := hv_u_11
    refine lv_isub hx hb dX9_sentence_42 (lv_topi (fun v_12 e_v_12 => ?_))
    obtain ⟨t_v_12, r_v_12⟩ := tq_sub (lo := (-2147483648)) (hi := 2147483647) rl_m1 r_vu_11 (by decide +kernel) e_v_12
    have t_v_12 : v_12.toInt = (-1) - vu_11.toInt := t_v_12
    subst hQ
    exact W.iret (v := v_12) hx hb hr (fun t ht hW => ⟨⟨v_12, (Pn, ws), rfl, ⟨⟨r_v_12.to (by decide), (fun h0 => trivial), (fun h0 => trivial), ⟨x_TLX_p0_0, trivial⟩, (fun _ => trivial), (fun _ => trivial)⟩, hw.2.2.2.2.2.2, hw.1, hw.2.2.2.2.1⟩, by rw [ht]; exact hw.2.1, va_K.moved hW.alike hK, hw.2.2.1⟩, hw.2.2.2.1.F ht⟩) hw.2.2.2.1.2.2 dX9_sentence_43
abbrev wr_X10_begin__5 : List (Nat × Nat) := [(10, 0), (10, 2), (10, 3), (10, 4), (10, 5), (10, 6), (10, 7), (10, 8), (10, 9), (10, 10), (10, 12)]
abbrev wa_X10_begin__5 : List Nat := []
set_option maxHeartbeats 4000000 in
set_option maxRecDepth 100000 in
theorem c_X10_begin__5 (l : Launch) (D : va_G) (cy : Nat → ClassId) (z : Nat → Nat) (sz : Nat) (Ps : PSI) (w0 : va_W) (hT : HT cy GG Ps w0) (p0 : Nat) (p1 : Int32) (s0 : OS) (h_p0 : (p0, 55) ∈ Ps) (r_p1 : RI p1 (-2147483648) 2147483647) (o_p0 : OV vw_MODEL Ps w0 p0 s0) : Met l yX10_begin (Cond.code yX10_begin cX10_begin 2 none :: gT) ({ frames := 3, cells := 0, slots := 0, locals := 600 } : Room) (va_Pc [.ref p0, .int p1] (PRE D cy z w0 sz)) (va_Qv (fun (u : va_W) => ((OV vw_MODEL Ps u p0 ((f_X10_begin__4 p1 s0)) ∧ True) ∧ ((∃ v9 : Int32, FLD u p0 10 2 (.int v9) ∧ RI v9 0 0) ∧ TLM u p0 (0) ∧ True)) ∧ HT cy GG Ps u ∧ FR wr_X10_begin__5 wa_X10_begin__5 Ps w0 u) (BB D cy (va_A w0 sz) (fun (u : va_W) => u)) (va_A w0 sz)) 0 0 (va_A w0 sz) := by
  refine Met.ofW (cc := cX10_begin) (maxL := 2) (ret := none) (by decide) rfl ?_
  intro p e s m args below meth c s₁ B hml hv
  obtain ⟨rfl, hsz, hP, hK, hD0, hSD⟩ := hv
  have hx := B.exec
  have hb := B.bytes
  have hr := B.returns
  have hlocks := B.notSynchronized
  have hts : ∀ w ∈ gT, w.before _ s = true := fun w h => atoms_spec (ws := Cond.code yX10_begin cX10_begin 2 none :: gT) B.pre w (List.mem_cons_of_mem _ h)
  have hown : s.vm.findClass RX10 = some m.cls := findClass_of_methodNamed B.named
  subst hsz
  have hD := hD0.self (sz := s.heap.size)
  generalize hAe : va_A w0 s.heap.size = A at hD hSD ⊢
  have hA : ∀ q : Nat, s.heap.size ≤ q → A q := fun q h => by rw [← hAe]; exact Or.inr h
  have hl := lv_entry ([.ref p0, .int p1]) (n := 2) (Nat.le_of_ble_eq_true rfl)
  rw [lg_entry_eq]
  generalize (lg_sl ([.ref p0, .int p1]) ++ List.replicate (2 - (lg_sl ([.ref p0, .int p1])).length) Slot.unset).toArray = ls at hl ⊢
  have hl : lv_has ls 2 [(0, .ref p0), (1, .int p1)] := hl
  refine nameQ (fun Q hQ => ?_)
  have hw : WD D cy GG A s wr_X10_begin__5 wa_X10_begin__5 Ps w0 Ps w0 s.heap [] := ⟨hT, hP, hD, va_S.rf, FR.rf, hT.1, [], (List.append_nil _).symm⟩
  obtain ⟨R9, hR⟩ : ∃ q9 : OS, f_X10_begin__4 p1 s0 = q9 := ⟨_, rfl⟩
  have hE := hR
  refine lv_aload_n hx hb dX10_begin_0 rfl (lv_at hl 0 rfl) ?_
  refine lv_iconst (v := 0) hx hb dX10_begin_1 (by decide) ?_
  refine tg_put (ci := 10) (ts := ty_MODEL) (v := .int 0) (ty := .int) (C := RX10) (T := TX10) (N := 49) hx hb hts inX10 tyX10 tyX10_ok nmX10 hown hK hw h_p0 rfl rfl 0 (by decide) (hts _ tw_1137) (fun _ h9 => h9) rfl (by decide +kernel) rfl rfl (ft := vI (-2147483648) 2147483647) rfl ⟨_, rfl, (rl_0.to (by decide))⟩ (by decide) dX10_begin_2 (fun ws H locs hw n_k_1 hF9 => ?_)
  obtain ⟨sg_2, q_sg_2⟩ : ∃ q9 : OS, sI s0 0 (0 : Int32) = q9 := ⟨_, rfl⟩
  have o_p0 : OV vw_MODEL Ps ws p0 sg_2 := by rw [← q_sg_2]; exact OV.putI (V := vw_MODEL) hF9 n_k_1 o_p0 (by decide)
  refine lv_aload_n hx hb dX10_begin_5 rfl (lv_at hl 0 rfl) ?_
  refine lv_aload_n hx hb dX10_begin_6 rfl (lv_at hl 0 rfl) ?_
  refine tk_i (va_runV (As := []) (rest := [.ref p0]) ⟨hx, hb, hml, hown, hts⟩ (c_X10_take__2 l D cy z H.size Ps ws hw.1 p0 sg_2 h_p0 o_p0) (cwV 0 hts (gV tw_1294 tw_1296 ts_39 tw_15 tw_1297) rfl rfl rfl (by decide +kernel) ⟨Nat.le_of_ble_eq_true rfl, Nat.le_of_ble_eq_true rfl⟩) (tg_preV hw hK hSD hA (ci := 10) (q := (RX10, TX10, 49)) rfl h_p0 rfl) rfl rfl hl.1 rfl (lv_room (Nat.le_of_ble_eq_true rfl)) dX10_begin_7 ⟨Nat.le_of_ble_eq_true rfl, Nat.le_of_ble_eq_true rfl⟩) hw hA ⟨by decide, by decide⟩ (fun v_3 ws H locs hp_v_3 hw hF9 => ?_)
  have n_k_1 := FLD.over hF9 n_k_1 (by decide)
  obtain ⟨hfn, hp_v_3⟩ := hp_v_3
  obtain ⟨sg_4, q_sg_4⟩ : ∃ q9 : OS, (f_X10_take__1 sg_2).1 = q9 := ⟨_, rfl⟩
  have o_p0 : OV vw_MODEL Ps ws p0 sg_4 := by rw [← q_sg_4]; exact hfn.1
  have q_v_3 : (f_X10_take__1 sg_2).2 = v_3 := hfn.2.1
  have r_v_3 : RI v_3 0 940 := hp_v_3.1
  by_cases c9_v_3 : v_3 = 0
  · have r_v_3 : RI v_3 0 0 := by rw [c9_v_3]; exact rl_0
    obtain ⟨v_5, m_v_5, r_v_5⟩ := ((hp_v_3.2.1 c9_v_3).1)
    have x_TLM_p0_0 := ((hp_v_3.2.1 c9_v_3).2.1)
    refine tg_put (ci := 10) (ts := ty_MODEL) (v := .int v_3) (ty := .int) (C := RX10) (T := TX10) (N := 49) hx hb hts inX10 tyX10 tyX10_ok nmX10 hown hK hw h_p0 rfl rfl 3 (by decide) (hts _ tw_1140) (fun _ h9 => h9) rfl (by decide +kernel) rfl rfl (ft := vI 0 940) rfl ⟨_, rfl, (r_v_3.to (by decide))⟩ (by decide) dX10_begin_10 (fun ws H locs hw n_k_6 hF9 => ?_)
    have n_k_1 := FLD.over hF9 n_k_1 (by decide)
    have m_v_5 := FLD.over hF9 m_v_5 (by decide)
    have x_TLM_p0_0 := TLM.over hF9 x_TLM_p0_0 (by decide)
    obtain ⟨sg_7, q_sg_7⟩ : ∃ q9 : OS, sI sg_4 3 v_3 = q9 := ⟨_, rfl⟩
    have o_p0 : OV vw_MODEL Ps ws p0 sg_7 := by rw [← q_sg_7]; exact OV.putI (V := vw_MODEL) hF9 n_k_6 o_p0 (by decide)
    refine lv_aload_n hx hb dX10_begin_13 rfl (lv_at hl 0 rfl) ?_
    refine lv_iload_n hx hb dX10_begin_14 rfl (lv_at hl 1 rfl) ?_
    refine tg_put (ci := 10) (ts := ty_MODEL) (v := .int p1) (ty := .int) (C := RX10) (T := TX10) (N := 49) hx hb hts inX10 tyX10 tyX10_ok nmX10 hown hK hw h_p0 rfl rfl 4 (by decide) (hts _ tw_1141) (fun _ h9 => h9) rfl (by decide +kernel) rfl rfl (ft := vI (-2147483648) 2147483647) rfl ⟨_, rfl, r_p1⟩ (by decide) dX10_begin_15 (fun ws H locs hw n_k_8 hF9 => ?_)
    have n_k_1 := FLD.over hF9 n_k_1 (by decide)
    have m_v_5 := FLD.over hF9 m_v_5 (by decide)
    have n_k_6 := FLD.over hF9 n_k_6 (by decide)
    have x_TLM_p0_0 := TLM.over hF9 x_TLM_p0_0 (by decide)
    obtain ⟨sg_9, q_sg_9⟩ : ∃ q9 : OS, sI sg_7 4 p1 = q9 := ⟨_, rfl⟩
    have o_p0 : OV vw_MODEL Ps ws p0 sg_9 := by rw [← q_sg_9]; exact OV.putI (V := vw_MODEL) hF9 n_k_8 o_p0 (by decide)
    refine lv_aload_n hx hb dX10_begin_18 rfl (lv_at hl 0 rfl) ?_
    refine lv_iconst (v := 0) hx hb dX10_begin_19 (by decide) ?_
    refine tg_put (ci := 10) (ts := ty_MODEL) (v := .int 0) (ty := .int) (C := RX10) (T := TX10) (N := 49) hx hb hts inX10 tyX10 tyX10_ok nmX10 hown hK hw h_p0 rfl rfl 10 (by decide) (hts _ tw_1147) (fun _ h9 => h9) rfl (by decide +kernel) rfl rfl (ft := vI (-2147483648) 2147483647) rfl ⟨_, rfl, (rl_0.to (by decide))⟩ (by decide) dX10_begin_20 (fun ws H locs hw n_k_10 hF9 => ?_)
    have n_k_1 := FLD.over hF9 n_k_1 (by decide)
    have m_v_5 := FLD.over hF9 m_v_5 (by decide)
    have n_k_6 := FLD.over hF9 n_k_6 (by decide)
    have n_k_8 := FLD.over hF9 n_k_8 (by decide)
    have x_TLM_p0_0 := TLM.over hF9 x_TLM_p0_0 (by decide)
    obtain ⟨sg_11, q_sg_11⟩ : ∃ q9 : OS, sI sg_9 10 (0 : Int32) = q9 := ⟨_, rfl⟩
    have o_p0 : OV vw_MODEL Ps ws p0 sg_11 := by rw [← q_sg_11]; exact OV.putI (V := vw_MODEL) hF9 n_k_10 o_p0 (by decide)
    refine lv_aload_n hx hb dX10_begin_23 rfl (lv_at hl 0 rfl) ?_
    refine lv_iconst (v := 0) hx hb dX10_begin_24 (by decide) ?_
    refine tg_put (ci := 10) (ts := ty_MODEL) (v := .int 0) (ty := .int) (C := RX10) (T := TX10) (N := 49) hx hb hts inX10 tyX10 tyX10_ok nmX10 hown hK hw h_p0 rfl rfl 5 (by decide) (hts _ tw_1142) (fun _ h9 => h9) rfl (by decide +kernel) rfl rfl (ft := vI 0 940) rfl ⟨_, rfl, (rl_0.to (by decide))⟩ (by decide) dX10_begin_25 (fun ws H locs hw n_k_12 hF9 => ?_)
    have n_k_1 := FLD.over hF9 n_k_1 (by decide)
    have m_v_5 := FLD.over hF9 m_v_5 (by decide)
    have n_k_6 := FLD.over hF9 n_k_6 (by decide)
    have n_k_8 := FLD.over hF9 n_k_8 (by decide)
    have n_k_10 := FLD.over hF9 n_k_10 (by decide)
    have x_TLM_p0_0 := TLM.over hF9 x_TLM_p0_0 (by decide)
    obtain ⟨sg_13, q_sg_13⟩ : ∃ q9 : OS, sI sg_11 5 (0 : Int32) = q9 := ⟨_, rfl⟩
    have o_p0 : OV vw_MODEL Ps ws p0 sg_13 := by rw [← q_sg_13]; exact OV.putI (V := vw_MODEL) hF9 n_k_12 o_p0 (by decide)
    refine lv_aload_n hx hb dX10_begin_28 rfl (lv_at hl 0 rfl) ?_
    refine tk_v (va_runV (As := []) (rest := []) ⟨hx, hb, hml, hown, hts⟩ (c_X10_go__3 l D cy z H.size Ps ws hw.1 p0 sg_13 h_p0 o_p0) (cwV 0 hts (gV tw_1298 tw_1300 ts_40 tw_15 tw_1301) rfl rfl rfl (by decide +kernel) ⟨Nat.le_of_ble_eq_true rfl, Nat.le_of_ble_eq_true rfl⟩) (tg_preV hw hK hSD hA (ci := 10) (q := (RX10, TX10, 49)) rfl h_p0 rfl) rfl rfl hl.1 rfl (lv_room (Nat.le_of_ble_eq_true rfl)) dX10_begin_29 ⟨Nat.le_of_ble_eq_true rfl, Nat.le_of_ble_eq_true rfl⟩) hw hA ⟨by decide, by decide⟩ (fun ws H locs hp_v_14 hw hF9 => ?_)
    have n_k_1 := FLD.over hF9 n_k_1 (by decide)
    have m_v_5 := FLD.over hF9 m_v_5 (by decide)
    have n_k_6 := FLD.over hF9 n_k_6 (by decide)
    have n_k_8 := FLD.over hF9 n_k_8 (by decide)
    have n_k_10 := FLD.over hF9 n_k_10 (by decide)
    have x_TLM_p0_0 := TLM.over hF9 x_TLM_p0_0 (by decide)
    obtain ⟨hfn, hp_v_14⟩ := hp_v_14
    obtain ⟨sg_15, q_sg_15⟩ : ∃ q9 : OS, (f_X10_go__2 sg_13) = q9 := ⟨_, rfl⟩
    have o_p0 : OV vw_MODEL Ps ws p0 sg_15 := by rw [← q_sg_15]; exact hfn.1
    simp only [f_X10_begin__4, ↓reduceIte, q_sg_2, q_sg_4, q_v_3, eq_true c9_v_3, q_sg_7, q_sg_9, q_sg_11, q_sg_13, q_sg_15] at hE
    subst hQ
    exact W.vret hx hb hr (fun t ht hW => ⟨⟨ws, rfl, ⟨⟨⟨(by rw [hR, ← hE]; exact o_p0), trivial⟩, ⟨⟨_, m_v_5, r_v_5⟩, x_TLM_p0_0, trivial⟩⟩, hw.1, hw.2.2.2.2.1⟩, by rw [ht]; exact hw.2.1, va_K.moved hW.alike hK, hw.2.2.1⟩, hw.2.2.2.1.F ht⟩) hw.2.2.2.1.2.2 dX10_begin_32
  · have r_v_3 : RI v_3 1 940 := rc_neL r_v_3 rl_0 (ti_ne c9_v_3) (by decide)
    obtain ⟨v_16, m_v_16, r_v_16⟩ := ((hp_v_3.2.2 c9_v_3).1)
    have x_TLM_p0_0 := ((hp_v_3.2.2 c9_v_3).2.1)
    refine tg_put (ci := 10) (ts := ty_MODEL) (v := .int v_3) (ty := .int) (C := RX10) (T := TX10) (N := 49) hx hb hts inX10 tyX10 tyX10_ok nmX10 hown hK hw h_p0 rfl rfl 3 (by decide) (hts _ tw_1140) (fun _ h9 => h9) rfl (by decide +kernel) rfl rfl (ft := vI 0 940) rfl ⟨_, rfl, (r_v_3.to (by decide))⟩ (by decide) dX10_begin_10 (fun ws H locs hw n_k_17 hF9 => ?_)
    have n_k_1 := FLD.over hF9 n_k_1 (by decide)
    have m_v_16 := FLD.over hF9 m_v_16 (by decide)
    have x_TLM_p0_0 := TLM.over hF9 x_TLM_p0_0 (by decide)
    obtain ⟨sg_18, q_sg_18⟩ : ∃ q9 : OS, sI sg_4 3 v_3 = q9 := ⟨_, rfl⟩
    have o_p0 : OV vw_MODEL Ps ws p0 sg_18 := by rw [← q_sg_18]; exact OV.putI (V := vw_MODEL) hF9 n_k_17 o_p0 (by decide)
    refine lv_aload_n hx hb dX10_begin_13 rfl (lv_at hl 0 rfl) ?_
    refine lv_iload_n hx hb dX10_begin_14 rfl (lv_at hl 1 rfl) ?_
    refine tg_put (ci := 10) (ts := ty_MODEL) (v := .int p1) (ty := .int) (C := RX10) (T := TX10) (N := 49) hx hb hts inX10 tyX10 tyX10_ok nmX10 hown hK hw h_p0 rfl rfl 4 (by decide) (hts _ tw_1141) (fun _ h9 => h9) rfl (by decide +kernel) rfl rfl (ft := vI (-2147483648) 2147483647) rfl ⟨_, rfl, r_p1⟩ (by decide) dX10_begin_15 (fun ws H locs hw n_k_19 hF9 => ?_)
    have n_k_1 := FLD.over hF9 n_k_1 (by decide)
    have m_v_16 := FLD.over hF9 m_v_16 (by decide)
    have n_k_17 := FLD.over hF9 n_k_17 (by decide)
    have x_TLM_p0_0 := TLM.over hF9 x_TLM_p0_0 (by decide)
    obtain ⟨sg_20, q_sg_20⟩ : ∃ q9 : OS, sI sg_18 4 p1 = q9 := ⟨_, rfl⟩
    have o_p0 : OV vw_MODEL Ps ws p0 sg_20 := by rw [← q_sg_20]; exact OV.putI (V := vw_MODEL) hF9 n_k_19 o_p0 (by decide)
    refine lv_aload_n hx hb dX10_begin_18 rfl (lv_at hl 0 rfl) ?_
    refine lv_iconst (v := 0) hx hb dX10_begin_19 (by decide) ?_
    refine tg_put (ci := 10) (ts := ty_MODEL) (v := .int 0) (ty := .int) (C := RX10) (T := TX10) (N := 49) hx hb hts inX10 tyX10 tyX10_ok nmX10 hown hK hw h_p0 rfl rfl 10 (by decide) (hts _ tw_1147) (fun _ h9 => h9) rfl (by decide +kernel) rfl rfl (ft := vI (-2147483648) 2147483647) rfl ⟨_, rfl, (rl_0.to (by decide))⟩ (by decide) dX10_begin_20 (fun ws H locs hw n_k_21 hF9 => ?_)
    have n_k_1 := FLD.over hF9 n_k_1 (by decide)
    have m_v_16 := FLD.over hF9 m_v_16 (by decide)
    have n_k_17 := FLD.over hF9 n_k_17 (by decide)
    have n_k_19 := FLD.over hF9 n_k_19 (by decide)
    have x_TLM_p0_0 := TLM.over hF9 x_TLM_p0_0 (by decide)
    obtain ⟨sg_22, q_sg_22⟩ : ∃ q9 : OS, sI sg_20 10 (0 : Int32) = q9 := ⟨_, rfl⟩
    have o_p0 : OV vw_MODEL Ps ws p0 sg_22 := by rw [← q_sg_22]; exact OV.putI (V := vw_MODEL) hF9 n_k_21 o_p0 (by decide)
    refine lv_aload_n hx hb dX10_begin_23 rfl (lv_at hl 0 rfl) ?_
    refine lv_iconst (v := 0) hx hb dX10_begin_24 (by decide) ?_
    refine tg_put (ci := 10) (ts := ty_MODEL) (v := .int 0) (ty := .int) (C := RX10) (T := TX10) (N := 49) hx hb hts inX10 tyX10 tyX10_ok nmX10 hown hK hw h_p0 rfl rfl 5 (by decide) (hts _ tw_1142) (fun _ h9 => h9) rfl (by decide +kernel) rfl rfl (ft := vI 0 940) rfl ⟨_, rfl, (rl_0.to (by decide))⟩ (by decide) dX10_begin_25 (fun ws H locs hw n_k_23 hF9 => ?_)
    have n_k_1 := FLD.over hF9 n_k_1 (by decide)
    have m_v_16 := FLD.over hF9 m_v_16 (by decide)
    have n_k_17 := FLD.over hF9 n_k_17 (by decide)
    have n_k_19 := FLD.over hF9 n_k_19 (by decide)
    have n_k_21 := FLD.over hF9 n_k_21 (by decide)
    have x_TLM_p0_0 := TLM.over hF9 x_TLM_p0_0 (by decide)
    obtain ⟨sg_24, q_sg_24⟩ : ∃ q9 : OS, sI sg_22 5 (0 : Int32) = q9 := ⟨_, rfl⟩
    have o_p0 : OV vw_MODEL Ps ws p0 sg_24 := by rw [← q_sg_24]; exact OV.putI (V := vw_MODEL) hF9 n_k_23 o_p0 (by decide)
    refine lv_aload_n hx hb dX10_begin_28 rfl (lv_at hl 0 rfl) ?_
    refine tk_v (va_runV (As := []) (rest := []) ⟨hx, hb, hml, hown, hts⟩ (c_X10_go__3 l D cy z H.size Ps ws hw.1 p0 sg_24 h_p0 o_p0) (cwV 0 hts (gV tw_1298 tw_1300 ts_40 tw_15 tw_1301) rfl rfl rfl (by decide +kernel) ⟨Nat.le_of_ble_eq_true rfl, Nat.le_of_ble_eq_true rfl⟩) (tg_preV hw hK hSD hA (ci := 10) (q := (RX10, TX10, 49)) rfl h_p0 rfl) rfl rfl hl.1 rfl (lv_room (Nat.le_of_ble_eq_true rfl)) dX10_begin_29 ⟨Nat.le_of_ble_eq_true rfl, Nat.le_of_ble_eq_true rfl⟩) hw hA ⟨by decide, by decide⟩ (fun ws H locs hp_v_25 hw hF9 => ?_)
    have n_k_1 := FLD.over hF9 n_k_1 (by decide)
    have m_v_16 := FLD.over hF9 m_v_16 (by decide)
    have n_k_17 := FLD.over hF9 n_k_17 (by decide)
    have n_k_19 := FLD.over hF9 n_k_19 (by decide)
    have n_k_21 := FLD.over hF9 n_k_21 (by decide)
    have x_TLM_p0_0 := TLM.over hF9 x_TLM_p0_0 (by decide)
    obtain ⟨hfn, hp_v_25⟩ := hp_v_25
    obtain ⟨sg_26, q_sg_26⟩ : ∃ q9 : OS, (f_X10_go__2 sg_24) = q9 := ⟨_, rfl⟩
    have o_p0 : OV vw_MODEL Ps ws p0 sg_26 := by rw [← q_sg_26]; exact hfn.1
    simp only [f_X10_begin__4, ↓reduceIte, q_sg_2, q_sg_4, q_v_3, eq_false c9_v_3, q_sg_18, q_sg_20, q_sg_22, q_sg_24, q_sg_26] at hE
    subst hQ
    exact W.vret hx hb hr (fun t ht hW => ⟨⟨ws, rfl, ⟨⟨⟨(by rw [hR, ← hE]; exact o_p0), trivial⟩, ⟨⟨_, m_v_16, r_v_16⟩, x_TLM_p0_0, trivial⟩⟩, hw.1, hw.2.2.2.2.1⟩, by rw [ht]; exact hw.2.1, va_K.moved hW.alike hK, hw.2.2.1⟩, hw.2.2.2.1.F ht⟩) hw.2.2.2.1.2.2 dX10_begin_32
abbrev wr_X10_begin__6 : List (Nat × Nat) := [(10, 0), (10, 2), (10, 3), (10, 4), (10, 5), (10, 6), (10, 7), (10, 8), (10, 9), (10, 10), (10, 12)]
abbrev wa_X10_begin__6 : List Nat := []
set_option maxHeartbeats 4000000 in
set_option maxRecDepth 100000 in
theorem c_X10_begin__6 (l : Launch) (D : va_G) (cy : Nat → ClassId) (z : Nat → Nat) (sz : Nat) (Ps : PSI) (w0 : va_W) (hT : HT cy GG Ps w0) (p0 : Nat) (p1 : Int32) (s0 : OS) (h_p0 : (p0, 55) ∈ Ps) (r_p1 : RI p1 900 900) (o_p0 : OV vw_MODEL Ps w0 p0 s0) : Met l yX10_begin (Cond.code yX10_begin cX10_begin 2 none :: gT) ({ frames := 3, cells := 0, slots := 0, locals := 600 } : Room) (va_Pc [.ref p0, .int p1] (PRE D cy z w0 sz)) (va_Qv (fun (u : va_W) => ((OV vw_MODEL Ps u p0 ((f_X10_begin__4 p1 s0)) ∧ True) ∧ ((∃ v9 : Int32, FLD u p0 10 2 (.int v9) ∧ RI v9 0 0) ∧ TLM u p0 (0) ∧ True)) ∧ HT cy GG Ps u ∧ FR wr_X10_begin__6 wa_X10_begin__6 Ps w0 u) (BB D cy (va_A w0 sz) (fun (u : va_W) => u)) (va_A w0 sz)) 0 0 (va_A w0 sz) := by
  refine Met.ofW (cc := cX10_begin) (maxL := 2) (ret := none) (by decide) rfl ?_
  intro p e s m args below meth c s₁ B hml hv
  obtain ⟨rfl, hsz, hP, hK, hD0, hSD⟩ := hv
  have hx := B.exec
  have hb := B.bytes
  have hr := B.returns
  have hlocks := B.notSynchronized
  have hts : ∀ w ∈ gT, w.before _ s = true := fun w h => atoms_spec (ws := Cond.code yX10_begin cX10_begin 2 none :: gT) B.pre w (List.mem_cons_of_mem _ h)
  have hown : s.vm.findClass RX10 = some m.cls := findClass_of_methodNamed B.named
  subst hsz
  have hD := hD0.self (sz := s.heap.size)
  generalize hAe : va_A w0 s.heap.size = A at hD hSD ⊢
  have hA : ∀ q : Nat, s.heap.size ≤ q → A q := fun q h => by rw [← hAe]; exact Or.inr h
  have hl := lv_entry ([.ref p0, .int p1]) (n := 2) (Nat.le_of_ble_eq_true rfl)
  rw [lg_entry_eq]
  generalize (lg_sl ([.ref p0, .int p1]) ++ List.replicate (2 - (lg_sl ([.ref p0, .int p1])).length) Slot.unset).toArray = ls at hl ⊢
  have hl : lv_has ls 2 [(0, .ref p0), (1, .int p1)] := hl
  refine nameQ (fun Q hQ => ?_)
  have hw : WD D cy GG A s wr_X10_begin__6 wa_X10_begin__6 Ps w0 Ps w0 s.heap [] := ⟨hT, hP, hD, va_S.rf, FR.rf, hT.1, [], (List.append_nil _).symm⟩
  obtain ⟨R9, hR⟩ : ∃ q9 : OS, f_X10_begin__4 p1 s0 = q9 := ⟨_, rfl⟩
  have hE := hR
  refine lv_aload_n hx hb dX10_begin_0 rfl (lv_at hl 0 rfl) ?_
  refine lv_iconst (v := 0) hx hb dX10_begin_1 (by decide) ?_
  refine tg_put (ci := 10) (ts := ty_MODEL) (v := .int 0) (ty := .int) (C := RX10) (T := TX10) (N := 49) hx hb hts inX10 tyX10 tyX10_ok nmX10 hown hK hw h_p0 rfl rfl 0 (by decide) (hts _ tw_1137) (fun _ h9 => h9) rfl (by decide +kernel) rfl rfl (ft := vI (-2147483648) 2147483647) rfl ⟨_, rfl, (rl_0.to (by decide))⟩ (by decide) dX10_begin_2 (fun ws H locs hw n_k_1 hF9 => ?_)
  obtain ⟨sg_2, q_sg_2⟩ : ∃ q9 : OS, sI s0 0 (0 : Int32) = q9 := ⟨_, rfl⟩
  have o_p0 : OV vw_MODEL Ps ws p0 sg_2 := by rw [← q_sg_2]; exact OV.putI (V := vw_MODEL) hF9 n_k_1 o_p0 (by decide)
  refine lv_aload_n hx hb dX10_begin_5 rfl (lv_at hl 0 rfl) ?_
  refine lv_aload_n hx hb dX10_begin_6 rfl (lv_at hl 0 rfl) ?_
  refine tk_i (va_runV (As := []) (rest := [.ref p0]) ⟨hx, hb, hml, hown, hts⟩ (c_X10_take__2 l D cy z H.size Ps ws hw.1 p0 sg_2 h_p0 o_p0) (cwV 0 hts (gV tw_1294 tw_1296 ts_39 tw_15 tw_1297) rfl rfl rfl (by decide +kernel) ⟨Nat.le_of_ble_eq_true rfl, Nat.le_of_ble_eq_true rfl⟩) (tg_preV hw hK hSD hA (ci := 10) (q := (RX10, TX10, 49)) rfl h_p0 rfl) rfl rfl hl.1 rfl (lv_room (Nat.le_of_ble_eq_true rfl)) dX10_begin_7 ⟨Nat.le_of_ble_eq_true rfl, Nat.le_of_ble_eq_true rfl⟩) hw hA ⟨by decide, by decide⟩ (fun v_3 ws H locs hp_v_3 hw hF9 => ?_)
  have n_k_1 := FLD.over hF9 n_k_1 (by decide)
  obtain ⟨hfn, hp_v_3⟩ := hp_v_3
  obtain ⟨sg_4, q_sg_4⟩ : ∃ q9 : OS, (f_X10_take__1 sg_2).1 = q9 := ⟨_, rfl⟩
  have o_p0 : OV vw_MODEL Ps ws p0 sg_4 := by rw [← q_sg_4]; exact hfn.1
  have q_v_3 : (f_X10_take__1 sg_2).2 = v_3 := hfn.2.1
  have r_v_3 : RI v_3 0 940 := hp_v_3.1
  by_cases c9_v_3 : v_3 = 0
  · have r_v_3 : RI v_3 0 0 := by rw [c9_v_3]; exact rl_0
    obtain ⟨v_5, m_v_5, r_v_5⟩ := ((hp_v_3.2.1 c9_v_3).1)
    have x_TLM_p0_0 := ((hp_v_3.2.1 c9_v_3).2.1)
    refine tg_put (ci := 10) (ts := ty_MODEL) (v := .int v_3) (ty := .int) (C := RX10) (T := TX10) (N := 49) hx hb hts inX10 tyX10 tyX10_ok nmX10 hown hK hw h_p0 rfl rfl 3 (by decide) (hts _ tw_1140) (fun _ h9 => h9) rfl (by decide +kernel) rfl rfl (ft := vI 0 940) rfl ⟨_, rfl, (r_v_3.to (by decide))⟩ (by decide) dX10_begin_10 (fun ws H locs hw n_k_6 hF9 => ?_)
    have n_k_1 := FLD.over hF9 n_k_1 (by decide)
    have m_v_5 := FLD.over hF9 m_v_5 (by decide)
    have x_TLM_p0_0 := TLM.over hF9 x_TLM_p0_0 (by decide)
    obtain ⟨sg_7, q_sg_7⟩ : ∃ q9 : OS, sI sg_4 3 v_3 = q9 := ⟨_, rfl⟩
    have o_p0 : OV vw_MODEL Ps ws p0 sg_7 := by rw [← q_sg_7]; exact OV.putI (V := vw_MODEL) hF9 n_k_6 o_p0 (by decide)
    refine lv_aload_n hx hb dX10_begin_13 rfl (lv_at hl 0 rfl) ?_
    refine lv_iload_n hx hb dX10_begin_14 rfl (lv_at hl 1 rfl) ?_
    refine tg_put (ci := 10) (ts := ty_MODEL) (v := .int p1) (ty := .int) (C := RX10) (T := TX10) (N := 49) hx hb hts inX10 tyX10 tyX10_ok nmX10 hown hK hw h_p0 rfl rfl 4 (by decide) (hts _ tw_1141) (fun _ h9 => h9) rfl (by decide +kernel) rfl rfl (ft := vI (-2147483648) 2147483647) rfl ⟨_, rfl, (r_p1.to (by decide))⟩ (by decide) dX10_begin_15 (fun ws H locs hw n_k_8 hF9 => ?_)
    have n_k_1 := FLD.over hF9 n_k_1 (by decide)
    have m_v_5 := FLD.over hF9 m_v_5 (by decide)
    have n_k_6 := FLD.over hF9 n_k_6 (by decide)
    have x_TLM_p0_0 := TLM.over hF9 x_TLM_p0_0 (by decide)
    obtain ⟨sg_9, q_sg_9⟩ : ∃ q9 : OS, sI sg_7 4 p1 = q9 := ⟨_, rfl⟩
    have o_p0 : OV vw_MODEL Ps ws p0 sg_9 := by rw [← q_sg_9]; exact OV.putI (V := vw_MODEL) hF9 n_k_8 o_p0 (by decide)
    refine lv_aload_n hx hb dX10_begin_18 rfl (lv_at hl 0 rfl) ?_
    refine lv_iconst (v := 0) hx hb dX10_begin_19 (by decide) ?_
    refine tg_put (ci := 10) (ts := ty_MODEL) (v := .int 0) (ty := .int) (C := RX10) (T := TX10) (N := 49) hx hb hts inX10 tyX10 tyX10_ok nmX10 hown hK hw h_p0 rfl rfl 10 (by decide) (hts _ tw_1147) (fun _ h9 => h9) rfl (by decide +kernel) rfl rfl (ft := vI (-2147483648) 2147483647) rfl ⟨_, rfl, (rl_0.to (by decide))⟩ (by decide) dX10_begin_20 (fun ws H locs hw n_k_10 hF9 => ?_)
    have n_k_1 := FLD.over hF9 n_k_1 (by decide)
    have m_v_5 := FLD.over hF9 m_v_5 (by decide)
    have n_k_6 := FLD.over hF9 n_k_6 (by decide)
    have n_k_8 := FLD.over hF9 n_k_8 (by decide)
    have x_TLM_p0_0 := TLM.over hF9 x_TLM_p0_0 (by decide)
    obtain ⟨sg_11, q_sg_11⟩ : ∃ q9 : OS, sI sg_9 10 (0 : Int32) = q9 := ⟨_, rfl⟩
    have o_p0 : OV vw_MODEL Ps ws p0 sg_11 := by rw [← q_sg_11]; exact OV.putI (V := vw_MODEL) hF9 n_k_10 o_p0 (by decide)
    refine lv_aload_n hx hb dX10_begin_23 rfl (lv_at hl 0 rfl) ?_
    refine lv_iconst (v := 0) hx hb dX10_begin_24 (by decide) ?_
    refine tg_put (ci := 10) (ts := ty_MODEL) (v := .int 0) (ty := .int) (C := RX10) (T := TX10) (N := 49) hx hb hts inX10 tyX10 tyX10_ok nmX10 hown hK hw h_p0 rfl rfl 5 (by decide) (hts _ tw_1142) (fun _ h9 => h9) rfl (by decide +kernel) rfl rfl (ft := vI 0 940) rfl ⟨_, rfl, (rl_0.to (by decide))⟩ (by decide) dX10_begin_25 (fun ws H locs hw n_k_12 hF9 => ?_)
    have n_k_1 := FLD.over hF9 n_k_1 (by decide)
    have m_v_5 := FLD.over hF9 m_v_5 (by decide)
    have n_k_6 := FLD.over hF9 n_k_6 (by decide)
    have n_k_8 := FLD.over hF9 n_k_8 (by decide)
    have n_k_10 := FLD.over hF9 n_k_10 (by decide)
    have x_TLM_p0_0 := TLM.over hF9 x_TLM_p0_0 (by decide)
    obtain ⟨sg_13, q_sg_13⟩ : ∃ q9 : OS, sI sg_11 5 (0 : Int32) = q9 := ⟨_, rfl⟩
    have o_p0 : OV vw_MODEL Ps ws p0 sg_13 := by rw [← q_sg_13]; exact OV.putI (V := vw_MODEL) hF9 n_k_12 o_p0 (by decide)
    refine lv_aload_n hx hb dX10_begin_28 rfl (lv_at hl 0 rfl) ?_
    refine tk_v (va_runV (As := []) (rest := []) ⟨hx, hb, hml, hown, hts⟩ (c_X10_go__3 l D cy z H.size Ps ws hw.1 p0 sg_13 h_p0 o_p0) (cwV 0 hts (gV tw_1298 tw_1300 ts_40 tw_15 tw_1301) rfl rfl rfl (by decide +kernel) ⟨Nat.le_of_ble_eq_true rfl, Nat.le_of_ble_eq_true rfl⟩) (tg_preV hw hK hSD hA (ci := 10) (q := (RX10, TX10, 49)) rfl h_p0 rfl) rfl rfl hl.1 rfl (lv_room (Nat.le_of_ble_eq_true rfl)) dX10_begin_29 ⟨Nat.le_of_ble_eq_true rfl, Nat.le_of_ble_eq_true rfl⟩) hw hA ⟨by decide, by decide⟩ (fun ws H locs hp_v_14 hw hF9 => ?_)
    have n_k_1 := FLD.over hF9 n_k_1 (by decide)
    have m_v_5 := FLD.over hF9 m_v_5 (by decide)
    have n_k_6 := FLD.over hF9 n_k_6 (by decide)
    have n_k_8 := FLD.over hF9 n_k_8 (by decide)
    have n_k_10 := FLD.over hF9 n_k_10 (by decide)
    have x_TLM_p0_0 := TLM.over hF9 x_TLM_p0_0 (by decide)
    obtain ⟨hfn, hp_v_14⟩ := hp_v_14
    obtain ⟨sg_15, q_sg_15⟩ : ∃ q9 : OS, (f_X10_go__2 sg_13) = q9 := ⟨_, rfl⟩
    have o_p0 : OV vw_MODEL Ps ws p0 sg_15 := by rw [← q_sg_15]; exact hfn.1
    simp only [f_X10_begin__4, ↓reduceIte, q_sg_2, q_sg_4, q_v_3, eq_true c9_v_3, q_sg_7, q_sg_9, q_sg_11, q_sg_13, q_sg_15] at hE
    subst hQ
    exact W.vret hx hb hr (fun t ht hW => ⟨⟨ws, rfl, ⟨⟨⟨(by rw [hR, ← hE]; exact o_p0), trivial⟩, ⟨⟨_, m_v_5, r_v_5⟩, x_TLM_p0_0, trivial⟩⟩, hw.1, hw.2.2.2.2.1⟩, by rw [ht]; exact hw.2.1, va_K.moved hW.alike hK, hw.2.2.1⟩, hw.2.2.2.1.F ht⟩) hw.2.2.2.1.2.2 dX10_begin_32
  · have r_v_3 : RI v_3 1 940 := rc_neL r_v_3 rl_0 (ti_ne c9_v_3) (by decide)
    obtain ⟨v_16, m_v_16, r_v_16⟩ := ((hp_v_3.2.2 c9_v_3).1)
    have x_TLM_p0_0 := ((hp_v_3.2.2 c9_v_3).2.1)
    refine tg_put (ci := 10) (ts := ty_MODEL) (v := .int v_3) (ty := .int) (C := RX10) (T := TX10) (N := 49) hx hb hts inX10 tyX10 tyX10_ok nmX10 hown hK hw h_p0 rfl rfl 3 (by decide) (hts _ tw_1140) (fun _ h9 => h9) rfl (by decide +kernel) rfl rfl (ft := vI 0 940) rfl ⟨_, rfl, (r_v_3.to (by decide))⟩ (by decide) dX10_begin_10 (fun ws H locs hw n_k_17 hF9 => ?_)
    have n_k_1 := FLD.over hF9 n_k_1 (by decide)
    have m_v_16 := FLD.over hF9 m_v_16 (by decide)
    have x_TLM_p0_0 := TLM.over hF9 x_TLM_p0_0 (by decide)
    obtain ⟨sg_18, q_sg_18⟩ : ∃ q9 : OS, sI sg_4 3 v_3 = q9 := ⟨_, rfl⟩
    have o_p0 : OV vw_MODEL Ps ws p0 sg_18 := by rw [← q_sg_18]; exact OV.putI (V := vw_MODEL) hF9 n_k_17 o_p0 (by decide)
    refine lv_aload_n hx hb dX10_begin_13 rfl (lv_at hl 0 rfl) ?_
    refine lv_iload_n hx hb dX10_begin_14 rfl (lv_at hl 1 rfl) ?_
    refine tg_put (ci := 10) (ts := ty_MODEL) (v := .int p1) (ty := .int) (C := RX10) (T := TX10) (N := 49) hx hb hts inX10 tyX10 tyX10_ok nmX10 hown hK hw h_p0 rfl rfl 4 (by decide) (hts _ tw_1141) (fun _ h9 => h9) rfl (by decide +kernel) rfl rfl (ft := vI (-2147483648) 2147483647) rfl ⟨_, rfl, (r_p1.to (by decide))⟩ (by decide) dX10_begin_15 (fun ws H locs hw n_k_19 hF9 => ?_)
    have n_k_1 := FLD.over hF9 n_k_1 (by decide)
    have m_v_16 := FLD.over hF9 m_v_16 (by decide)
    have n_k_17 := FLD.over hF9 n_k_17 (by decide)
    have x_TLM_p0_0 := TLM.over hF9 x_TLM_p0_0 (by decide)
    obtain ⟨sg_20, q_sg_20⟩ : ∃ q9 : OS, sI sg_18 4 p1 = q9 := ⟨_, rfl⟩
    have o_p0 : OV vw_MODEL Ps ws p0 sg_20 := by rw [← q_sg_20]; exact OV.putI (V := vw_MODEL) hF9 n_k_19 o_p0 (by decide)
    refine lv_aload_n hx hb dX10_begin_18 rfl (lv_at hl 0 rfl) ?_
    refine lv_iconst (v := 0) hx hb dX10_begin_19 (by decide) ?_
    refine tg_put (ci := 10) (ts := ty_MODEL) (v := .int 0) (ty := .int) (C := RX10) (T := TX10) (N := 49) hx hb hts inX10 tyX10 tyX10_ok nmX10 hown hK hw h_p0 rfl rfl 10 (by decide) (hts _ tw_1147) (fun _ h9 => h9) rfl (by decide +kernel) rfl rfl (ft := vI (-2147483648) 2147483647) rfl ⟨_, rfl, (rl_0.to (by decide))⟩ (by decide) dX10_begin_20 (fun ws H locs hw n_k_21 hF9 => ?_)
    have n_k_1 := FLD.over hF9 n_k_1 (by decide)
    have m_v_16 := FLD.over hF9 m_v_16 (by decide)
    have n_k_17 := FLD.over hF9 n_k_17 (by decide)
    have n_k_19 := FLD.over hF9 n_k_19 (by decide)
    have x_TLM_p0_0 := TLM.over hF9 x_TLM_p0_0 (by decide)
    obtain ⟨sg_22, q_sg_22⟩ : ∃ q9 : OS, sI sg_20 10 (0 : Int32) = q9 := ⟨_, rfl⟩
    have o_p0 : OV vw_MODEL Ps ws p0 sg_22 := by rw [← q_sg_22]; exact OV.putI (V := vw_MODEL) hF9 n_k_21 o_p0 (by decide)
    refine lv_aload_n hx hb dX10_begin_23 rfl (lv_at hl 0 rfl) ?_
    refine lv_iconst (v := 0) hx hb dX10_begin_24 (by decide) ?_
    refine tg_put (ci := 10) (ts := ty_MODEL) (v := .int 0) (ty := .int) (C := RX10) (T := TX10) (N := 49) hx hb hts inX10 tyX10 tyX10_ok nmX10 hown hK hw h_p0 rfl rfl 5 (by decide) (hts _ tw_1142) (fun _ h9 => h9) rfl (by decide +kernel) rfl rfl (ft := vI 0 940) rfl ⟨_, rfl, (rl_0.to (by decide))⟩ (by decide) dX10_begin_25 (fun ws H locs hw n_k_23 hF9 => ?_)
    have n_k_1 := FLD.over hF9 n_k_1 (by decide)
    have m_v_16 := FLD.over hF9 m_v_16 (by decide)
    have n_k_17 := FLD.over hF9 n_k_17 (by decide)
    have n_k_19 := FLD.over hF9 n_k_19 (by decide)
    have n_k_21 := FLD.over hF9 n_k_21 (by decide)
    have x_TLM_p0_0 := TLM.over hF9 x_TLM_p0_0 (by decide)
    obtain ⟨sg_24, q_sg_24⟩ : ∃ q9 : OS, sI sg_22 5 (0 : Int32) = q9 := ⟨_, rfl⟩
    have o_p0 : OV vw_MODEL Ps ws p0 sg_24 := by rw [← q_sg_24]; exact OV.putI (V := vw_MODEL) hF9 n_k_23 o_p0 (by decide)
    refine lv_aload_n hx hb dX10_begin_28 rfl (lv_at hl 0 rfl) ?_
    refine tk_v (va_runV (As := []) (rest := []) ⟨hx, hb, hml, hown, hts⟩ (c_X10_go__3 l D cy z H.size Ps ws hw.1 p0 sg_24 h_p0 o_p0) (cwV 0 hts (gV tw_1298 tw_1300 ts_40 tw_15 tw_1301) rfl rfl rfl (by decide +kernel) ⟨Nat.le_of_ble_eq_true rfl, Nat.le_of_ble_eq_true rfl⟩) (tg_preV hw hK hSD hA (ci := 10) (q := (RX10, TX10, 49)) rfl h_p0 rfl) rfl rfl hl.1 rfl (lv_room (Nat.le_of_ble_eq_true rfl)) dX10_begin_29 ⟨Nat.le_of_ble_eq_true rfl, Nat.le_of_ble_eq_true rfl⟩) hw hA ⟨by decide, by decide⟩ (fun ws H locs hp_v_25 hw hF9 => ?_)
    have n_k_1 := FLD.over hF9 n_k_1 (by decide)
    have m_v_16 := FLD.over hF9 m_v_16 (by decide)
    have n_k_17 := FLD.over hF9 n_k_17 (by decide)
    have n_k_19 := FLD.over hF9 n_k_19 (by decide)
    have n_k_21 := FLD.over hF9 n_k_21 (by decide)
    have x_TLM_p0_0 := TLM.over hF9 x_TLM_p0_0 (by decide)
    obtain ⟨hfn, hp_v_25⟩ := hp_v_25
    obtain ⟨sg_26, q_sg_26⟩ : ∃ q9 : OS, (f_X10_go__2 sg_24) = q9 := ⟨_, rfl⟩
    have o_p0 : OV vw_MODEL Ps ws p0 sg_26 := by rw [← q_sg_26]; exact hfn.1
    simp only [f_X10_begin__4, ↓reduceIte, q_sg_2, q_sg_4, q_v_3, eq_false c9_v_3, q_sg_18, q_sg_20, q_sg_22, q_sg_24, q_sg_26] at hE
    subst hQ
    exact W.vret hx hb hr (fun t ht hW => ⟨⟨ws, rfl, ⟨⟨⟨(by rw [hR, ← hE]; exact o_p0), trivial⟩, ⟨⟨_, m_v_16, r_v_16⟩, x_TLM_p0_0, trivial⟩⟩, hw.1, hw.2.2.2.2.1⟩, by rw [ht]; exact hw.2.1, va_K.moved hW.alike hK, hw.2.2.1⟩, hw.2.2.2.1.F ht⟩) hw.2.2.2.1.2.2 dX10_begin_32
abbrev wr_X10_post__2 : List (Nat × Nat) := [(10, 0), (10, 2), (10, 3), (10, 4), (10, 5), (10, 6), (10, 7), (10, 8), (10, 9), (10, 10), (10, 11), (10, 12), (10, 13), (10, 25)]
abbrev wa_X10_post__2 : List Nat := [34, 35, 41, 42, 45]
set_option maxHeartbeats 4000000 in
set_option maxRecDepth 100000 in
theorem c_X10_post__2 (l : Launch) (D : va_G) (cy : Nat → ClassId) (z : Nat → Nat) (sz : Nat) (Ps : PSI) (w0 : va_W) (hT : HT cy GG Ps w0) (p0 : Nat) (s0 : OS) (h_p0 : (p0, 55) ∈ Ps) (o_p0 : OV vw_MODEL Ps w0 p0 s0) : Met l yX10_post (Cond.code yX10_post cX10_post 3 (some .int) :: gT) ({ frames := 9, cells := 0, slots := 0, locals := 1800 } : Room) (va_Pc [.ref p0] (PRE D cy z w0 sz)) (va_Qi (fun (r : Int32) (u : va_W) => ((OV vw_MODEL Ps u p0 ((f_X10_post__1 s0).1) ∧ (f_X10_post__1 s0).2 = r ∧ True) ∧ (RI r (-2147483648) 2147483647 ∧ (r = 0 → True) ∧ (¬ r = 0 → True) ∧ (TLM u p0 (0) ∧ True) ∧ (r.toInt < 0 → True) ∧ (0 ≤ r.toInt → True))) ∧ HT cy GG Ps u ∧ FR wr_X10_post__2 wa_X10_post__2 Ps w0 u) (BB D cy (va_A w0 sz) (fun (u : va_W) => u)) (va_A w0 sz)) 0 0 (va_A w0 sz) := by
  refine Met.ofW (cc := cX10_post) (maxL := 3) (ret := (some .int)) (by decide) rfl ?_
  intro p e s m args below meth c s₁ B hml hv
  obtain ⟨rfl, hsz, hP, hK, hD0, hSD⟩ := hv
  have hx := B.exec
  have hb := B.bytes
  have hr := B.returns
  have hlocks := B.notSynchronized
  have hts : ∀ w ∈ gT, w.before _ s = true := fun w h => atoms_spec (ws := Cond.code yX10_post cX10_post 3 (some .int) :: gT) B.pre w (List.mem_cons_of_mem _ h)
  have hown : s.vm.findClass RX10 = some m.cls := findClass_of_methodNamed B.named
  subst hsz
  have hD := hD0.self (sz := s.heap.size)
  generalize hAe : va_A w0 s.heap.size = A at hD hSD ⊢
  have hA : ∀ q : Nat, s.heap.size ≤ q → A q := fun q h => by rw [← hAe]; exact Or.inr h
  have hl := lv_entry ([.ref p0]) (n := 3) (Nat.le_of_ble_eq_true rfl)
  rw [lg_entry_eq]
  generalize (lg_sl ([.ref p0]) ++ List.replicate (3 - (lg_sl ([.ref p0])).length) Slot.unset).toArray = ls at hl ⊢
  have hl : lv_has ls 3 [(0, .ref p0)] := hl
  refine nameQ (fun Q hQ => ?_)
  have hw : WD D cy GG A s wr_X10_post__2 wa_X10_post__2 Ps w0 Ps w0 s.heap [] := ⟨hT, hP, hD, va_S.rf, FR.rf, hT.1, [], (List.append_nil _).symm⟩
  obtain ⟨R9, hR⟩ : ∃ q9 : OS × Int32, f_X10_post__1 s0 = q9 := ⟨_, rfl⟩
  have hE := hR
  have B113 : ∀ (nf : Nat) (x1 : Int32) (x2 : Int32) (z0_2 : Int32) (z0_7 : Int32) (s0 : OS) (ws : va_W) (H : Heap) (locs : List Loc) (ls : Array Slot), 24 - x2.toInt < (nf : Int) → RI x1 (-2147483648) 2147483647 → RI x2 0 24 → RI z0_2 0 0 → FLD ws p0 10 2 (.int z0_2) → RI z0_7 0 0 → FLD ws p0 10 7 (.int z0_7) → AX 15 35 (fun f => RH2p f) Ps ws p0 → TLM ws p0 (0) → OV vw_MODEL Ps ws p0 s0 → f_X10_post__1_113 nf x1 x2 s0 = R9 → WD D cy GG A s wr_X10_post__2 wa_X10_post__2 Ps w0 Ps ws H locs → lv_has ls 3 [(0, .ref p0), (1, .int x1), (2, .int x2)] → W p l e (headSpec (Cond.code yX10_post cX10_post 3 (some .int) :: gT) ({ frames := 9, cells := 0, slots := 0, locals := 1800 } : Room)).room s m ([.ref p0] : List Value).toArray below meth c H locs 0 0 Q (F0 m 113 ls []) := by
    intro nf113
    induction nf113 with
    | zero =>
      intro x1 x2 z0_2 z0_7 s0 ws H locs ls hn113 r_x1 r_x2 r_z0_2 m_z0_2 r_z0_7 m_z0_7 x_RH_p0 x_TLM_p0_0 o_p0 hE hw hl
      exact absurd hn113 (by have q0 := r_x2.1; have u0 := r_x2.2; omega)
    | succ nf113 ih113 =>
      intro x1 x2 z0_2 z0_7 s0 ws H locs ls hn113 r_x1 r_x2 r_z0_2 m_z0_2 r_z0_7 m_z0_7 x_RH_p0 x_TLM_p0_0 o_p0 hE hw hl
      have q_z0_2 : s0.1 2 = z0_2 := OV.eqI (V := vw_MODEL) hw.2.2.1 o_p0 m_z0_2 (by decide)
      have q_z0_7 : s0.1 7 = z0_7 := OV.eqI (V := vw_MODEL) hw.2.2.1 o_p0 m_z0_7 (by decide)
      refine lv_iload_n hx hb dX10_post_113 rfl (lv_at hl 2 rfl) ?_
      refine lv_bipush (v := 24) hx hb dX10_post_114 (by decide) ?_
      refine lv_icmp_ge (tgt := 137) hx hb dX10_post_116 (by decide) (fun c_116 => ?_) (fun c_116 => ?_)
      · have r_x2 : RI x2 24 24 := rc_le2 rl_24 r_x2 (ti_le c_116) (by decide)
        refine lv_aload_n hx hb dX10_post_137 rfl (lv_at hl 0 rfl) ?_
        refine tk_v (va_runV (As := []) (rest := []) ⟨hx, hb, hml, hown, hts⟩ (c_X10_startSo l D cy z H.size Ps ws hw.1 p0 h_p0) (cwV 0 hts (gV tw_1417 tw_1419 ts_64 tw_15 tw_1420) rfl rfl rfl (by decide +kernel) ⟨Nat.le_of_ble_eq_true rfl, Nat.le_of_ble_eq_true rfl⟩) (tg_preV hw hK hSD hA (ci := 10) (q := (RX10, TX10, 49)) rfl h_p0 rfl) rfl rfl hl.1 rfl (lv_room (Nat.le_of_ble_eq_true rfl)) dX10_post_138 ⟨Nat.le_of_ble_eq_true rfl, Nat.le_of_ble_eq_true rfl⟩) hw hA ⟨by decide, by decide⟩ (fun ws H locs hp_v_1 hw hF9 => ?_)
        have m_z0_2 := FLD.over hF9 m_z0_2 (by decide)
        have m_z0_7 := FLD.over hF9 m_z0_7 (by decide)
        have x_RH_p0 := AX.over hF9 x_RH_p0 (by decide)
        have x_TLM_p0_0 := TLM.over hF9 x_TLM_p0_0 (by decide)
        have o_p0 := OV.over (V := vw_MODEL) hF9 o_p0 (by decide)
        refine lv_aload_n hx hb dX10_post_141 rfl (lv_at hl 0 rfl) ?_
        refine lv_iconst (v := 0) hx hb dX10_post_142 (by decide) ?_
        refine tg_put (ci := 10) (ts := ty_MODEL) (v := .int 0) (ty := .int) (C := RX10) (T := TX10) (N := 49) hx hb hts inX10 tyX10 tyX10_ok nmX10 hown hK hw h_p0 rfl rfl 25 (by decide) (hts _ tw_1162) (fun _ h9 => h9) rfl (by decide +kernel) rfl rfl (ft := vI 0 8) rfl ⟨_, rfl, (rl_0.to (by decide))⟩ (by decide) dX10_post_143 (fun ws H locs hw n_k_2 hF9 => ?_)
        have m_z0_2 := FLD.over hF9 m_z0_2 (by decide)
        have m_z0_7 := FLD.over hF9 m_z0_7 (by decide)
        have x_RH_p0 := AX.over hF9 x_RH_p0 (by decide)
        have x_TLM_p0_0 := TLM.over hF9 x_TLM_p0_0 (by decide)
        obtain ⟨sg_3, q_sg_3⟩ : ∃ q9 : OS, sI s0 25 (0 : Int32) = q9 := ⟨_, rfl⟩
        have o_p0 : OV vw_MODEL Ps ws p0 sg_3 := by rw [← q_sg_3]; exact OV.putI (V := vw_MODEL) hF9 n_k_2 o_p0 (by decide)
        refine lv_iload_n hx hb dX10_post_146 rfl (lv_at hl 1 rfl) ?_
        simp only [f_X10_post__1_113, ↓reduceIte, q_z0_2, q_z0_7, eq_true c_116, q_sg_3] at hE
        subst hQ
        exact W.iret (v := x1) hx hb hr (fun t ht hW => ⟨⟨x1, ws, rfl, ⟨⟨⟨(by rw [hR, ← hE]; exact o_p0), (by rw [hR, ← hE]), trivial⟩, r_x1.to (by decide), (fun h0 => trivial), (fun h0 => trivial), ⟨x_TLM_p0_0, trivial⟩, (fun _ => trivial), (fun _ => trivial)⟩, hw.1, hw.2.2.2.2.1⟩, by rw [ht]; exact hw.2.1, va_K.moved hW.alike hK, hw.2.2.1⟩, hw.2.2.2.1.F ht⟩) hw.2.2.2.1.2.2 dX10_post_147
      · have r_x2 : RI x2 0 23 := rc_lt1 r_x2 rl_24 (ti_nle c_116) (by decide)
        refine lv_aload_n hx hb dX10_post_119 rfl (lv_at hl 0 rfl) ?_
        refine tg_get (ci := 10) (ts := ty_MODEL) (C := RX10) (T := TX10) (N := 49) hx hb hts inX10 hown hK hw h_p0 rfl rfl 20 (by decide) (hts _ tw_1157) (fun _ h9 => h9) (ft := vR 41) rfl dX10_post_120 (fun u_4 hv_u_4 m_u_4 => ?_)
        obtain ⟨vu_4, rfl, h_vu_4⟩ := hv_u_4
        refine lv_iload_n hx hb dX10_post_123 rfl (lv_at hl 2 rfl) ?_
        refine lv_aload_n hx hb dX10_post_124 rfl (lv_at hl 0 rfl) ?_
        refine tg_get (ci := 10) (ts := ty_MODEL) (C := RX10) (T := TX10) (N := 49) hx hb hts inX10 hown hK hw h_p0 rfl rfl 21 (by decide) (hts _ tw_1158) (fun _ h9 => h9) (ft := vR 42) rfl dX10_post_125 (fun u_5 hv_u_5 m_u_5 => ?_)
        obtain ⟨vu_5, rfl, h_vu_5⟩ := hv_u_5
        refine lv_iload_n hx hb dX10_post_128 rfl (lv_at hl 2 rfl) ?_
        refine tg_laldE hx hb hK hw h_vu_5 rfl r_x2 (by decide) dX10_post_129 (fun w_6 r_w_6 l_w_6 => ?_)
        have q_w_6 : s0.2.2.2 21 (Int32.toNatClampNeg x2) = w_6 := OV.eqB (V := vw_MODEL) (t := 42) hw.2.2.1 o_p0 m_u_5 l_w_6 (by decide)
        refine tg_lastE hx hb hK hw h_vu_4 rfl r_x2 (by decide) r_w_6 (by decide) (by decide) dX10_post_130 (fun ws H locs hw hF9 hU9 => ?_)
        have x_RH_p0 := AX.over hF9 x_RH_p0 (by decide)
        have x_TLM_p0_0 := TLM.over hF9 x_TLM_p0_0 (by decide)
        have m_z0_2 := FLD.over hF9 m_z0_2 (by decide)
        have m_z0_7 := FLD.over hF9 m_z0_7 (by decide)
        have m_u_4 := FLD.over hF9 m_u_4 (by decide)
        have m_u_5 := FLD.over hF9 m_u_5 (by decide)
        have o_p0 := OV.over (V := vw_MODEL) hF9 o_p0 (by decide)
        obtain ⟨v_7, e_v_7⟩ : ∃ q9 : Int32, q9 = x2 + Int32.ofInt 1 := ⟨_, rfl⟩
        obtain ⟨t_v_7, r_v_7⟩ := tq_add (lo := 1) (hi := 24) r_x2 (show RI (Int32.ofInt 1) 1 1 by unfold RI; decide +kernel) (by decide +kernel) e_v_7
        have t_v_7 : v_7.toInt = x2.toInt + 1 := t_v_7
        refine lv_iinc (v := v_7) (lv' := [(2, .int v_7), (0, .ref p0), (1, .int x1)]) hx hb dX10_post_131 hl (k := 2) rfl e_v_7.symm (by decide) rfl (fun ls hl => ?_)
        have q_v_7 : x2 + (1 : Int32) = v_7 := by rw [e_v_7, show Int32.ofInt 1 = (1 : Int32) by decide]
        refine lv_goto (tgt := 113) hx hb dX10_post_134 (by decide) ?_
        simp only [f_X10_post__1_113, ↓reduceIte, q_z0_2, q_z0_7, eq_false c_116, q_w_6, q_v_7] at hE
        exact ih113 x1 v_7 z0_2 z0_7 s0 ws _ _ ls (by have q0 := r_v_7.1; have u0 := r_v_7.2; have o0 := r_x2.1; have p0 := r_x2.2; omega) r_x1 (r_v_7.to (by decide)) r_z0_2 m_z0_2 r_z0_7 m_z0_7 x_RH_p0 x_TLM_p0_0 o_p0 hE hw (lv_sub hl [1, 2, 0] rfl)
  have B87 : ∀ (nf : Nat) (x1 : Int32) (x2 : Int32) (z0_2 : Int32) (z0_7 : Int32) (za14 : Nat) (za15 : Nat) (s0 : OS) (ws : va_W) (H : Heap) (locs : List Loc) (ls : Array Slot), 84 - x2.toInt < (nf : Int) → RI x1 (-2147483648) 2147483647 → RI x2 0 84 → RI z0_2 0 0 → FLD ws p0 10 2 (.int z0_2) → RI z0_7 0 0 → FLD ws p0 10 7 (.int z0_7) → AX 15 35 (fun f => RH2p f) Ps ws p0 → TLM ws p0 (0) → (za14, 34) ∈ Ps → FLD ws p0 10 14 (.ref za14) → (za15, 35) ∈ Ps → FLD ws p0 10 15 (.ref za15) → AX2 14 34 15 35 (fun f g => CRp x2 f g) Ps ws p0 → OV vw_MODEL Ps ws p0 s0 → f_X10_post__1_87 nf x1 x2 s0 = R9 → WD D cy (GX za14) A s wr_X10_post__2 wa_X10_post__2 Ps w0 Ps ws H locs → lv_has ls 3 [(0, .ref p0), (1, .int x1), (2, .int x2)] → W p l e (headSpec (Cond.code yX10_post cX10_post 3 (some .int) :: gT) ({ frames := 9, cells := 0, slots := 0, locals := 1800 } : Room)).room s m ([.ref p0] : List Value).toArray below meth c H locs 0 0 Q (F0 m 87 ls []) := by
    intro nf87
    induction nf87 with
    | zero =>
      intro x1 x2 z0_2 z0_7 za14 za15 s0 ws H locs ls hn87 r_x1 r_x2 r_z0_2 m_z0_2 r_z0_7 m_z0_7 x_RH_p0 x_TLM_p0_0 h_za14 m_za14 h_za15 m_za15 x_CPR_p0__2 o_p0 hE hw hl
      exact absurd hn87 (by have q0 := r_x2.1; have u0 := r_x2.2; omega)
    | succ nf87 ih87 =>
      intro x1 x2 z0_2 z0_7 za14 za15 s0 ws H locs ls hn87 r_x1 r_x2 r_z0_2 m_z0_2 r_z0_7 m_z0_7 x_RH_p0 x_TLM_p0_0 h_za14 m_za14 h_za15 m_za15 x_CPR_p0__2 o_p0 hE hw hl
      have q_z0_2 : s0.1 2 = z0_2 := OV.eqI (V := vw_MODEL) hw.2.2.1 o_p0 m_z0_2 (by decide)
      have q_z0_7 : s0.1 7 = z0_7 := OV.eqI (V := vw_MODEL) hw.2.2.1 o_p0 m_z0_7 (by decide)
      refine lv_iload_n hx hb dX10_post_87 rfl (lv_at hl 2 rfl) ?_
      refine lv_bipush (v := 84) hx hb dX10_post_88 (by decide) ?_
      refine lv_icmp_ge (tgt := 111) hx hb dX10_post_90 (by decide) (fun c_90 => ?_) (fun c_90 => ?_)
      · have r_x2 : RI x2 84 84 := rc_le2 rl_84 r_x2 (ti_le c_90) (by decide)
        have hw := WD.back hw h_za14 rfl (fun f9 q9 => by obtain ⟨g9, e9⟩ := AX2.arr hw x_CPR_p0__2 m_za14 f9 q9; exact CR_end e9 (r_x2.to (by decide)))
        refine lv_iconst (v := 0) hx hb dX10_post_111 (by decide) ?_
        refine lv_istore_n (lv' := [(2, .int 0), (0, .ref p0), (1, .int x1)]) hx hb dX10_post_112 rfl hl (by decide) rfl (fun ls hl => ?_)
        simp only [f_X10_post__1_87, ↓reduceIte, q_z0_2, q_z0_7, eq_true c_90] at hE
        exact B113 4294967298 x1 0 z0_2 z0_7 s0 ws _ _ ls (by have q0 := rl_0.1; have u0 := rl_0.2; omega) r_x1 (rl_0.to (by decide)) r_z0_2 m_z0_2 r_z0_7 m_z0_7 x_RH_p0 x_TLM_p0_0 o_p0 hE hw (lv_sub hl [1, 2, 0] rfl)
      · have r_x2 : RI x2 0 83 := rc_lt1 r_x2 rl_84 (ti_nle c_90) (by decide)
        refine lv_aload_n hx hb dX10_post_93 rfl (lv_at hl 0 rfl) ?_
        refine tg_mem (ci := 10) (C := RX10) (T := TX10) (N := 49) hx hb hts inX10 hown hK hw 14 m_za14 rfl (by decide) (hts _ tw_1151) (fun _ h9 => h9) dX10_post_94 ?_
        refine lv_iload_n hx hb dX10_post_97 rfl (lv_at hl 2 rfl) ?_
        refine lv_aload_n hx hb dX10_post_98 rfl (lv_at hl 0 rfl) ?_
        refine tg_mem (ci := 10) (C := RX10) (T := TX10) (N := 49) hx hb hts inX10 hown hK hw 15 m_za15 rfl (by decide) (hts _ tw_1152) (fun _ h9 => h9) dX10_post_99 ?_
        refine lv_iload_n hx hb dX10_post_102 rfl (lv_at hl 2 rfl) ?_
        refine tg_iald (lo := (-2147483648)) (hi := 2147483647) hx hb hK hw h_za15 rfl 0 83 r_x2 (by decide) (by decide +kernel) dX10_post_103 (fun v_8 r_v_8 m_v_8 o_v_8 => ?_)
        have q_v_8 : s0.2.2.1 15 (Int32.toNatClampNeg x2) = v_8 := OV.eqA (V := vw_MODEL) (t := 35) hw.2.2.1 o_p0 m_za15 m_v_8 (by decide)
        have x_CPRV_p0_x2_x2_v_8 : AX2 14 34 15 35 (fun f g => CRp x2 f g ∧ g (Int32.toNatClampNeg x2) = v_8) Ps ws p0 := AX2.el hw x_CPR_p0__2 m_za15 m_v_8
        have hw8 := hw
        have e_9 : x2.toNatClampNeg = x2.toNatClampNeg := by have k1 := r_x2.cl (by decide); have k2 := r_x2.cl (by decide); have b10 := r_x1.1; have b20 := r_x1.2; have b11 := r_x2.1; have b21 := r_x2.2; have b12 := r_z0_2.1; have b22 := r_z0_2.2; have b13 := r_z0_7.1; have b23 := r_z0_7.2; have b14 := r_v_8.1; have b24 := r_v_8.2; omega
        refine tg_iasto hx hb hK hw h_za14 rfl 0 83 r_x2 (by decide) (show RI _ (canon (x2.toNatClampNeg)).1 (canon (x2.toNatClampNeg)).2 by rw [← e_9]; exact o_v_8) (fun _ _ _ _ _ => Or.inl rfl) (by decide) dX10_post_104 (fun ws H locs hw hF9 hU9 => ?_)
        have x_CPRT_p0_x2 : AX2 14 34 15 35 (fun f g => ∀ k9 : Int32, k9.toInt = Int32.toInt x2 + 1 → CRp  k9 f g) Ps ws p0 := AX2.ast hF9 hU9 x_CPRV_p0_x2_x2_v_8 m_za14 (by decide) (fun f9 g9 h9 => fun k9 e9 => CR_step h9 (r_x2.to (by decide)) rfl e9)
        have m_v_8 := AEL.over hw8 hF9 h_za15 m_v_8 (by decide)
        have x_RH_p0 := AX.over hF9 x_RH_p0 (by decide)
        have x_TLM_p0_0 := TLM.over hF9 x_TLM_p0_0 (by decide)
        have m_z0_2 := FLD.over hF9 m_z0_2 (by decide)
        have m_z0_7 := FLD.over hF9 m_z0_7 (by decide)
        have m_za14 := FLD.over hF9 m_za14 (by decide)
        have m_za15 := FLD.over hF9 m_za15 (by decide)
        have o_p0 := OV.over (V := vw_MODEL) hF9 o_p0 (by decide)
        obtain ⟨v_10, e_v_10⟩ : ∃ q9 : Int32, q9 = x2 + Int32.ofInt 1 := ⟨_, rfl⟩
        obtain ⟨t_v_10, r_v_10⟩ := tq_add (lo := 1) (hi := 84) r_x2 (show RI (Int32.ofInt 1) 1 1 by unfold RI; decide +kernel) (by decide +kernel) e_v_10
        have t_v_10 : v_10.toInt = x2.toInt + 1 := t_v_10
        refine lv_iinc (v := v_10) (lv' := [(2, .int v_10), (0, .ref p0), (1, .int x1)]) hx hb dX10_post_105 hl (k := 2) rfl e_v_10.symm (by decide) rfl (fun ls hl => ?_)
        have q_v_10 : x2 + (1 : Int32) = v_10 := by rw [e_v_10, show Int32.ofInt 1 = (1 : Int32) by decide]
        refine lv_goto (tgt := 87) hx hb dX10_post_108 (by decide) ?_
        simp only [f_X10_post__1_87, ↓reduceIte, q_z0_2, q_z0_7, eq_false c_90, q_v_8, q_v_10] at hE
        have x_CPR_p0_v_10 : AX2 14 34 15 35 (fun f g => CRp v_10 f g) Ps ws p0 := AX2.imp x_CPRT_p0_x2 (fun f9 g9 h9 => h9 _ t_v_10)
        exact ih87 x1 v_10 z0_2 z0_7 za14 za15 s0 ws _ _ ls (by have q0 := r_v_10.1; have u0 := r_v_10.2; have o0 := r_x2.1; have p0 := r_x2.2; omega) r_x1 (r_v_10.to (by decide)) r_z0_2 m_z0_2 r_z0_7 m_z0_7 x_RH_p0 x_TLM_p0_0 h_za14 m_za14 h_za15 m_za15 x_CPR_p0_v_10 o_p0 hE hw (lv_sub hl [1, 2, 0] rfl)
  have B51 : ∀ (nf : Nat) (x1 : Int32) (z0_2 : Int32) (gz : Int) (s0 : OS) (ws : va_W) (H : Heap) (locs : List Loc) (ls : Array Slot), 941 - gz < (nf : Int) → RI x1 (-2147483648) 2147483647 → RI z0_2 0 0 → FLD ws p0 10 2 (.int z0_2) → AX 15 35 (fun f => RH2p f) Ps ws p0 → TLM ws p0 (0) → TOP ws p0 (gz) → OV vw_MODEL Ps ws p0 s0 → f_X10_post__1_51 nf x1 s0 = R9 → WD D cy GG A s wr_X10_post__2 wa_X10_post__2 Ps w0 Ps ws H locs → lv_has ls 3 [(0, .ref p0), (1, .int x1)] → W p l e (headSpec (Cond.code yX10_post cX10_post 3 (some .int) :: gT) ({ frames := 9, cells := 0, slots := 0, locals := 1800 } : Room)).room s m ([.ref p0] : List Value).toArray below meth c H locs 0 0 Q (F0 m 51 ls []) := by
    intro nf51
    induction nf51 with
    | zero =>
      intro x1 z0_2 gz s0 ws H locs ls hn51 r_x1 r_z0_2 m_z0_2 x_RH_p0 x_TLM_p0_0 x_TO_p0_gz o_p0 hE hw hl
      exact absurd hn51 (by obtain ⟨_, _, q9, u9⟩ := x_TO_p0_gz; omega)
    | succ nf51 ih51 =>
      intro x1 z0_2 gz s0 ws H locs ls hn51 r_x1 r_z0_2 m_z0_2 x_RH_p0 x_TLM_p0_0 x_TO_p0_gz o_p0 hE hw hl
      have q_z0_2 : s0.1 2 = z0_2 := OV.eqI (V := vw_MODEL) hw.2.2.1 o_p0 m_z0_2 (by decide)
      refine lv_aload_n hx hb dX10_post_51 rfl (lv_at hl 0 rfl) ?_
      refine tg_get (ci := 10) (ts := ty_MODEL) (C := RX10) (T := TX10) (N := 49) hx hb hts inX10 hown hK hw h_p0 rfl rfl 7 (by decide) (hts _ tw_1144) (fun _ h9 => h9) (ft := vI (-2147483648) 2147483647) rfl dX10_post_52 (fun u_11 hv_u_11 m_u_11 => ?_)
      obtain ⟨vu_11, rfl, r_vu_11⟩ := hv_u_11
      have q_vu_11 : s0.1 7 = vu_11 := OV.eqI (V := vw_MODEL) hw.2.2.1 o_p0 m_u_11 (by decide)
      refine lv_if_eq (tgt := 85) hx hb dX10_post_55 (by decide) (fun c_55 => ?_) (fun c_55 => ?_)
      · have r_vu_11 : RI vu_11 0 0 := rc_eq1 r_vu_11 rl_0 (ti_eq c_55) (by decide)
        refine lv_iconst (v := 0) hx hb dX10_post_85 (by decide) ?_
        refine lv_istore_n (lv' := [(2, .int 0), (0, .ref p0), (1, .int x1)]) hx hb dX10_post_86 rfl hl (by decide) rfl (fun ls hl => ?_)
        simp only [f_X10_post__1_51, ↓reduceIte, q_z0_2, q_vu_11, eq_true c_55] at hE
        obtain ⟨b_12, m_b_12, h_b_12⟩ := tg_fldR (k := 14) (ci := 10) (ts := ty_MODEL) (u := 34) hw h_p0 rfl rfl
        obtain ⟨b_13, m_b_13, h_b_13⟩ := tg_fldR (k := 15) (ci := 10) (ts := ty_MODEL) (u := 35) hw h_p0 rfl rfl
        have x_CPR_p0_0 : AX2 14 34 15 35 (fun f g => CRp 0 f g) Ps ws p0 := AX2.imp (AX.two (ax_of (k := 14) (t := 34) hw h_p0 rfl (fun _ => rfl)) x_RH_p0) (fun f9 g9 h9 => ⟨h9.1.1.2, h9.2, fun j9 q9 => absurd q9 (by rw [Int32.toInt_zero]; omega)⟩)
        have hw := WD.weak b_12 hw
        exact B87 4294967298 x1 0 z0_2 vu_11 b_12 b_13 s0 ws _ _ ls (by have q0 := rl_0.1; have u0 := rl_0.2; omega) r_x1 (rl_0.to (by decide)) r_z0_2 m_z0_2 r_vu_11 m_u_11 x_RH_p0 x_TLM_p0_0 h_b_12 m_b_12 h_b_13 m_b_13 x_CPR_p0_0 o_p0 hE hw (lv_sub hl [1, 2, 0] rfl)
      · refine lv_aload_n hx hb dX10_post_58 rfl (lv_at hl 0 rfl) ?_
        refine tk_i (va_runV (As := []) (rest := []) ⟨hx, hb, hml, hown, hts⟩ (c_X10_readLine__1 l D cy z H.size Ps ws hw.1 p0 (gz) s0 h_p0 x_TO_p0_gz x_RH_p0 o_p0) (cwV 0 hts (gV tw_1314 tw_1316 ts_42 tw_15 tw_1317) rfl rfl rfl (by decide +kernel) ⟨Nat.le_of_ble_eq_true rfl, Nat.le_of_ble_eq_true rfl⟩) (tg_preV hw hK hSD hA (ci := 10) (q := (RX10, TX10, 49)) rfl h_p0 rfl) rfl rfl hl.1 rfl (lv_room (Nat.le_of_ble_eq_true rfl)) dX10_post_59 ⟨Nat.le_of_ble_eq_true rfl, Nat.le_of_ble_eq_true rfl⟩) hw hA ⟨by decide, by decide⟩ (fun v_14 ws H locs hp_v_14 hw hF9 => ?_)
        have m_z0_2 := FLD.over hF9 m_z0_2 (by decide)
        have x_TLM_p0_0 := TLM.over hF9 x_TLM_p0_0 (by decide)
        obtain ⟨hfn, hp_v_14⟩ := hp_v_14
        obtain ⟨sg_15, q_sg_15⟩ : ∃ q9 : OS, (f_X10_readLine__1 s0).1 = q9 := ⟨_, rfl⟩
        have o_p0 : OV vw_MODEL Ps ws p0 sg_15 := by rw [← q_sg_15]; exact hfn.1
        have q_v_14 : (f_X10_readLine__1 s0).2 = v_14 := hfn.2.1
        have r_v_14 : RI v_14 0 1 := hp_v_14.1
        by_cases c9_v_14 : v_14 = 0
        · have r_v_14 : RI v_14 0 0 := by rw [c9_v_14]; exact rl_0
          refine lv_if_eq (tgt := 72) hx hb dX10_post_62 (by decide) (fun c_62 => ?_) (fun c_62 => ?_)
          · refine lv_iconst (v := (-1)) hx hb dX10_post_72 (by decide) ?_
            refine lv_aload_n hx hb dX10_post_73 rfl (lv_at hl 0 rfl) ?_
            refine tg_get (ci := 10) (ts := ty_MODEL) (C := RX10) (T := TX10) (N := 49) hx hb hts inX10 hown hK hw h_p0 rfl rfl 11 (by decide) (hts _ tw_1148) (fun _ h9 => h9) (ft := vI (-2147483648) 2147483647) rfl dX10_post_74 (fun u_16 hv_u_16 m_u_16 => ?_)
            obtain ⟨vu_16, rfl, r_vu_16⟩ := hv_u_16
            have q_vu_16 : sg_15.1 11 = vu_16 := OV.eqI (V := vw_MODEL) hw.2.2.1 o_p0 m_u_16 (by decide)
            refine lv_isub hx hb dX10_post_77 (lv_topi (fun v_17 e_v_17 => ?_))
            obtain ⟨t_v_17, r_v_17⟩ := tq_sub (lo := (-2147483648)) (hi := 2147483647) rl_m1 r_vu_16 (by decide +kernel) e_v_17
            have t_v_17 : v_17.toInt = (-1) - vu_16.toInt := t_v_17
            have q_v_17 : ((-1) : Int32) - vu_16 = v_17 := e_v_17.symm
            simp only [f_X10_post__1_51, ↓reduceIte, q_z0_2, q_vu_11, eq_false c_55, q_sg_15, q_v_14, eq_true c9_v_14, eq_true c_62, q_vu_16, q_v_17] at hE
            subst hQ
            exact W.iret (v := v_17) hx hb hr (fun t ht hW => ⟨⟨v_17, ws, rfl, ⟨⟨⟨(by rw [hR, ← hE]; exact o_p0), (by rw [hR, ← hE]), trivial⟩, r_v_17.to (by decide), (fun h0 => trivial), (fun h0 => trivial), ⟨x_TLM_p0_0, trivial⟩, (fun _ => trivial), (fun _ => trivial)⟩, hw.1, hw.2.2.2.2.1⟩, by rw [ht]; exact hw.2.1, va_K.moved hW.alike hK, hw.2.2.1⟩, hw.2.2.2.1.F ht⟩) hw.2.2.2.1.2.2 dX10_post_78
          · exact absurd (r_v_14.eq.trans rl_0.eq.symm) ((ti_ne c_62))
        · have r_v_14 : RI v_14 1 1 := rc_neL r_v_14 rl_0 (ti_ne c9_v_14) (by decide)
          have x_TOK_p0_gz := ((hp_v_14.2.2 c9_v_14).1)
          have x_RH_p0 := ((hp_v_14.2.2 c9_v_14).2.1)
          refine lv_if_eq (tgt := 72) hx hb dX10_post_62 (by decide) (fun c_62 => ?_) (fun c_62 => ?_)
          · have r_v_14 : RI v_14 1 0 := rc_eq1 r_v_14 rl_0 (ti_eq c_62) (by decide)
            exact (r_v_14.no (by decide)).elim
          · refine lv_aload_n hx hb dX10_post_65 rfl (lv_at hl 0 rfl) ?_
            refine tk_i (va_runV (As := []) (rest := []) ⟨hx, hb, hml, hown, hts⟩ (c_X10_readEnd__2 l D cy z H.size Ps ws hw.1 p0 (gz) sg_15 h_p0 x_TOK_p0_gz o_p0) (cwV 0 hts (gV tw_1409 tw_1411 ts_62 tw_15 tw_1412) rfl rfl rfl (by decide +kernel) ⟨Nat.le_of_ble_eq_true rfl, Nat.le_of_ble_eq_true rfl⟩) (tg_preV hw hK hSD hA (ci := 10) (q := (RX10, TX10, 49)) rfl h_p0 rfl) rfl rfl hl.1 rfl (lv_room (Nat.le_of_ble_eq_true rfl)) dX10_post_66 ⟨Nat.le_of_ble_eq_true rfl, Nat.le_of_ble_eq_true rfl⟩) hw hA ⟨by decide, by decide⟩ (fun v_18 ws H locs hp_v_18 hw hF9 => ?_)
            have m_z0_2 := FLD.over hF9 m_z0_2 (by decide)
            have x_TLM_p0_0 := TLM.over hF9 x_TLM_p0_0 (by decide)
            have x_RH_p0 := AX.over hF9 x_RH_p0 (by decide)
            obtain ⟨hfn, hp_v_18⟩ := hp_v_18
            obtain ⟨sg_19, q_sg_19⟩ : ∃ q9 : OS, (f_X10_readEnd__2 sg_15).1 = q9 := ⟨_, rfl⟩
            have o_p0 : OV vw_MODEL Ps ws p0 sg_19 := by rw [← q_sg_19]; exact hfn.1
            have q_v_18 : (f_X10_readEnd__2 sg_15).2 = v_18 := hfn.2.1
            have r_v_18 : RI v_18 0 1 := hp_v_18.1
            by_cases c9_v_18 : v_18 = 0
            · have r_v_18 : RI v_18 0 0 := by rw [c9_v_18]; exact rl_0
              refine lv_if_ne (tgt := 79) hx hb dX10_post_69 (by decide) (fun c_69 => ?_) (fun c_69 => ?_)
              · exact absurd (r_v_18.eq.trans rl_0.eq.symm) ((ti_ne c_69))
              · refine lv_iconst (v := (-1)) hx hb dX10_post_72 (by decide) ?_
                refine lv_aload_n hx hb dX10_post_73 rfl (lv_at hl 0 rfl) ?_
                refine tg_get (ci := 10) (ts := ty_MODEL) (C := RX10) (T := TX10) (N := 49) hx hb hts inX10 hown hK hw h_p0 rfl rfl 11 (by decide) (hts _ tw_1148) (fun _ h9 => h9) (ft := vI (-2147483648) 2147483647) rfl dX10_post_74 (fun u_20 hv_u_20 m_u_20 => ?_)
                obtain ⟨vu_20, rfl, r_vu_20⟩ := hv_u_20
                have q_vu_20 : sg_19.1 11 = vu_20 := OV.eqI (V := vw_MODEL) hw.2.2.1 o_p0 m_u_20 (by decide)
                refine lv_isub hx hb dX10_post_77 (lv_topi (fun v_21 e_v_21 => ?_))
                obtain ⟨t_v_21, r_v_21⟩ := tq_sub (lo := (-2147483648)) (hi := 2147483647) rl_m1 r_vu_20 (by decide +kernel) e_v_21
                have t_v_21 : v_21.toInt = (-1) - vu_20.toInt := t_v_21
                have q_v_21 : ((-1) : Int32) - vu_20 = v_21 := e_v_21.symm
                simp only [f_X10_post__1_51, ↓reduceIte, q_z0_2, q_vu_11, eq_false c_55, q_sg_15, q_v_14, eq_false c9_v_14, eq_false c_62, q_sg_19, q_v_18, eq_true c9_v_18, eq_true c_69, q_vu_20, q_v_21] at hE
                subst hQ
                exact W.iret (v := v_21) hx hb hr (fun t ht hW => ⟨⟨v_21, ws, rfl, ⟨⟨⟨(by rw [hR, ← hE]; exact o_p0), (by rw [hR, ← hE]), trivial⟩, r_v_21.to (by decide), (fun h0 => trivial), (fun h0 => trivial), ⟨x_TLM_p0_0, trivial⟩, (fun _ => trivial), (fun _ => trivial)⟩, hw.1, hw.2.2.2.2.1⟩, by rw [ht]; exact hw.2.1, va_K.moved hW.alike hK, hw.2.2.1⟩, hw.2.2.2.1.F ht⟩) hw.2.2.2.1.2.2 dX10_post_78
            · have r_v_18 : RI v_18 1 1 := rc_neL r_v_18 rl_0 (ti_ne c9_v_18) (by decide)
              have x_TOK_p0_gz_1 := ((hp_v_18.2.2 c9_v_18).1)
              refine lv_if_ne (tgt := 79) hx hb dX10_post_69 (by decide) (fun c_69 => ?_) (fun c_69 => ?_)
              · have x_TO_p0_gz_1 : TOP ws p0 (gz+1) := TKP.top x_TOK_p0_gz_1
                obtain ⟨v_22, e_v_22⟩ : ∃ q9 : Int32, q9 = x1 + Int32.ofInt 1 := ⟨_, rfl⟩
                have r_v_22 := ri_any v_22
                refine lv_iinc (v := v_22) (lv' := [(1, .int v_22), (0, .ref p0)]) hx hb dX10_post_79 hl (k := 1) rfl e_v_22.symm (by decide) rfl (fun ls hl => ?_)
                have q_v_22 : x1 + (1 : Int32) = v_22 := by rw [e_v_22, show Int32.ofInt 1 = (1 : Int32) by decide]
                refine lv_goto (tgt := 51) hx hb dX10_post_82 (by decide) ?_
                simp only [f_X10_post__1_51, ↓reduceIte, q_z0_2, q_vu_11, eq_false c_55, q_sg_15, q_v_14, eq_false c9_v_14, eq_false c_62, q_sg_19, q_v_18, eq_false c9_v_18, eq_false c_69, q_v_22] at hE
                exact ih51 v_22 z0_2 (gz+1) sg_19 ws _ _ ls (by omega) r_v_22 r_z0_2 m_z0_2 x_RH_p0 x_TLM_p0_0 x_TO_p0_gz_1 o_p0 hE hw (lv_sub hl [1, 0] rfl)
              · have r_v_18 : RI v_18 1 0 := rc_eq1 r_v_18 rl_0 (ti_eq c_69) (by decide)
                exact (r_v_18.no (by decide)).elim
  have B9 : ∀ (nf : Nat) (x1 : Int32) (z0_2 : Int32) (s0 : OS) (ws : va_W) (H : Heap) (locs : List Loc) (ls : Array Slot), 84 - x1.toInt < (nf : Int) → RI x1 0 84 → RI z0_2 0 0 → FLD ws p0 10 2 (.int z0_2) → TLM ws p0 (0) → AX 15 35 (fun f => ∀ j : Nat, (j : Int) < Int32.toInt x1 → f j = 0) Ps ws p0 → OV vw_MODEL Ps ws p0 s0 → f_X10_post__1_9 nf x1 s0 = R9 → WD D cy GG A s wr_X10_post__2 wa_X10_post__2 Ps w0 Ps ws H locs → lv_has ls 3 [(0, .ref p0), (1, .int x1)] → W p l e (headSpec (Cond.code yX10_post cX10_post 3 (some .int) :: gT) ({ frames := 9, cells := 0, slots := 0, locals := 1800 } : Room)).room s m ([.ref p0] : List Value).toArray below meth c H locs 0 0 Q (F0 m 9 ls []) := by
    intro nf9
    induction nf9 with
    | zero =>
      intro x1 z0_2 s0 ws H locs ls hn9 r_x1 r_z0_2 m_z0_2 x_TLM_p0_0 x_ZR_p0__1 o_p0 hE hw hl
      exact absurd hn9 (by have q0 := r_x1.1; have u0 := r_x1.2; omega)
    | succ nf9 ih9 =>
      intro x1 z0_2 s0 ws H locs ls hn9 r_x1 r_z0_2 m_z0_2 x_TLM_p0_0 x_ZR_p0__1 o_p0 hE hw hl
      have q_z0_2 : s0.1 2 = z0_2 := OV.eqI (V := vw_MODEL) hw.2.2.1 o_p0 m_z0_2 (by decide)
      refine lv_iload_n hx hb dX10_post_9 rfl (lv_at hl 1 rfl) ?_
      refine lv_bipush (v := 84) hx hb dX10_post_10 (by decide) ?_
      refine lv_icmp_ge (tgt := 28) hx hb dX10_post_12 (by decide) (fun c_12 => ?_) (fun c_12 => ?_)
      · have r_x1 : RI x1 84 84 := rc_le2 rl_84 r_x1 (ti_le c_12) (by decide)
        refine lv_aload_n hx hb dX10_post_28 rfl (lv_at hl 0 rfl) ?_
        refine tg_get (ci := 10) (ts := ty_MODEL) (C := RX10) (T := TX10) (N := 49) hx hb hts inX10 hown hK hw h_p0 rfl rfl 24 (by decide) (hts _ tw_1161) (fun _ h9 => h9) (ft := vR 45) rfl dX10_post_29 (fun u_23 hv_u_23 m_u_23 => ?_)
        obtain ⟨vu_23, rfl, h_vu_23⟩ := hv_u_23
        refine lv_iconst (v := 0) hx hb dX10_post_32 (by decide) ?_
        refine lv_iconst (v := 0) hx hb dX10_post_33 (by decide) ?_
        have mo9 := m_u_23
        refine tg_zastE hx hb hK hw h_vu_23 rfl 0 0 rl_0 (by decide) (by decide) dX10_post_34 (fun ws H locs hw hF9 hU9 => ?_)
        have x_TLM_p0_0 := TLM.over hF9 x_TLM_p0_0 (by decide)
        have x_ZR_p0__1 := AX.over hF9 x_ZR_p0__1 (by decide)
        have m_z0_2 := FLD.over hF9 m_z0_2 (by decide)
        have m_u_23 := FLD.over hF9 m_u_23 (by decide)
        obtain ⟨sg_24, q_sg_24⟩ : ∃ q9 : OS, sA s0 24 (Int32.toNatClampNeg (0 : Int32)) (vp_nar .boolean (0 : Int32)) = q9 := ⟨_, rfl⟩
        have o_p0 : OV vw_MODEL Ps ws p0 sg_24 := by rw [← q_sg_24]; exact OV.putA (V := vw_MODEL) (t := 45) hF9 hU9 o_p0 mo9 (by decide) (by decide)
        refine lv_aload_n hx hb dX10_post_35 rfl (lv_at hl 0 rfl) ?_
        refine tg_mem (ci := 10) (C := RX10) (T := TX10) (N := 49) hx hb hts inX10 hown hK hw 24 m_u_23 rfl (by decide) (hts _ tw_1161) (fun _ h9 => h9) dX10_post_36 ?_
        refine lv_iconst (v := 1) hx hb dX10_post_39 (by decide) ?_
        refine lv_iconst (v := 0) hx hb dX10_post_40 (by decide) ?_
        have mo9 := m_u_23
        refine tg_zastE hx hb hK hw h_vu_23 rfl 1 1 rl_1 (by decide) (by decide) dX10_post_41 (fun ws H locs hw hF9 hU9 => ?_)
        have x_TLM_p0_0 := TLM.over hF9 x_TLM_p0_0 (by decide)
        have x_ZR_p0__1 := AX.over hF9 x_ZR_p0__1 (by decide)
        have m_z0_2 := FLD.over hF9 m_z0_2 (by decide)
        have m_u_23 := FLD.over hF9 m_u_23 (by decide)
        obtain ⟨sg_25, q_sg_25⟩ : ∃ q9 : OS, sA sg_24 24 (Int32.toNatClampNeg (1 : Int32)) (vp_nar .boolean (0 : Int32)) = q9 := ⟨_, rfl⟩
        have o_p0 : OV vw_MODEL Ps ws p0 sg_25 := by rw [← q_sg_25]; exact OV.putA (V := vw_MODEL) (t := 45) hF9 hU9 o_p0 mo9 (by decide) (by decide)
        refine lv_aload_n hx hb dX10_post_42 rfl (lv_at hl 0 rfl) ?_
        refine tg_get (ci := 10) (ts := ty_MODEL) (C := RX10) (T := TX10) (N := 49) hx hb hts inX10 hown hK hw h_p0 rfl rfl 15 (by decide) (hts _ tw_1152) (fun _ h9 => h9) (ft := vR 35) rfl dX10_post_43 (fun u_26 hv_u_26 m_u_26 => ?_)
        obtain ⟨vu_26, rfl, h_vu_26⟩ := hv_u_26
        refine lv_iconst (v := 5) hx hb dX10_post_46 (by decide) ?_
        refine lv_iconst (v := 5) hx hb dX10_post_47 (by decide) ?_
        have x_RHI_p0 : AX 15 35 (fun f => f 0 = 0 ∧ f 3 = 0) Ps ws p0 := AX.imp x_ZR_p0__1 (fun f9 h9 => ⟨h9 0 (by have k1 := r_x1.1; omega), h9 3 (by have k1 := r_x1.1; omega)⟩)
        have mo9 := m_u_26
        refine tg_iast hx hb hK hw h_vu_26 rfl 5 5 rl_5 (by decide) rl_5 (by decide +kernel) (fun _ _ _ _ _ => trivial) (by decide) dX10_post_48 (fun ws H locs hw hF9 hU9 => ?_)
        have x_RH_p0 : AX 15 35 (fun f => RH2p f) Ps ws p0 := AX.ast hF9 hU9 x_RHI_p0 m_u_26 (fun f9 h9 => RH_init h9.1 h9.2 (Int.le_trans (by decide) rl_5.1))
        have x_TLM_p0_0 := TLM.over hF9 x_TLM_p0_0 (by decide)
        have m_z0_2 := FLD.over hF9 m_z0_2 (by decide)
        have m_u_23 := FLD.over hF9 m_u_23 (by decide)
        have m_u_26 := FLD.over hF9 m_u_26 (by decide)
        obtain ⟨sg_27, q_sg_27⟩ : ∃ q9 : OS, sA sg_25 15 (Int32.toNatClampNeg (5 : Int32)) (5 : Int32) = q9 := ⟨_, rfl⟩
        have o_p0 : OV vw_MODEL Ps ws p0 sg_27 := by rw [← q_sg_27]; exact OV.putA (V := vw_MODEL) (t := 35) hF9 hU9 o_p0 mo9 (by decide) (by decide)
        refine lv_iconst (v := 0) hx hb dX10_post_49 (by decide) ?_
        refine lv_istore_n (lv' := [(1, .int 0), (0, .ref p0)]) hx hb dX10_post_50 rfl hl (by decide) rfl (fun ls hl => ?_)
        simp only [f_X10_post__1_9, ↓reduceIte, q_z0_2, eq_true c_12, q_sg_24, q_sg_25, q_sg_27] at hE
        obtain ⟨v_28, m_v_28, r_v_28⟩ := tg_fld (k := 5) (ci := 10) (ts := ty_MODEL) (lo := 0) (hi := 940) hw h_p0 rfl rfl
        have x_TO_p0_0 : TOP ws p0 (0) := ⟨v_28, m_v_28, r_v_28.1, r_v_28.2⟩
        exact B51 4294967298 0 z0_2 (0) sg_27 ws _ _ ls (by omega) (rl_0.to (by decide)) r_z0_2 m_z0_2 x_RH_p0 x_TLM_p0_0 x_TO_p0_0 o_p0 hE hw (lv_sub hl [1, 0] rfl)
      · have r_x1 : RI x1 0 83 := rc_lt1 r_x1 rl_84 (ti_nle c_12) (by decide)
        refine lv_aload_n hx hb dX10_post_15 rfl (lv_at hl 0 rfl) ?_
        refine tg_get (ci := 10) (ts := ty_MODEL) (C := RX10) (T := TX10) (N := 49) hx hb hts inX10 hown hK hw h_p0 rfl rfl 15 (by decide) (hts _ tw_1152) (fun _ h9 => h9) (ft := vR 35) rfl dX10_post_16 (fun u_29 hv_u_29 m_u_29 => ?_)
        obtain ⟨vu_29, rfl, h_vu_29⟩ := hv_u_29
        refine lv_iload_n hx hb dX10_post_19 rfl (lv_at hl 1 rfl) ?_
        refine lv_iconst (v := 0) hx hb dX10_post_20 (by decide) ?_
        have mo9 := m_u_29
        refine tg_iast hx hb hK hw h_vu_29 rfl 0 83 r_x1 (by decide) rl_0 (by decide +kernel) (fun _ _ _ _ _ => trivial) (by decide) dX10_post_21 (fun ws H locs hw hF9 hU9 => ?_)
        have x_ZS_p0_x1 : AX 15 35 (fun f => ∀ j : Nat, (j : Int) < Int32.toInt x1 + 1 → f j = 0) Ps ws p0 := AX.ast hF9 hU9 x_ZR_p0__1 m_u_29 (fun f9 h9 => fun j9 q9 => (Decidable.em (j9 = Int32.toNatClampNeg x1)).elim (fun e9 => by rw [e9, pk_us]) (fun e9 => by rw [pk_un e9]; exact h9 j9 (by have k4 := r_x1.cl (by decide); omega)))
        have x_TLM_p0_0 := TLM.over hF9 x_TLM_p0_0 (by decide)
        have m_z0_2 := FLD.over hF9 m_z0_2 (by decide)
        have m_u_29 := FLD.over hF9 m_u_29 (by decide)
        obtain ⟨sg_30, q_sg_30⟩ : ∃ q9 : OS, sA s0 15 (Int32.toNatClampNeg x1) (0 : Int32) = q9 := ⟨_, rfl⟩
        have o_p0 : OV vw_MODEL Ps ws p0 sg_30 := by rw [← q_sg_30]; exact OV.putA (V := vw_MODEL) (t := 35) hF9 hU9 o_p0 mo9 (by decide) (by decide)
        obtain ⟨v_31, e_v_31⟩ : ∃ q9 : Int32, q9 = x1 + Int32.ofInt 1 := ⟨_, rfl⟩
        obtain ⟨t_v_31, r_v_31⟩ := tq_add (lo := 1) (hi := 84) r_x1 (show RI (Int32.ofInt 1) 1 1 by unfold RI; decide +kernel) (by decide +kernel) e_v_31
        have t_v_31 : v_31.toInt = x1.toInt + 1 := t_v_31
        refine lv_iinc (v := v_31) (lv' := [(1, .int v_31), (0, .ref p0)]) hx hb dX10_post_22 hl (k := 1) rfl e_v_31.symm (by decide) rfl (fun ls hl => ?_)
        have q_v_31 : x1 + (1 : Int32) = v_31 := by rw [e_v_31, show Int32.ofInt 1 = (1 : Int32) by decide]
        refine lv_goto (tgt := 9) hx hb dX10_post_25 (by decide) ?_
        simp only [f_X10_post__1_9, ↓reduceIte, q_z0_2, eq_false c_12, q_sg_30, q_v_31] at hE
        have x_ZR_p0_v_31 : AX 15 35 (fun f => ∀ j : Nat, (j : Int) < Int32.toInt v_31 → f j = 0) Ps ws p0 := AX.imp x_ZS_p0_x1 (fun f9 h9 => fun j9 q9 => h9 j9 (by have k1 := t_v_31; omega))
        exact ih9 v_31 z0_2 sg_30 ws _ _ ls (by have q0 := r_v_31.1; have u0 := r_v_31.2; have o0 := r_x1.1; have p0 := r_x1.2; omega) (r_v_31.to (by decide)) r_z0_2 m_z0_2 x_TLM_p0_0 x_ZR_p0_v_31 o_p0 hE hw (lv_sub hl [1, 0] rfl)
  refine lv_aload_n hx hb dX10_post_0 rfl (lv_at hl 0 rfl) ?_
  refine lv_sipush (v := 900) hx hb dX10_post_1 (by decide) ?_
  refine tk_v (va_runV (As := [.int 900]) (rest := []) ⟨hx, hb, hml, hown, hts⟩ (c_X10_begin__6 l D cy z s.heap.size Ps w0 hw.1 p0 900 s0 h_p0 rl_900 o_p0) (cwV 1 hts (gV tw_1290 tw_1292 ts_38 tw_15 tw_1293) rfl rfl rfl (by decide +kernel) ⟨Nat.le_of_ble_eq_true rfl, Nat.le_of_ble_eq_true rfl⟩) (tg_preV hw hK hSD hA (ci := 10) (q := (RX10, TX10, 49)) rfl h_p0 rfl) rfl rfl hl.1 rfl (lv_room (Nat.le_of_ble_eq_true rfl)) dX10_post_4 ⟨Nat.le_of_ble_eq_true rfl, Nat.le_of_ble_eq_true rfl⟩) hw hA ⟨by decide, by decide⟩ (fun ws H locs hp_v_32 hw hF9 => ?_)
  obtain ⟨hfn, hp_v_32⟩ := hp_v_32
  obtain ⟨sg_33, q_sg_33⟩ : ∃ q9 : OS, (f_X10_begin__4 (900 : Int32) s0) = q9 := ⟨_, rfl⟩
  have o_p0 : OV vw_MODEL Ps ws p0 sg_33 := by rw [← q_sg_33]; exact hfn.1
  obtain ⟨v_34, m_v_34, r_v_34⟩ := (hp_v_32.1)
  have x_TLM_p0_0 := (hp_v_32.2.1)
  have x_TLM_p0_0 : TLM ws p0 (0) := by obtain ⟨v9, a9, b9⟩ := x_TLM_p0_0; exact ⟨v9, a9, (by omega)⟩
  refine lv_iconst (v := 0) hx hb dX10_post_7 (by decide) ?_
  refine lv_istore_n (lv' := [(1, .int 0), (0, .ref p0)]) hx hb dX10_post_8 rfl hl (by decide) rfl (fun ls hl => ?_)
  simp only [f_X10_post__1, ↓reduceIte, q_sg_33] at hE
  have x_ZR_p0_0 : AX 15 35 (fun f => ∀ j : Nat, (j : Int) < Int32.toInt 0 → f j = 0) Ps ws p0 := AX.imp (rx_true hw h_p0) (fun f9 _ => fun j9 q9 => absurd q9 (by rw [Int32.toInt_zero]; omega))
  exact B9 4294967298 0 v_34 sg_33 ws _ _ ls (by have q0 := rl_0.1; have u0 := rl_0.2; omega) (rl_0.to (by decide)) r_v_34 m_v_34 x_TLM_p0_0 x_ZR_p0_0 o_p0 hE hw (lv_sub hl [1, 0] rfl)
abbrev wr_X10_take__3 : List (Nat × Nat) := [(10, 2)]
abbrev wa_X10_take__3 : List Nat := []
set_option maxHeartbeats 4000000 in
set_option maxRecDepth 100000 in
theorem c_X10_take__3 (l : Launch) (D : va_G) (cy : Nat → ClassId) (z : Nat → Nat) (sz : Nat) (Ps : PSI) (w0 : va_W) (hT : HT cy GG Ps w0) (p0 : Nat) (h_p0 : (p0, 55) ∈ Ps) : Met l yX10_take (Cond.code yX10_take cX10_take 2 (some .int) :: gT) ({ frames := 0, cells := 0, slots := 0, locals := 200 } : Room) (va_Pc [.ref p0] (PRE D cy z w0 sz)) (va_Qi (fun (r : Int32) (u : va_W) => (RI r 0 940 ∧ (r = 0 → (∃ v9 : Int32, FLD u p0 10 2 (.int v9) ∧ RI v9 0 0) ∧ TLM u p0 (0) ∧ True) ∧ (¬ r = 0 → (∃ v9 : Int32, FLD u p0 10 2 (.int v9) ∧ RI v9 0 0) ∧ TLM u p0 (0) ∧ True)) ∧ HT cy GG Ps u ∧ FR wr_X10_take__3 wa_X10_take__3 Ps w0 u) (BB D cy (va_A w0 sz) (fun (u : va_W) => u)) (va_A w0 sz)) 0 0 (va_A w0 sz) := by
  refine Met.ofW (cc := cX10_take) (maxL := 2) (ret := (some .int)) (by decide) rfl ?_
  intro p e s m args below meth c s₁ B hml hv
  obtain ⟨rfl, hsz, hP, hK, hD0, hSD⟩ := hv
  have hx := B.exec
  have hb := B.bytes
  have hr := B.returns
  have hlocks := B.notSynchronized
  have hts : ∀ w ∈ gT, w.before _ s = true := fun w h => atoms_spec (ws := Cond.code yX10_take cX10_take 2 (some .int) :: gT) B.pre w (List.mem_cons_of_mem _ h)
  have hown : s.vm.findClass RX10 = some m.cls := findClass_of_methodNamed B.named
  subst hsz
  have hD := hD0.self (sz := s.heap.size)
  generalize hAe : va_A w0 s.heap.size = A at hD hSD ⊢
  have hA : ∀ q : Nat, s.heap.size ≤ q → A q := fun q h => by rw [← hAe]; exact Or.inr h
  have hl := lv_entry ([.ref p0]) (n := 2) (Nat.le_of_ble_eq_true rfl)
  rw [lg_entry_eq]
  generalize (lg_sl ([.ref p0]) ++ List.replicate (2 - (lg_sl ([.ref p0])).length) Slot.unset).toArray = ls at hl ⊢
  have hl : lv_has ls 2 [(0, .ref p0)] := hl
  refine nameQ (fun Q hQ => ?_)
  have hw : WD D cy GG A s wr_X10_take__3 wa_X10_take__3 Ps w0 Ps w0 s.heap [] := ⟨hT, hP, hD, va_S.rf, FR.rf, hT.1, [], (List.append_nil _).symm⟩
  refine lv_aload_n hx hb dX10_take_0 rfl (lv_at hl 0 rfl) ?_
  refine tg_get (ci := 10) (ts := ty_MODEL) (C := RX10) (T := TX10) (N := 49) hx hb hts inX10 hown hK hw h_p0 rfl rfl 2 (by decide) (hts _ tw_1139) (fun _ h9 => h9) (ft := vI 0 940) rfl dX10_take_1 (fun u_1 hv_u_1 m_u_1 => ?_)
  obtain ⟨vu_1, rfl, r_vu_1⟩ := hv_u_1
  refine lv_istore_n (lv' := [(1, .int vu_1), (0, .ref p0)]) hx hb dX10_take_4 rfl hl (by decide) rfl (fun ls hl => ?_)
  refine lv_aload_n hx hb dX10_take_5 rfl (lv_at hl 1 rfl) ?_
  refine lv_iconst (v := 0) hx hb dX10_take_6 (by decide) ?_
  refine tg_put (ci := 10) (ts := ty_MODEL) (v := .int 0) (ty := .int) (C := RX10) (T := TX10) (N := 49) hx hb hts inX10 tyX10 tyX10_ok nmX10 hown hK hw h_p0 rfl rfl 2 (by decide) (hts _ tw_1139) (fun _ h9 => h9) rfl (by decide +kernel) rfl rfl (ft := vI 0 940) rfl ⟨_, rfl, (rl_0.to (by decide))⟩ (by decide) dX10_take_7 (fun ws H locs hw n_k_2 hF9 => ?_)
  have x_TLM_p0_0 : TLM ws p0 (0) := ⟨_, n_k_2, (by decide)⟩
  refine lv_iload_n hx hb dX10_take_10 rfl (lv_at hl 0 rfl) ?_
  subst hQ
  exact W.iret (v := vu_1) hx hb hr (fun t ht hW => ⟨⟨vu_1, ws, rfl, ⟨⟨r_vu_1.to (by decide), (fun h0 => ⟨⟨_, n_k_2, rl_0⟩, x_TLM_p0_0, trivial⟩), (fun h0 => ⟨⟨_, n_k_2, rl_0⟩, x_TLM_p0_0, trivial⟩)⟩, hw.1, hw.2.2.2.2.1⟩, by rw [ht]; exact hw.2.1, va_K.moved hW.alike hK, hw.2.2.1⟩, hw.2.2.2.1.F ht⟩) hw.2.2.2.1.2.2 dX10_take_11
abbrev wr_X10_sat__1 : List (Nat × Nat) := [(10, 0), (10, 2), (10, 29), (10, 30)]
abbrev wa_X10_sat__1 : List Nat := [34, 39, 47]
set_option maxHeartbeats 4000000 in
set_option maxRecDepth 100000 in
theorem c_X10_sat__1 (l : Launch) (D : va_G) (cy : Nat → ClassId) (z : Nat → Nat) (sz : Nat) (Ps : PSI) (w0 : va_W) (hT : HT cy GG Ps w0) (p0 : Nat) (h_p0 : (p0, 55) ∈ Ps) : Met l yX10_sat (Cond.code yX10_sat cX10_sat 6 (some .int) :: gT) ({ frames := 4, cells := 0, slots := 0, locals := 800 } : Room) (va_Pc [.ref p0] (PRE D cy z w0 sz)) (va_Qi (fun (r : Int32) (u : va_W) => (RI r (-2147483648) 2147483647 ∧ (r = 0 → True) ∧ (¬ r = 0 → True) ∧ (TLM u p0 (0) ∧ True) ∧ (r.toInt < 0 → True) ∧ (0 ≤ r.toInt → True)) ∧ HT cy GG Ps u ∧ FR wr_X10_sat__1 wa_X10_sat__1 Ps w0 u) (BB D cy (va_A w0 sz) (fun (u : va_W) => u)) (va_A w0 sz)) 0 0 (va_A w0 sz) := by
  refine Met.ofW (cc := cX10_sat) (maxL := 6) (ret := (some .int)) (by decide) rfl ?_
  intro p e s m args below meth c s₁ B hml hv
  obtain ⟨rfl, hsz, hP, hK, hD0, hSD⟩ := hv
  have hx := B.exec
  have hb := B.bytes
  have hr := B.returns
  have hlocks := B.notSynchronized
  have hts : ∀ w ∈ gT, w.before _ s = true := fun w h => atoms_spec (ws := Cond.code yX10_sat cX10_sat 6 (some .int) :: gT) B.pre w (List.mem_cons_of_mem _ h)
  have hown : s.vm.findClass RX10 = some m.cls := findClass_of_methodNamed B.named
  subst hsz
  have hD := hD0.self (sz := s.heap.size)
  generalize hAe : va_A w0 s.heap.size = A at hD hSD ⊢
  have hA : ∀ q : Nat, s.heap.size ≤ q → A q := fun q h => by rw [← hAe]; exact Or.inr h
  have hl := lv_entry ([.ref p0]) (n := 6) (Nat.le_of_ble_eq_true rfl)
  rw [lg_entry_eq]
  generalize (lg_sl ([.ref p0]) ++ List.replicate (6 - (lg_sl ([.ref p0])).length) Slot.unset).toArray = ls at hl ⊢
  have hl : lv_has ls 6 [(0, .ref p0)] := hl
  refine nameQ (fun Q hQ => ?_)
  have hw : WD D cy GG A s wr_X10_sat__1 wa_X10_sat__1 Ps w0 Ps w0 s.heap [] := ⟨hT, hP, hD, va_S.rf, FR.rf, hT.1, [], (List.append_nil _).symm⟩
  have B258 : ∀ (nf : Nat) (x1 : Int32) (x2 : Int32) (x3 : Int32) (x4 : Int32) (z0_0 : Int32) (z0_2 : Int32) (z0_29 : Int32) (ws : va_W) (H : Heap) (locs : List Loc) (ls : Array Slot), 8 - x4.toInt < (nf : Int) → RI x1 (-1) 5 → RI x2 (-2147483648) 2147483647 → RI x3 0 255 → RI x4 0 8 → RI z0_0 0 0 → FLD ws p0 10 0 (.int z0_0) → RI z0_2 0 0 → FLD ws p0 10 2 (.int z0_2) → RI z0_29 0 255 → FLD ws p0 10 29 (.int z0_29) → AX 1 40 (fun f => (f 0).toInt ≤ 5) Ps ws p0 → TLM ws p0 (0) → WD D cy GG A s wr_X10_sat__1 wa_X10_sat__1 Ps w0 Ps ws H locs → lv_has ls 6 [(0, .ref p0), (1, .int x1), (2, .int x2), (3, .int x3), (4, .int x4)] → W p l e (headSpec (Cond.code yX10_sat cX10_sat 6 (some .int) :: gT) ({ frames := 4, cells := 0, slots := 0, locals := 800 } : Room)).room s m ([.ref p0] : List Value).toArray below meth c H locs 0 0 Q (F0 m 258 ls []) := by
    intro nf258
    induction nf258 with
    | zero =>
      intro x1 x2 x3 x4 z0_0 z0_2 z0_29 ws H locs ls hn258 r_x1 r_x2 r_x3 r_x4 r_z0_0 m_z0_0 r_z0_2 m_z0_2 r_z0_29 m_z0_29 x_T0_p0 x_TLM_p0_0 hw hl
      exact absurd hn258 (by have q0 := r_x4.1; have u0 := r_x4.2; omega)
    | succ nf258 ih258 =>
      have B310 : ∀ (x1 : Int32) (x2 : Int32) (x3 : Int32) (x4 : Int32) (z0_0 : Int32) (z0_2 : Int32) (z0_29 : Int32) (ws : va_W) (H : Heap) (locs : List Loc) (ls : Array Slot), RI x1 (-1) 5 → RI x2 (-2147483648) 2147483647 → RI x3 0 255 → RI x4 0 7 → RI z0_0 0 0 → FLD ws p0 10 0 (.int z0_0) → RI z0_2 0 0 → FLD ws p0 10 2 (.int z0_2) → RI z0_29 0 255 → FLD ws p0 10 29 (.int z0_29) → AX 1 40 (fun f => (f 0).toInt ≤ 5) Ps ws p0 → TLM ws p0 (0) → 8 - x4.toInt < ((nf258 + 1 : Nat) : Int) → WD D cy GG A s wr_X10_sat__1 wa_X10_sat__1 Ps w0 Ps ws H locs → lv_has ls 6 [(0, .ref p0), (1, .int x1), (2, .int x2), (3, .int x3), (4, .int x4)] → W p l e (headSpec (Cond.code yX10_sat cX10_sat 6 (some .int) :: gT) ({ frames := 4, cells := 0, slots := 0, locals := 800 } : Room)).room s m ([.ref p0] : List Value).toArray below meth c H locs 0 0 Q (F0 m 310 ls []) := by
        intro x1 x2 x3 x4 z0_0 z0_2 z0_29 ws H locs ls r_x1 r_x2 r_x3 r_x4 r_z0_0 m_z0_0 r_z0_2 m_z0_2 r_z0_29 m_z0_29 x_T0_p0 x_TLM_p0_0 hn258 hw hl
        refine lv_aload_n hx hb dX10_sat_310 rfl (lv_at hl 0 rfl) ?_
        refine lv_iload hx hb dX10_sat_311 (lv_at hl 4 rfl) ?_
        refine tg_put (ci := 10) (ts := ty_MODEL) (v := .int x4) (ty := .int) (C := RX10) (T := TX10) (N := 49) hx hb hts inX10 tyX10 tyX10_ok nmX10 hown hK hw h_p0 rfl rfl 30 (by decide) (hts _ tw_1167) (fun _ h9 => h9) rfl (by decide +kernel) rfl rfl (ft := vI (-1) 7) rfl ⟨_, rfl, (r_x4.to (by decide))⟩ (by decide) dX10_sat_313 (fun ws H locs hw n_k_1 hF9 => ?_)
        have m_z0_0 := FLD.over hF9 m_z0_0 (by decide)
        have m_z0_2 := FLD.over hF9 m_z0_2 (by decide)
        have m_z0_29 := FLD.over hF9 m_z0_29 (by decide)
        have x_T0_p0 := AX.over hF9 x_T0_p0 (by decide)
        have x_TLM_p0_0 := TLM.over hF9 x_TLM_p0_0 (by decide)
        obtain ⟨v_2, e_v_2⟩ : ∃ q9 : Int32, q9 = x4 + Int32.ofInt 1 := ⟨_, rfl⟩
        obtain ⟨t_v_2, r_v_2⟩ := tq_add (lo := 1) (hi := 8) r_x4 (show RI (Int32.ofInt 1) 1 1 by unfold RI; decide +kernel) (by decide +kernel) e_v_2
        have t_v_2 : v_2.toInt = x4.toInt + 1 := t_v_2
        refine lv_iinc (v := v_2) (lv' := [(4, .int v_2), (0, .ref p0), (1, .int x1), (2, .int x2), (3, .int x3)]) hx hb dX10_sat_316 hl (k := 4) rfl e_v_2.symm (by decide) rfl (fun ls hl => ?_)
        refine lv_goto (tgt := 258) hx hb dX10_sat_319 (by decide) ?_
        exact ih258 x1 x2 x3 v_2 z0_0 z0_2 z0_29 ws _ _ ls (by have q0 := r_v_2.1; have u0 := r_v_2.2; have o0 := r_x4.1; have p0 := r_x4.2; omega) r_x1 r_x2 r_x3 (r_v_2.to (by decide)) r_z0_0 m_z0_0 r_z0_2 m_z0_2 r_z0_29 m_z0_29 x_T0_p0 x_TLM_p0_0 hw (lv_sub hl [1, 2, 3, 4, 0] rfl)
      intro x1 x2 x3 x4 z0_0 z0_2 z0_29 ws H locs ls hn258 r_x1 r_x2 r_x3 r_x4 r_z0_0 m_z0_0 r_z0_2 m_z0_2 r_z0_29 m_z0_29 x_T0_p0 x_TLM_p0_0 hw hl
      refine lv_iload hx hb dX10_sat_258 (lv_at hl 4 rfl) ?_
      refine lv_aload_n hx hb dX10_sat_260 rfl (lv_at hl 0 rfl) ?_
      refine tg_get (ci := 10) (ts := ty_MODEL) (C := RX10) (T := TX10) (N := 49) hx hb hts inX10 hown hK hw h_p0 rfl rfl 14 (by decide) (hts _ tw_1151) (fun _ h9 => h9) (ft := vR 34) rfl dX10_sat_261 (fun u_3 hv_u_3 m_u_3 => ?_)
      obtain ⟨vu_3, rfl, h_vu_3⟩ := hv_u_3
      refine lv_iconst (v := 3) hx hb dX10_sat_264 (by decide) ?_
      refine tg_iald (lo := 0) (hi := 8) hx hb hK hw h_vu_3 rfl 3 3 rl_3 (by decide) (by decide +kernel) dX10_sat_265 (fun v_4 r_v_4 m_v_4 o_v_4 => ?_)
      refine lv_icmp_ge (tgt := 322) hx hb dX10_sat_266 (by decide) (fun c_266 => ?_) (fun c_266 => ?_)
      · refine lv_iload_n hx hb dX10_sat_322 rfl (lv_at hl 2 rfl) ?_
        subst hQ
        exact W.iret (v := x2) hx hb hr (fun t ht hW => ⟨⟨x2, ws, rfl, ⟨⟨r_x2.to (by decide), (fun h0 => trivial), (fun h0 => trivial), ⟨x_TLM_p0_0, trivial⟩, (fun _ => trivial), (fun _ => trivial)⟩, hw.1, hw.2.2.2.2.1⟩, by rw [ht]; exact hw.2.1, va_K.moved hW.alike hK, hw.2.2.1⟩, hw.2.2.2.1.F ht⟩) hw.2.2.2.1.2.2 dX10_sat_323
      · have r_x4 : RI x4 0 7 := rc_lt1 r_x4 r_v_4 (ti_nle c_266) (by decide)
        have r_v_4 : RI v_4 1 8 := rc_lt2 r_x4 r_v_4 (ti_nle c_266) (by decide)
        refine lv_aload_n hx hb dX10_sat_269 rfl (lv_at hl 0 rfl) ?_
        refine tg_get (ci := 10) (ts := ty_MODEL) (C := RX10) (T := TX10) (N := 49) hx hb hts inX10 hown hK hw h_p0 rfl rfl 30 (by decide) (hts _ tw_1167) (fun _ h9 => h9) (ft := vI (-1) 7) rfl dX10_sat_270 (fun u_5 hv_u_5 m_u_5 => ?_)
        obtain ⟨vu_5, rfl, r_vu_5⟩ := hv_u_5
        refine lv_iconst (v := (-1)) hx hb dX10_sat_273 (by decide) ?_
        refine lv_icmp_eq (tgt := 310) hx hb dX10_sat_274 (by decide) (fun c_274 => ?_) (fun c_274 => ?_)
        · have r_vu_5 : RI vu_5 (-1) (-1) := rc_eq1 r_vu_5 rl_m1 (ti_eq c_274) (by decide)
          exact B310 x1 x2 x3 x4 z0_0 z0_2 z0_29 ws _ _ ls r_x1 r_x2 r_x3 r_x4 r_z0_0 m_z0_0 r_z0_2 m_z0_2 r_z0_29 m_z0_29 x_T0_p0 x_TLM_p0_0 (by have q0 := r_x4.1; have u0 := r_x4.2; omega) hw hl
        · have r_vu_5 : RI vu_5 0 7 := rc_neL r_vu_5 rl_m1 (ti_ne c_274) (by decide)
          refine lv_iconst (v := 2) hx hb dX10_sat_277 (by decide) ?_
          refine lv_aload_n hx hb dX10_sat_278 rfl (lv_at hl 0 rfl) ?_
          refine tg_get (ci := 10) (ts := ty_MODEL) (C := RX10) (T := TX10) (N := 49) hx hb hts inX10 hown hK hw h_p0 rfl rfl 28 (by decide) (hts _ tw_1165) (fun _ h9 => h9) (ft := vR 47) rfl dX10_sat_279 (fun u_6 hv_u_6 m_u_6 => ?_)
          obtain ⟨vu_6, rfl, h_vu_6⟩ := hv_u_6
          refine lv_iload hx hb dX10_sat_282 (lv_at hl 4 rfl) ?_
          refine tg_iald (lo := (-2147483648)) (hi := 2147483647) hx hb hK hw h_vu_6 rfl 0 7 r_x4 (by decide) (by exact fun _ _ _ => ⟨Int.le_refl _, Int.le_refl _⟩) dX10_sat_284 (fun v_7 r_v_7 m_v_7 o_v_7 => ?_)
          refine lv_imul hx hb dX10_sat_285 (lv_topi (fun v_8 e_v_8 => ?_))
          have r_v_8 := ri_any v_8
          refine lv_iload_n hx hb dX10_sat_286 rfl (lv_at hl 2 rfl) ?_
          refine lv_isub hx hb dX10_sat_287 (lv_topi (fun v_9 e_v_9 => ?_))
          have r_v_9 := ri_any v_9
          refine tk_ir (va_runS (As := [.int v_9]) (rest := []) ⟨hx, hb, hml, hown, hts⟩ (c_X10_size l D cy z H.size Ps ws hw.1 v_9 r_v_9) (va_cwS 1 hts (gS tw_1615 tw_1616 tw_15 tw_1617) rfl rfl rfl (by decide +kernel) ⟨Nat.le_of_ble_eq_true rfl, Nat.le_of_ble_eq_true rfl⟩) (tg_preS hw hK hSD hA) rfl rfl hl.1 rfl (lv_room (Nat.le_of_ble_eq_true rfl)) dX10_sat_288 ⟨Nat.le_of_ble_eq_true rfl, Nat.le_of_ble_eq_true rfl⟩) hw hA (fun v_10  H locs hp_v_10 hw => ?_)
          have r_v_10 : RI v_10 (-2147483648) 2147483647 := hp_v_10.1
          refine lv_iconst (v := 2) hx hb dX10_sat_291 (by decide) ?_
          refine lv_aload_n hx hb dX10_sat_292 rfl (lv_at hl 0 rfl) ?_
          refine tg_mem (ci := 10) (C := RX10) (T := TX10) (N := 49) hx hb hts inX10 hown hK hw 28 m_u_6 rfl (by decide) (hts _ tw_1165) (fun _ h9 => h9) dX10_sat_293 ?_
          refine lv_aload_n hx hb dX10_sat_296 rfl (lv_at hl 0 rfl) ?_
          refine tg_mem (ci := 10) (C := RX10) (T := TX10) (N := 49) hx hb hts inX10 hown hK hw 30 m_u_5 rfl (by decide) (hts _ tw_1167) (fun _ h9 => h9) dX10_sat_297 ?_
          refine tg_iald (lo := (-2147483648)) (hi := 2147483647) hx hb hK hw h_vu_6 rfl 0 7 r_vu_5 (by decide) (by exact fun _ _ _ => ⟨Int.le_refl _, Int.le_refl _⟩) dX10_sat_300 (fun v_11 r_v_11 m_v_11 o_v_11 => ?_)
          refine lv_imul hx hb dX10_sat_301 (lv_topi (fun v_12 e_v_12 => ?_))
          have r_v_12 := ri_any v_12
          refine lv_iload_n hx hb dX10_sat_302 rfl (lv_at hl 2 rfl) ?_
          refine lv_isub hx hb dX10_sat_303 (lv_topi (fun v_13 e_v_13 => ?_))
          have r_v_13 := ri_any v_13
          refine tk_ir (va_runS (As := [.int v_13]) (rest := [.int v_10]) ⟨hx, hb, hml, hown, hts⟩ (c_X10_size l D cy z H.size Ps ws hw.1 v_13 r_v_13) (va_cwS 1 hts (gS tw_1615 tw_1616 tw_15 tw_1617) rfl rfl rfl (by decide +kernel) ⟨Nat.le_of_ble_eq_true rfl, Nat.le_of_ble_eq_true rfl⟩) (tg_preS hw hK hSD hA) rfl rfl hl.1 rfl (lv_room (Nat.le_of_ble_eq_true rfl)) dX10_sat_304 ⟨Nat.le_of_ble_eq_true rfl, Nat.le_of_ble_eq_true rfl⟩) hw hA (fun v_14  H locs hp_v_14 hw => ?_)
          have r_v_14 : RI v_14 (-2147483648) 2147483647 := hp_v_14.1
          refine lv_icmp_ge (tgt := 316) hx hb dX10_sat_307 (by decide) (fun c_307 => ?_) (fun c_307 => ?_)
          · obtain ⟨v_15, e_v_15⟩ : ∃ q9 : Int32, q9 = x4 + Int32.ofInt 1 := ⟨_, rfl⟩
            obtain ⟨t_v_15, r_v_15⟩ := tq_add (lo := 1) (hi := 8) r_x4 (show RI (Int32.ofInt 1) 1 1 by unfold RI; decide +kernel) (by decide +kernel) e_v_15
            have t_v_15 : v_15.toInt = x4.toInt + 1 := t_v_15
            refine lv_iinc (v := v_15) (lv' := [(4, .int v_15), (0, .ref p0), (1, .int x1), (2, .int x2), (3, .int x3)]) hx hb dX10_sat_316 hl (k := 4) rfl e_v_15.symm (by decide) rfl (fun ls hl => ?_)
            refine lv_goto (tgt := 258) hx hb dX10_sat_319 (by decide) ?_
            exact ih258 x1 x2 x3 v_15 z0_0 z0_2 z0_29 ws _ _ ls (by have q0 := r_v_15.1; have u0 := r_v_15.2; have o0 := r_x4.1; have p0 := r_x4.2; omega) r_x1 r_x2 r_x3 (r_v_15.to (by decide)) r_z0_0 m_z0_0 r_z0_2 m_z0_2 r_z0_29 m_z0_29 x_T0_p0 x_TLM_p0_0 hw (lv_sub hl [1, 2, 3, 4, 0] rfl)
          · have r_v_10 : RI v_10 (-2147483648) 2147483646 := rc_lt1 r_v_10 r_v_14 (ti_nle c_307) (by decide)
            have r_v_14 : RI v_14 (-2147483647) 2147483647 := rc_lt2 r_v_10 r_v_14 (ti_nle c_307) (by decide)
            exact B310 x1 x2 x3 x4 z0_0 z0_2 z0_29 ws _ _ ls r_x1 r_x2 r_x3 r_x4 r_z0_0 m_z0_0 r_z0_2 m_z0_2 r_z0_29 m_z0_29 x_T0_p0 x_TLM_p0_0 (by have q0 := r_x4.1; have u0 := r_x4.2; omega) hw hl
  have B144 : ∀ (nf : Nat) (x1 : Int32) (x2 : Int32) (x3 : Int32) (x4 : Int32) (z0_0 : Int32) (z0_2 : Int32) (ws : va_W) (H : Heap) (locs : List Loc) (ls : Array Slot), 256 - x4.toInt < (nf : Int) → RI x1 (-1) 5 → RI x2 (-2147483648) 2147483647 → RI x3 0 255 → RI x4 0 256 → RI z0_0 0 0 → FLD ws p0 10 0 (.int z0_0) → RI z0_2 0 0 → FLD ws p0 10 2 (.int z0_2) → AX 1 40 (fun f => (f 0).toInt ≤ 5) Ps ws p0 → TLM ws p0 (0) → WD D cy GG A s wr_X10_sat__1 wa_X10_sat__1 Ps w0 Ps ws H locs → lv_has ls 6 [(0, .ref p0), (1, .int x1), (2, .int x2), (3, .int x3), (4, .int x4)] → W p l e (headSpec (Cond.code yX10_sat cX10_sat 6 (some .int) :: gT) ({ frames := 4, cells := 0, slots := 0, locals := 800 } : Room)).room s m ([.ref p0] : List Value).toArray below meth c H locs 0 0 Q (F0 m 144 ls []) := by
    intro nf144
    induction nf144 with
    | zero =>
      intro x1 x2 x3 x4 z0_0 z0_2 ws H locs ls hn144 r_x1 r_x2 r_x3 r_x4 r_z0_0 m_z0_0 r_z0_2 m_z0_2 x_T0_p0 x_TLM_p0_0 hw hl
      exact absurd hn144 (by have q0 := r_x4.1; have u0 := r_x4.2; omega)
    | succ nf144 ih144 =>
      have B199 : ∀ (nf : Nat) (x1 : Int32) (x2 : Int32) (x3 : Int32) (x4 : Int32) (x5 : Int32) (z0_0 : Int32) (z0_2 : Int32) (ws : va_W) (H : Heap) (locs : List Loc) (ls : Array Slot), 8 - x5.toInt < (nf : Int) → RI x1 (-1) 5 → RI x2 (-2147483648) 2147483647 → RI x3 0 255 → RI x4 0 255 → RI x5 0 8 → RI z0_0 0 0 → FLD ws p0 10 0 (.int z0_0) → RI z0_2 0 0 → FLD ws p0 10 2 (.int z0_2) → AX 1 40 (fun f => (f 0).toInt ≤ 5) Ps ws p0 → TLM ws p0 (0) → 256 - x4.toInt < ((nf144 + 1 : Nat) : Int) → WD D cy GG A s wr_X10_sat__1 wa_X10_sat__1 Ps w0 Ps ws H locs → lv_has ls 6 [(0, .ref p0), (1, .int x1), (2, .int x2), (3, .int x3), (4, .int x4), (5, .int x5)] → W p l e (headSpec (Cond.code yX10_sat cX10_sat 6 (some .int) :: gT) ({ frames := 4, cells := 0, slots := 0, locals := 800 } : Room)).room s m ([.ref p0] : List Value).toArray below meth c H locs 0 0 Q (F0 m 199 ls []) := by
        intro nf199
        induction nf199 with
        | zero =>
          intro x1 x2 x3 x4 x5 z0_0 z0_2 ws H locs ls hn199 r_x1 r_x2 r_x3 r_x4 r_x5 r_z0_0 m_z0_0 r_z0_2 m_z0_2 x_T0_p0 x_TLM_p0_0 hn144 hw hl
          exact absurd hn199 (by have q0 := r_x5.1; have u0 := r_x5.2; omega)
        | succ nf199 ih199 =>
          intro x1 x2 x3 x4 x5 z0_0 z0_2 ws H locs ls hn199 r_x1 r_x2 r_x3 r_x4 r_x5 r_z0_0 m_z0_0 r_z0_2 m_z0_2 x_T0_p0 x_TLM_p0_0 hn144 hw hl
          refine lv_iload hx hb dX10_sat_199 (lv_at hl 5 rfl) ?_
          refine lv_bipush (v := 8) hx hb dX10_sat_201 (by decide) ?_
          refine lv_icmp_ge (tgt := 233) hx hb dX10_sat_203 (by decide) (fun c_203 => ?_) (fun c_203 => ?_)
          · have r_x5 : RI x5 8 8 := rc_le2 rl_8 r_x5 (ti_le c_203) (by decide)
            obtain ⟨v_16, e_v_16⟩ : ∃ q9 : Int32, q9 = x4 + Int32.ofInt 1 := ⟨_, rfl⟩
            obtain ⟨t_v_16, r_v_16⟩ := tq_add (lo := 1) (hi := 256) r_x4 (show RI (Int32.ofInt 1) 1 1 by unfold RI; decide +kernel) (by decide +kernel) e_v_16
            have t_v_16 : v_16.toInt = x4.toInt + 1 := t_v_16
            refine lv_iinc (v := v_16) (lv' := [(4, .int v_16), (0, .ref p0), (1, .int x1), (2, .int x2), (3, .int x3), (5, .int x5)]) hx hb dX10_sat_233 hl (k := 4) rfl e_v_16.symm (by decide) rfl (fun ls hl => ?_)
            refine lv_goto (tgt := 144) hx hb dX10_sat_236 (by decide) ?_
            exact ih144 x1 x2 x3 v_16 z0_0 z0_2 ws _ _ ls (by have q0 := r_v_16.1; have u0 := r_v_16.2; have o0 := r_x4.1; have p0 := r_x4.2; omega) r_x1 r_x2 r_x3 (r_v_16.to (by decide)) r_z0_0 m_z0_0 r_z0_2 m_z0_2 x_T0_p0 x_TLM_p0_0 hw (lv_sub hl [1, 2, 3, 4, 0] rfl)
          · have r_x5 : RI x5 0 7 := rc_lt1 r_x5 rl_8 (ti_nle c_203) (by decide)
            refine lv_iload hx hb dX10_sat_206 (lv_at hl 4 rfl) ?_
            refine lv_iload hx hb dX10_sat_208 (lv_at hl 5 rfl) ?_
            refine tk_ir (va_runS (As := [.int x4, .int x5]) (rest := []) ⟨hx, hb, hml, hown, hts⟩ (c_X10_has__3 l D cy z H.size Ps ws hw.1 x4 x5 r_x4 r_x5) (va_cwS 2 hts (gS tw_1402 tw_1403 tw_15 tw_1404) rfl rfl rfl (by decide +kernel) ⟨Nat.le_of_ble_eq_true rfl, Nat.le_of_ble_eq_true rfl⟩) (tg_preS hw hK hSD hA) rfl rfl hl.1 rfl (lv_room (Nat.le_of_ble_eq_true rfl)) dX10_sat_210 ⟨Nat.le_of_ble_eq_true rfl, Nat.le_of_ble_eq_true rfl⟩) hw hA (fun v_17  H locs hp_v_17 hw => ?_)
            have r_v_17 : RI v_17 0 1 := hp_v_17.1
            refine lv_if_eq (tgt := 227) hx hb dX10_sat_213 (by decide) (fun c_213 => ?_) (fun c_213 => ?_)
            · have r_v_17 : RI v_17 0 0 := rc_eq1 r_v_17 rl_0 (ti_eq c_213) (by decide)
              obtain ⟨v_18, e_v_18⟩ : ∃ q9 : Int32, q9 = x5 + Int32.ofInt 1 := ⟨_, rfl⟩
              obtain ⟨t_v_18, r_v_18⟩ := tq_add (lo := 1) (hi := 8) r_x5 (show RI (Int32.ofInt 1) 1 1 by unfold RI; decide +kernel) (by decide +kernel) e_v_18
              have t_v_18 : v_18.toInt = x5.toInt + 1 := t_v_18
              refine lv_iinc (v := v_18) (lv' := [(5, .int v_18), (0, .ref p0), (1, .int x1), (2, .int x2), (3, .int x3), (4, .int x4)]) hx hb dX10_sat_227 hl (k := 5) rfl e_v_18.symm (by decide) rfl (fun ls hl => ?_)
              refine lv_goto (tgt := 199) hx hb dX10_sat_230 (by decide) ?_
              exact ih199 x1 x2 x3 x4 v_18 z0_0 z0_2 ws _ _ ls (by have q0 := r_v_18.1; have u0 := r_v_18.2; have o0 := r_x5.1; have p0 := r_x5.2; omega) r_x1 r_x2 r_x3 r_x4 (r_v_18.to (by decide)) r_z0_0 m_z0_0 r_z0_2 m_z0_2 x_T0_p0 x_TLM_p0_0 (by have q0 := r_x4.1; have u0 := r_x4.2; omega) hw (lv_sub hl [1, 2, 3, 4, 5, 0] rfl)
            · have r_v_17 : RI v_17 1 1 := rc_neL r_v_17 rl_0 (ti_ne c_213) (by decide)
              refine lv_aload_n hx hb dX10_sat_216 rfl (lv_at hl 0 rfl) ?_
              refine tg_get (ci := 10) (ts := ty_MODEL) (C := RX10) (T := TX10) (N := 49) hx hb hts inX10 hown hK hw h_p0 rfl rfl 28 (by decide) (hts _ tw_1165) (fun _ h9 => h9) (ft := vR 47) rfl dX10_sat_217 (fun u_19 hv_u_19 m_u_19 => ?_)
              obtain ⟨vu_19, rfl, h_vu_19⟩ := hv_u_19
              refine lv_iload hx hb dX10_sat_220 (lv_at hl 5 rfl) ?_
              refine lv_dup2_11 hx hb dX10_sat_222 rfl rfl ?_
              refine tg_iald (lo := (-2147483648)) (hi := 2147483647) hx hb hK hw h_vu_19 rfl 0 7 r_x5 (by decide) (by exact fun _ _ _ => ⟨Int.le_refl _, Int.le_refl _⟩) dX10_sat_223 (fun v_20 r_v_20 m_v_20 o_v_20 => ?_)
              refine lv_iconst (v := 1) hx hb dX10_sat_224 (by decide) ?_
              refine lv_iadd hx hb dX10_sat_225 (lv_topi (fun v_21 e_v_21 => ?_))
              have r_v_21 := ri_any v_21
              refine tg_iast hx hb hK hw h_vu_19 rfl 0 7 r_x5 (by decide) r_v_21 (by exact fun _ _ _ => by decide) (fun _ _ _ _ _ => trivial) (by decide) dX10_sat_226 (fun ws H locs hw hF9 hU9 => ?_)
              have x_T0_p0 := AX.over hF9 x_T0_p0 (by decide)
              have x_TLM_p0_0 := TLM.over hF9 x_TLM_p0_0 (by decide)
              have m_z0_0 := FLD.over hF9 m_z0_0 (by decide)
              have m_z0_2 := FLD.over hF9 m_z0_2 (by decide)
              obtain ⟨v_22, e_v_22⟩ : ∃ q9 : Int32, q9 = x5 + Int32.ofInt 1 := ⟨_, rfl⟩
              obtain ⟨t_v_22, r_v_22⟩ := tq_add (lo := 1) (hi := 8) r_x5 (show RI (Int32.ofInt 1) 1 1 by unfold RI; decide +kernel) (by decide +kernel) e_v_22
              have t_v_22 : v_22.toInt = x5.toInt + 1 := t_v_22
              refine lv_iinc (v := v_22) (lv' := [(5, .int v_22), (0, .ref p0), (1, .int x1), (2, .int x2), (3, .int x3), (4, .int x4)]) hx hb dX10_sat_227 hl (k := 5) rfl e_v_22.symm (by decide) rfl (fun ls hl => ?_)
              refine lv_goto (tgt := 199) hx hb dX10_sat_230 (by decide) ?_
              exact ih199 x1 x2 x3 x4 v_22 z0_0 z0_2 ws _ _ ls (by have q0 := r_v_22.1; have u0 := r_v_22.2; have o0 := r_x5.1; have p0 := r_x5.2; omega) r_x1 r_x2 r_x3 r_x4 (r_v_22.to (by decide)) r_z0_0 m_z0_0 r_z0_2 m_z0_2 x_T0_p0 x_TLM_p0_0 (by have q0 := r_x4.1; have u0 := r_x4.2; omega) hw (lv_sub hl [1, 2, 3, 4, 5, 0] rfl)
      intro x1 x2 x3 x4 z0_0 z0_2 ws H locs ls hn144 r_x1 r_x2 r_x3 r_x4 r_z0_0 m_z0_0 r_z0_2 m_z0_2 x_T0_p0 x_TLM_p0_0 hw hl
      refine lv_iload hx hb dX10_sat_144 (lv_at hl 4 rfl) ?_
      refine lv_iconst (v := 1) hx hb dX10_sat_146 (by decide) ?_
      refine lv_aload_n hx hb dX10_sat_147 rfl (lv_at hl 0 rfl) ?_
      refine tg_get (ci := 10) (ts := ty_MODEL) (C := RX10) (T := TX10) (N := 49) hx hb hts inX10 hown hK hw h_p0 rfl rfl 14 (by decide) (hts _ tw_1151) (fun _ h9 => h9) (ft := vR 34) rfl dX10_sat_148 (fun u_23 hv_u_23 m_u_23 => ?_)
      obtain ⟨vu_23, rfl, h_vu_23⟩ := hv_u_23
      refine lv_iconst (v := 3) hx hb dX10_sat_151 (by decide) ?_
      refine tg_iald (lo := 0) (hi := 8) hx hb hK hw h_vu_23 rfl 3 3 rl_3 (by decide) (by decide +kernel) dX10_sat_152 (fun v_24 r_v_24 m_v_24 o_v_24 => ?_)
      refine lv_ishl hx hb dX10_sat_153 (lv_topi (fun v_25 e_v_25 => ?_))
      have r_v_25 : RI v_25 1 256 := by rw [e_v_25]; exact ri_shl1 (r_v_24.to (c := 0) (d := 8) (by decide)) (by decide)
      refine lv_icmp_ge (tgt := 239) hx hb dX10_sat_154 (by decide) (fun c_154 => ?_) (fun c_154 => ?_)
      · have r_x4 : RI x4 1 256 := rc_le2 r_v_25 r_x4 (ti_le c_154) (by decide)
        refine lv_iload_n hx hb dX10_sat_239 rfl (lv_at hl 2 rfl) ?_
        refine lv_if_ne (tgt := 245) hx hb dX10_sat_240 (by decide) (fun c_240 => ?_) (fun c_240 => ?_)
        · refine lv_aload_n hx hb dX10_sat_245 rfl (lv_at hl 0 rfl) ?_
          refine lv_iload_n hx hb dX10_sat_246 rfl (lv_at hl 3 rfl) ?_
          refine tg_put (ci := 10) (ts := ty_MODEL) (v := .int x3) (ty := .int) (C := RX10) (T := TX10) (N := 49) hx hb hts inX10 tyX10 tyX10_ok nmX10 hown hK hw h_p0 rfl rfl 29 (by decide) (hts _ tw_1166) (fun _ h9 => h9) rfl (by decide +kernel) rfl rfl (ft := vI (-2147483648) 2147483647) rfl ⟨_, rfl, (r_x3.to (by decide))⟩ (by decide) dX10_sat_247 (fun ws H locs hw n_k_26 hF9 => ?_)
          have m_z0_0 := FLD.over hF9 m_z0_0 (by decide)
          have m_z0_2 := FLD.over hF9 m_z0_2 (by decide)
          have x_T0_p0 := AX.over hF9 x_T0_p0 (by decide)
          have x_TLM_p0_0 := TLM.over hF9 x_TLM_p0_0 (by decide)
          refine lv_aload_n hx hb dX10_sat_250 rfl (lv_at hl 0 rfl) ?_
          refine lv_iconst (v := (-1)) hx hb dX10_sat_251 (by decide) ?_
          refine tg_put (ci := 10) (ts := ty_MODEL) (v := .int (-1)) (ty := .int) (C := RX10) (T := TX10) (N := 49) hx hb hts inX10 tyX10 tyX10_ok nmX10 hown hK hw h_p0 rfl rfl 30 (by decide) (hts _ tw_1167) (fun _ h9 => h9) rfl (by decide +kernel) rfl rfl (ft := vI (-1) 7) rfl ⟨_, rfl, (rl_m1.to (by decide))⟩ (by decide) dX10_sat_252 (fun ws H locs hw n_k_27 hF9 => ?_)
          have m_z0_0 := FLD.over hF9 m_z0_0 (by decide)
          have m_z0_2 := FLD.over hF9 m_z0_2 (by decide)
          have n_k_26 := FLD.over hF9 n_k_26 (by decide)
          have x_T0_p0 := AX.over hF9 x_T0_p0 (by decide)
          have x_TLM_p0_0 := TLM.over hF9 x_TLM_p0_0 (by decide)
          refine lv_iconst (v := 0) hx hb dX10_sat_255 (by decide) ?_
          refine lv_istore (lv' := [(4, .int 0), (0, .ref p0), (1, .int x1), (2, .int x2), (3, .int x3)]) hx hb dX10_sat_256 hl (by decide) rfl (fun ls hl => ?_)
          exact B258 4294967298 x1 x2 x3 0 z0_0 z0_2 x3 ws _ _ ls (by have q0 := rl_0.1; have u0 := rl_0.2; omega) r_x1 r_x2 r_x3 (rl_0.to (by decide)) r_z0_0 m_z0_0 r_z0_2 m_z0_2 r_x3 n_k_26 x_T0_p0 x_TLM_p0_0 hw (lv_sub hl [1, 2, 3, 4, 0] rfl)
        · have r_x2 : RI x2 0 0 := rc_eq1 r_x2 rl_0 (ti_eq c_240) (by decide)
          refine lv_iconst (v := 0) hx hb dX10_sat_243 (by decide) ?_
          subst hQ
          exact W.iret (v := 0) hx hb hr (fun t ht hW => ⟨⟨0, ws, rfl, ⟨⟨rl_0.to (by decide), (fun h0 => trivial), (fun _ => trivial), ⟨x_TLM_p0_0, trivial⟩, (fun _ => trivial), (fun _ => trivial)⟩, hw.1, hw.2.2.2.2.1⟩, by rw [ht]; exact hw.2.1, va_K.moved hW.alike hK, hw.2.2.1⟩, hw.2.2.2.1.F ht⟩) hw.2.2.2.1.2.2 dX10_sat_244
      · have r_x4 : RI x4 0 255 := rc_lt1 r_x4 r_v_25 (ti_nle c_154) (by decide)
        refine lv_aload_n hx hb dX10_sat_157 rfl (lv_at hl 0 rfl) ?_
        refine lv_iload hx hb dX10_sat_158 (lv_at hl 4 rfl) ?_
        refine lv_aload_n hx hb dX10_sat_160 rfl (lv_at hl 0 rfl) ?_
        refine tg_get (ci := 10) (ts := ty_MODEL) (C := RX10) (T := TX10) (N := 49) hx hb hts inX10 hown hK hw h_p0 rfl rfl 1 (by decide) (hts _ tw_1138) (fun _ h9 => h9) (ft := vR 40) rfl dX10_sat_161 (fun u_28 hv_u_28 m_u_28 => ?_)
        obtain ⟨vu_28, rfl, h_vu_28⟩ := hv_u_28
        refine lv_iconst (v := 0) hx hb dX10_sat_164 (by decide) ?_
        refine tg_iald (lo := 0) (hi := 255) hx hb hK hw h_vu_28 rfl 0 0 rl_0 (by decide) (by exact fun _ _ _ => ⟨Int.le_refl _, Int.le_refl _⟩) dX10_sat_165 (fun v_29 r_v_29 m_v_29 o_v_29 => ?_)
        have r_v_29 : RI v_29 0 5 := by obtain ⟨f9, h9, q9, g9⟩ := AX.use hw x_T0_p0 h_vu_28 rfl m_u_28; have e9 := g9 _ _ m_v_29; have j9 : Int32.toNatClampNeg 0 = 0 := (by decide); rw [j9] at e9; rw [e9] at h9; exact ⟨r_v_29.1, h9⟩
        refine lv_aload_n hx hb dX10_sat_166 rfl (lv_at hl 0 rfl) ?_
        refine tg_mem (ci := 10) (C := RX10) (T := TX10) (N := 49) hx hb hts inX10 hown hK hw 1 m_u_28 rfl (by decide) (hts _ tw_1138) (fun _ h9 => h9) dX10_sat_167 ?_
        refine lv_iconst (v := 1) hx hb dX10_sat_170 (by decide) ?_
        refine tg_iald (lo := 0) (hi := 255) hx hb hK hw h_vu_28 rfl 1 1 rl_1 (by decide) (by exact fun _ _ _ => ⟨Int.le_refl _, Int.le_refl _⟩) dX10_sat_171 (fun v_30 r_v_30 m_v_30 o_v_30 => ?_)
        refine lv_iload_n hx hb dX10_sat_172 rfl (lv_at hl 1 rfl) ?_
        refine lv_aload_n hx hb dX10_sat_173 rfl (lv_at hl 0 rfl) ?_
        refine tg_mem (ci := 10) (C := RX10) (T := TX10) (N := 49) hx hb hts inX10 hown hK hw 1 m_u_28 rfl (by decide) (hts _ tw_1138) (fun _ h9 => h9) dX10_sat_174 ?_
        refine lv_iconst (v := 3) hx hb dX10_sat_177 (by decide) ?_
        refine tg_iald (lo := 0) (hi := 255) hx hb hK hw h_vu_28 rfl 3 3 rl_3 (by decide) (by exact fun _ _ _ => ⟨Int.le_refl _, Int.le_refl _⟩) dX10_sat_178 (fun v_31 r_v_31 m_v_31 o_v_31 => ?_)
        refine tk_i (va_runV (As := [.int x4, .int v_29, .int v_30, .int x1, .int v_31]) (rest := []) ⟨hx, hb, hml, hown, hts⟩ (c_X10_satSo l D cy z H.size Ps ws hw.1 p0 x4 v_29 v_30 x1 v_31 h_p0 (r_x4.to (by decide)) r_v_29 (r_v_30.to (by decide)) (r_x1.to (by decide)) (r_v_31.to (by decide))) (cwV 5 hts (gV tw_1603 tw_1605 ts_90 tw_15 tw_1606) rfl rfl rfl (by decide +kernel) ⟨Nat.le_of_ble_eq_true rfl, Nat.le_of_ble_eq_true rfl⟩) (tg_preV hw hK hSD hA (ci := 10) (q := (RX10, TX10, 49)) rfl h_p0 rfl) rfl rfl hl.1 rfl (lv_room (Nat.le_of_ble_eq_true rfl)) dX10_sat_179 ⟨Nat.le_of_ble_eq_true rfl, Nat.le_of_ble_eq_true rfl⟩) hw hA ⟨by decide, by decide⟩ (fun v_32 ws H locs hp_v_32 hw hF9 => ?_)
        have m_z0_0 := FLD.over hF9 m_z0_0 (by decide)
        have m_z0_2 := FLD.over hF9 m_z0_2 (by decide)
        have x_T0_p0 := AX.over hF9 x_T0_p0 (by decide)
        have x_TLM_p0_0 := TLM.over hF9 x_TLM_p0_0 (by decide)
        have r_v_32 : RI v_32 0 1 := hp_v_32.1
        refine lv_if_ne (tgt := 188) hx hb dX10_sat_182 (by decide) (fun c_182 => ?_) (fun c_182 => ?_)
        · have r_v_32 : RI v_32 1 1 := rc_neL r_v_32 rl_0 (ti_ne c_182) (by decide)
          obtain ⟨v_33, e_v_33⟩ : ∃ q9 : Int32, q9 = x2 + Int32.ofInt 1 := ⟨_, rfl⟩
          have r_v_33 := ri_any v_33
          refine lv_iinc (v := v_33) (lv' := [(2, .int v_33), (0, .ref p0), (1, .int x1), (3, .int x3), (4, .int x4)]) hx hb dX10_sat_188 hl (k := 2) rfl e_v_33.symm (by decide) rfl (fun ls hl => ?_)
          refine lv_iload_n hx hb dX10_sat_191 rfl (lv_at hl 3 rfl) ?_
          refine lv_iload hx hb dX10_sat_192 (lv_at hl 4 rfl) ?_
          refine lv_iand hx hb dX10_sat_194 (lv_topi (fun v_34 e_v_34 => ?_))
          have r_v_34 : RI v_34 0 255 := by rw [e_v_34]; exact ri_and (d := 255) (r_x4.to (by decide)) (by decide)
          refine lv_istore_n (lv' := [(3, .int v_34), (2, .int v_33), (0, .ref p0), (1, .int x1), (4, .int x4)]) hx hb dX10_sat_195 rfl hl (by decide) rfl (fun ls hl => ?_)
          refine lv_iconst (v := 0) hx hb dX10_sat_196 (by decide) ?_
          refine lv_istore (lv' := [(5, .int 0), (3, .int v_34), (2, .int v_33), (0, .ref p0), (1, .int x1), (4, .int x4)]) hx hb dX10_sat_197 hl (by decide) rfl (fun ls hl => ?_)
          exact B199 4294967298 x1 v_33 v_34 x4 0 z0_0 z0_2 ws _ _ ls (by have q0 := rl_0.1; have u0 := rl_0.2; omega) r_x1 r_v_33 r_v_34 r_x4 (rl_0.to (by decide)) r_z0_0 m_z0_0 r_z0_2 m_z0_2 x_T0_p0 x_TLM_p0_0 (by have q0 := r_x4.1; have u0 := r_x4.2; omega) hw (lv_sub hl [3, 4, 2, 1, 5, 0] rfl)
        · have r_v_32 : RI v_32 0 0 := rc_eq1 r_v_32 rl_0 (ti_eq c_182) (by decide)
          refine lv_goto (tgt := 233) hx hb dX10_sat_185 (by decide) ?_
          obtain ⟨v_35, e_v_35⟩ : ∃ q9 : Int32, q9 = x4 + Int32.ofInt 1 := ⟨_, rfl⟩
          obtain ⟨t_v_35, r_v_35⟩ := tq_add (lo := 1) (hi := 256) r_x4 (show RI (Int32.ofInt 1) 1 1 by unfold RI; decide +kernel) (by decide +kernel) e_v_35
          have t_v_35 : v_35.toInt = x4.toInt + 1 := t_v_35
          refine lv_iinc (v := v_35) (lv' := [(4, .int v_35), (0, .ref p0), (1, .int x1), (2, .int x2), (3, .int x3)]) hx hb dX10_sat_233 hl (k := 4) rfl e_v_35.symm (by decide) rfl (fun ls hl => ?_)
          refine lv_goto (tgt := 144) hx hb dX10_sat_236 (by decide) ?_
          exact ih144 x1 x2 x3 v_35 z0_0 z0_2 ws _ _ ls (by have q0 := r_v_35.1; have u0 := r_v_35.2; have o0 := r_x4.1; have p0 := r_x4.2; omega) r_x1 r_x2 r_x3 (r_v_35.to (by decide)) r_z0_0 m_z0_0 r_z0_2 m_z0_2 x_T0_p0 x_TLM_p0_0 hw (lv_sub hl [1, 2, 3, 4, 0] rfl)
  have B120 : ∀ (nf : Nat) (x1 : Int32) (x2 : Int32) (x3 : Int32) (x4 : Int32) (z0_0 : Int32) (z0_2 : Int32) (ws : va_W) (H : Heap) (locs : List Loc) (ls : Array Slot), 8 - x4.toInt < (nf : Int) → RI x1 (-1) 5 → RI x2 0 0 → RI x3 0 255 → RI x4 0 8 → RI z0_0 0 0 → FLD ws p0 10 0 (.int z0_0) → RI z0_2 0 0 → FLD ws p0 10 2 (.int z0_2) → AX 1 40 (fun f => (f 0).toInt ≤ 5) Ps ws p0 → TLM ws p0 (0) → WD D cy GG A s wr_X10_sat__1 wa_X10_sat__1 Ps w0 Ps ws H locs → lv_has ls 6 [(0, .ref p0), (1, .int x1), (2, .int x2), (3, .int x3), (4, .int x4)] → W p l e (headSpec (Cond.code yX10_sat cX10_sat 6 (some .int) :: gT) ({ frames := 4, cells := 0, slots := 0, locals := 800 } : Room)).room s m ([.ref p0] : List Value).toArray below meth c H locs 0 0 Q (F0 m 120 ls []) := by
    intro nf120
    induction nf120 with
    | zero =>
      intro x1 x2 x3 x4 z0_0 z0_2 ws H locs ls hn120 r_x1 r_x2 r_x3 r_x4 r_z0_0 m_z0_0 r_z0_2 m_z0_2 x_T0_p0 x_TLM_p0_0 hw hl
      exact absurd hn120 (by have q0 := r_x4.1; have u0 := r_x4.2; omega)
    | succ nf120 ih120 =>
      intro x1 x2 x3 x4 z0_0 z0_2 ws H locs ls hn120 r_x1 r_x2 r_x3 r_x4 r_z0_0 m_z0_0 r_z0_2 m_z0_2 x_T0_p0 x_TLM_p0_0 hw hl
      refine lv_iload hx hb dX10_sat_120 (lv_at hl 4 rfl) ?_
      refine lv_bipush (v := 8) hx hb dX10_sat_122 (by decide) ?_
      refine lv_icmp_ge (tgt := 141) hx hb dX10_sat_124 (by decide) (fun c_124 => ?_) (fun c_124 => ?_)
      · have r_x4 : RI x4 8 8 := rc_le2 rl_8 r_x4 (ti_le c_124) (by decide)
        refine lv_iconst (v := 0) hx hb dX10_sat_141 (by decide) ?_
        refine lv_istore (lv' := [(4, .int 0), (0, .ref p0), (1, .int x1), (2, .int x2), (3, .int x3)]) hx hb dX10_sat_142 hl (by decide) rfl (fun ls hl => ?_)
        exact B144 4294967298 x1 x2 x3 0 z0_0 z0_2 ws _ _ ls (by have q0 := rl_0.1; have u0 := rl_0.2; omega) r_x1 (r_x2.to (by decide)) r_x3 (rl_0.to (by decide)) r_z0_0 m_z0_0 r_z0_2 m_z0_2 x_T0_p0 x_TLM_p0_0 hw (lv_sub hl [1, 2, 3, 4, 0] rfl)
      · have r_x4 : RI x4 0 7 := rc_lt1 r_x4 rl_8 (ti_nle c_124) (by decide)
        refine lv_aload_n hx hb dX10_sat_127 rfl (lv_at hl 0 rfl) ?_
        refine tg_get (ci := 10) (ts := ty_MODEL) (C := RX10) (T := TX10) (N := 49) hx hb hts inX10 hown hK hw h_p0 rfl rfl 28 (by decide) (hts _ tw_1165) (fun _ h9 => h9) (ft := vR 47) rfl dX10_sat_128 (fun u_36 hv_u_36 m_u_36 => ?_)
        obtain ⟨vu_36, rfl, h_vu_36⟩ := hv_u_36
        refine lv_iload hx hb dX10_sat_131 (lv_at hl 4 rfl) ?_
        refine lv_iconst (v := 0) hx hb dX10_sat_133 (by decide) ?_
        refine tg_iast hx hb hK hw h_vu_36 rfl 0 7 r_x4 (by decide) rl_0 (by exact fun _ _ _ => by decide) (fun _ _ _ _ _ => trivial) (by decide) dX10_sat_134 (fun ws H locs hw hF9 hU9 => ?_)
        have x_T0_p0 := AX.over hF9 x_T0_p0 (by decide)
        have x_TLM_p0_0 := TLM.over hF9 x_TLM_p0_0 (by decide)
        have m_z0_0 := FLD.over hF9 m_z0_0 (by decide)
        have m_z0_2 := FLD.over hF9 m_z0_2 (by decide)
        obtain ⟨v_37, e_v_37⟩ : ∃ q9 : Int32, q9 = x4 + Int32.ofInt 1 := ⟨_, rfl⟩
        obtain ⟨t_v_37, r_v_37⟩ := tq_add (lo := 1) (hi := 8) r_x4 (show RI (Int32.ofInt 1) 1 1 by unfold RI; decide +kernel) (by decide +kernel) e_v_37
        have t_v_37 : v_37.toInt = x4.toInt + 1 := t_v_37
        refine lv_iinc (v := v_37) (lv' := [(4, .int v_37), (0, .ref p0), (1, .int x1), (2, .int x2), (3, .int x3)]) hx hb dX10_sat_135 hl (k := 4) rfl e_v_37.symm (by decide) rfl (fun ls hl => ?_)
        refine lv_goto (tgt := 120) hx hb dX10_sat_138 (by decide) ?_
        exact ih120 x1 x2 x3 v_37 z0_0 z0_2 ws _ _ ls (by have q0 := r_v_37.1; have u0 := r_v_37.2; have o0 := r_x4.1; have p0 := r_x4.2; omega) r_x1 r_x2 r_x3 (r_v_37.to (by decide)) r_z0_0 m_z0_0 r_z0_2 m_z0_2 x_T0_p0 x_TLM_p0_0 hw (lv_sub hl [1, 2, 3, 4, 0] rfl)
  have B103 : ∀ (y0 : Int32) (z0_0 : Int32) (z0_2 : Int32) (ws : va_W) (H : Heap) (locs : List Loc) (ls : Array Slot), RI y0 (-1) 5 → RI z0_0 0 0 → FLD ws p0 10 0 (.int z0_0) → RI z0_2 0 0 → FLD ws p0 10 2 (.int z0_2) → AX 1 40 (fun f => (f 0).toInt ≤ 5) Ps ws p0 → TLM ws p0 (0) → WD D cy GG A s wr_X10_sat__1 wa_X10_sat__1 Ps w0 Ps ws H locs → lv_has ls 6 [(0, .ref p0)] → W p l e (headSpec (Cond.code yX10_sat cX10_sat 6 (some .int) :: gT) ({ frames := 4, cells := 0, slots := 0, locals := 800 } : Room)).room s m ([.ref p0] : List Value).toArray below meth c H locs 0 0 Q (F0 m 103 ls [.int y0]) := by
    intro y0 z0_0 z0_2 ws H locs ls r_y0 r_z0_0 m_z0_0 r_z0_2 m_z0_2 x_T0_p0 x_TLM_p0_0 hw hl
    refine lv_istore_n (lv' := [(1, .int y0), (0, .ref p0)]) hx hb dX10_sat_103 rfl hl (by decide) rfl (fun ls hl => ?_)
    refine lv_iconst (v := 0) hx hb dX10_sat_104 (by decide) ?_
    refine lv_istore_n (lv' := [(2, .int 0), (1, .int y0), (0, .ref p0)]) hx hb dX10_sat_105 rfl hl (by decide) rfl (fun ls hl => ?_)
    refine lv_iconst (v := 1) hx hb dX10_sat_106 (by decide) ?_
    refine lv_aload_n hx hb dX10_sat_107 rfl (lv_at hl 2 rfl) ?_
    refine tg_get (ci := 10) (ts := ty_MODEL) (C := RX10) (T := TX10) (N := 49) hx hb hts inX10 hown hK hw h_p0 rfl rfl 14 (by decide) (hts _ tw_1151) (fun _ h9 => h9) (ft := vR 34) rfl dX10_sat_108 (fun u_38 hv_u_38 m_u_38 => ?_)
    obtain ⟨vu_38, rfl, h_vu_38⟩ := hv_u_38
    refine lv_iconst (v := 3) hx hb dX10_sat_111 (by decide) ?_
    refine tg_iald (lo := 0) (hi := 8) hx hb hK hw h_vu_38 rfl 3 3 rl_3 (by decide) (by decide +kernel) dX10_sat_112 (fun v_39 r_v_39 m_v_39 o_v_39 => ?_)
    refine lv_ishl hx hb dX10_sat_113 (lv_topi (fun v_40 e_v_40 => ?_))
    have r_v_40 : RI v_40 1 256 := by rw [e_v_40]; exact ri_shl1 (r_v_39.to (c := 0) (d := 8) (by decide)) (by decide)
    refine lv_iconst (v := 1) hx hb dX10_sat_114 (by decide) ?_
    refine lv_isub hx hb dX10_sat_115 (lv_topi (fun v_41 e_v_41 => ?_))
    obtain ⟨t_v_41, r_v_41⟩ := tq_sub (lo := 0) (hi := 255) r_v_40 rl_1 (by decide +kernel) e_v_41
    have t_v_41 : v_41.toInt = v_40.toInt - 1 := t_v_41
    refine lv_istore_n (lv' := [(3, .int v_41), (2, .int 0), (1, .int y0), (0, .ref p0)]) hx hb dX10_sat_116 rfl hl (by decide) rfl (fun ls hl => ?_)
    refine lv_iconst (v := 0) hx hb dX10_sat_117 (by decide) ?_
    refine lv_istore (lv' := [(4, .int 0), (3, .int v_41), (2, .int 0), (1, .int y0), (0, .ref p0)]) hx hb dX10_sat_118 hl (by decide) rfl (fun ls hl => ?_)
    exact B120 4294967298 y0 0 v_41 0 z0_0 z0_2 ws _ _ ls (by have q0 := rl_0.1; have u0 := rl_0.2; omega) r_y0 rl_0 r_v_41 (rl_0.to (by decide)) r_z0_0 m_z0_0 r_z0_2 m_z0_2 x_T0_p0 x_TLM_p0_0 hw (lv_sub hl [4, 3, 2, 1, 0] rfl)
  refine lv_aload_n hx hb dX10_sat_0 rfl (lv_at hl 0 rfl) ?_
  refine lv_iconst (v := 0) hx hb dX10_sat_1 (by decide) ?_
  refine tg_put (ci := 10) (ts := ty_MODEL) (v := .int 0) (ty := .int) (C := RX10) (T := TX10) (N := 49) hx hb hts inX10 tyX10 tyX10_ok nmX10 hown hK hw h_p0 rfl rfl 0 (by decide) (hts _ tw_1137) (fun _ h9 => h9) rfl (by decide +kernel) rfl rfl (ft := vI (-2147483648) 2147483647) rfl ⟨_, rfl, (rl_0.to (by decide))⟩ (by decide) dX10_sat_2 (fun ws H locs hw n_k_42 hF9 => ?_)
  refine lv_aload_n hx hb dX10_sat_5 rfl (lv_at hl 0 rfl) ?_
  refine tk_i (va_runV (As := []) (rest := []) ⟨hx, hb, hml, hown, hts⟩ (c_X10_take__3 l D cy z H.size Ps ws hw.1 p0 h_p0) (cwV 0 hts (gV tw_1294 tw_1296 ts_39 tw_15 tw_1297) rfl rfl rfl (by decide +kernel) ⟨Nat.le_of_ble_eq_true rfl, Nat.le_of_ble_eq_true rfl⟩) (tg_preV hw hK hSD hA (ci := 10) (q := (RX10, TX10, 49)) rfl h_p0 rfl) rfl rfl hl.1 rfl (lv_room (Nat.le_of_ble_eq_true rfl)) dX10_sat_6 ⟨Nat.le_of_ble_eq_true rfl, Nat.le_of_ble_eq_true rfl⟩) hw hA ⟨by decide, by decide⟩ (fun v_43 ws H locs hp_v_43 hw hF9 => ?_)
  have n_k_42 := FLD.over hF9 n_k_42 (by decide)
  have r_v_43 : RI v_43 0 940 := hp_v_43.1
  by_cases c9_v_43 : v_43 = 0
  · have r_v_43 : RI v_43 0 0 := by rw [c9_v_43]; exact rl_0
    obtain ⟨v_44, m_v_44, r_v_44⟩ := ((hp_v_43.2.1 c9_v_43).1)
    have x_TLM_p0_0 := ((hp_v_43.2.1 c9_v_43).2.1)
    refine lv_iconst (v := 4) hx hb dX10_sat_9 (by decide) ?_
    refine lv_icmp_ne (tgt := 79) hx hb dX10_sat_10 (by decide) (fun c_10 => ?_) (fun c_10 => ?_)
    · refine lv_iconst (v := (-1)) hx hb dX10_sat_79 (by decide) ?_
      subst hQ
      exact W.iret (v := (-1)) hx hb hr (fun t ht hW => ⟨⟨(-1), ws, rfl, ⟨⟨rl_m1.to (by decide), (fun _ => trivial), (fun h0 => trivial), ⟨x_TLM_p0_0, trivial⟩, (fun _ => trivial), (fun _ => trivial)⟩, hw.1, hw.2.2.2.2.1⟩, by rw [ht]; exact hw.2.1, va_K.moved hW.alike hK, hw.2.2.1⟩, hw.2.2.2.1.F ht⟩) hw.2.2.2.1.2.2 dX10_sat_80
    · have r_v_43 : RI v_43 4 0 := rc_eq1 r_v_43 rl_4 (ti_eq c_10) (by decide)
      exact (r_v_43.no (by decide)).elim
  · have r_v_43 : RI v_43 1 940 := rc_neL r_v_43 rl_0 (ti_ne c9_v_43) (by decide)
    obtain ⟨v_45, m_v_45, r_v_45⟩ := ((hp_v_43.2.2 c9_v_43).1)
    have x_TLM_p0_0 := ((hp_v_43.2.2 c9_v_43).2.1)
    refine lv_iconst (v := 4) hx hb dX10_sat_9 (by decide) ?_
    refine lv_icmp_ne (tgt := 79) hx hb dX10_sat_10 (by decide) (fun c_10 => ?_) (fun c_10 => ?_)
    · refine lv_iconst (v := (-1)) hx hb dX10_sat_79 (by decide) ?_
      subst hQ
      exact W.iret (v := (-1)) hx hb hr (fun t ht hW => ⟨⟨(-1), ws, rfl, ⟨⟨rl_m1.to (by decide), (fun _ => trivial), (fun h0 => trivial), ⟨x_TLM_p0_0, trivial⟩, (fun _ => trivial), (fun _ => trivial)⟩, hw.1, hw.2.2.2.2.1⟩, by rw [ht]; exact hw.2.1, va_K.moved hW.alike hK, hw.2.2.1⟩, hw.2.2.2.1.F ht⟩) hw.2.2.2.1.2.2 dX10_sat_80
    · have r_v_43 : RI v_43 4 4 := rc_eq1 r_v_43 rl_4 (ti_eq c_10) (by decide)
      refine lv_aload_n hx hb dX10_sat_13 rfl (lv_at hl 0 rfl) ?_
      refine lv_aload_n hx hb dX10_sat_14 rfl (lv_at hl 0 rfl) ?_
      refine tg_get (ci := 10) (ts := ty_MODEL) (C := RX10) (T := TX10) (N := 49) hx hb hts inX10 hown hK hw h_p0 rfl rfl 1 (by decide) (hts _ tw_1138) (fun _ h9 => h9) (ft := vR 40) rfl dX10_sat_15 (fun u_46 hv_u_46 m_u_46 => ?_)
      obtain ⟨vu_46, rfl, h_vu_46⟩ := hv_u_46
      refine lv_iconst (v := 0) hx hb dX10_sat_18 (by decide) ?_
      refine tg_iald (lo := 0) (hi := 255) hx hb hK hw h_vu_46 rfl 0 0 rl_0 (by decide) (by exact fun _ _ _ => ⟨Int.le_refl _, Int.le_refl _⟩) dX10_sat_19 (fun v_47 r_v_47 m_v_47 o_v_47 => ?_)
      refine tk_ir (va_runV (As := [.int v_47]) (rest := []) ⟨hx, hb, hml, hown, hts⟩ (c_X10_isParcel l D cy z H.size Ps ws hw.1 p0 v_47 h_p0 (r_v_47.to (by decide))) (cwV 1 hts (gV tw_1429 tw_1431 ts_65 tw_15 tw_1432) rfl rfl rfl (by decide +kernel) ⟨Nat.le_of_ble_eq_true rfl, Nat.le_of_ble_eq_true rfl⟩) (tg_preV hw hK hSD hA (ci := 10) (q := (RX10, TX10, 49)) rfl h_p0 rfl) rfl rfl hl.1 rfl (lv_room (Nat.le_of_ble_eq_true rfl)) dX10_sat_20 ⟨Nat.le_of_ble_eq_true rfl, Nat.le_of_ble_eq_true rfl⟩) hw hA (fun v_48  H locs hp_v_48 hw => ?_)
      have r_v_48 : RI v_48 0 1 := hp_v_48.1
      refine lv_if_eq (tgt := 79) hx hb dX10_sat_23 (by decide) (fun c_23 => ?_) (fun c_23 => ?_)
      · have r_v_48 : RI v_48 0 0 := rc_eq1 r_v_48 rl_0 (ti_eq c_23) (by decide)
        refine lv_iconst (v := (-1)) hx hb dX10_sat_79 (by decide) ?_
        subst hQ
        exact W.iret (v := (-1)) hx hb hr (fun t ht hW => ⟨⟨(-1), ws, rfl, ⟨⟨rl_m1.to (by decide), (fun _ => trivial), (fun h0 => trivial), ⟨x_TLM_p0_0, trivial⟩, (fun _ => trivial), (fun _ => trivial)⟩, hw.1, hw.2.2.2.2.1⟩, by rw [ht]; exact hw.2.1, va_K.moved hW.alike hK, hw.2.2.1⟩, hw.2.2.2.1.F ht⟩) hw.2.2.2.1.2.2 dX10_sat_80
      · have r_v_48 : RI v_48 1 1 := rc_neL r_v_48 rl_0 (ti_ne c_23) (by decide)
        have r_v_47 : RI v_47 0 5 := ((hp_v_48.2.2 c_23).1)
        refine lv_aload_n hx hb dX10_sat_26 rfl (lv_at hl 0 rfl) ?_
        refine tg_mem (ci := 10) (C := RX10) (T := TX10) (N := 49) hx hb hts inX10 hown hK hw 1 m_u_46 rfl (by decide) (hts _ tw_1138) (fun _ h9 => h9) dX10_sat_27 ?_
        refine lv_iconst (v := 1) hx hb dX10_sat_30 (by decide) ?_
        refine tg_iald (lo := 0) (hi := 255) hx hb hK hw h_vu_46 rfl 1 1 rl_1 (by decide) (by exact fun _ _ _ => ⟨Int.le_refl _, Int.le_refl _⟩) dX10_sat_31 (fun v_49 r_v_49 m_v_49 o_v_49 => ?_)
        refine lv_iconst (v := 1) hx hb dX10_sat_32 (by decide) ?_
        refine lv_bipush (v := 30) hx hb dX10_sat_33 (by decide) ?_
        refine tk_ir (va_runS (As := [.int v_49, .int 1, .int 30]) (rest := []) ⟨hx, hb, hml, hown, hts⟩ (c_X10_isIn__11 l D cy z H.size Ps ws hw.1 v_49 1 30 r_v_49 rl_1 rl_30) (va_cwS 3 hts (gS tw_1359 tw_1360 tw_15 tw_1361) rfl rfl rfl (by decide +kernel) ⟨Nat.le_of_ble_eq_true rfl, Nat.le_of_ble_eq_true rfl⟩) (tg_preS hw hK hSD hA) rfl rfl hl.1 rfl (lv_room (Nat.le_of_ble_eq_true rfl)) dX10_sat_35 ⟨Nat.le_of_ble_eq_true rfl, Nat.le_of_ble_eq_true rfl⟩) hw hA (fun v_50  H locs hp_v_50 hw => ?_)
        have r_v_50 : RI v_50 0 1 := hp_v_50.1
        refine lv_if_eq (tgt := 79) hx hb dX10_sat_38 (by decide) (fun c_38 => ?_) (fun c_38 => ?_)
        · have r_v_50 : RI v_50 0 0 := rc_eq1 r_v_50 rl_0 (ti_eq c_38) (by decide)
          refine lv_iconst (v := (-1)) hx hb dX10_sat_79 (by decide) ?_
          subst hQ
          exact W.iret (v := (-1)) hx hb hr (fun t ht hW => ⟨⟨(-1), ws, rfl, ⟨⟨rl_m1.to (by decide), (fun _ => trivial), (fun h0 => trivial), ⟨x_TLM_p0_0, trivial⟩, (fun _ => trivial), (fun _ => trivial)⟩, hw.1, hw.2.2.2.2.1⟩, by rw [ht]; exact hw.2.1, va_K.moved hW.alike hK, hw.2.2.1⟩, hw.2.2.2.1.F ht⟩) hw.2.2.2.1.2.2 dX10_sat_80
        · have r_v_50 : RI v_50 1 1 := rc_neL r_v_50 rl_0 (ti_ne c_38) (by decide)
          have r_v_49 : RI v_49 1 30 := ((hp_v_50.2.2 c_38).1)
          refine lv_aload_n hx hb dX10_sat_41 rfl (lv_at hl 0 rfl) ?_
          refine tg_mem (ci := 10) (C := RX10) (T := TX10) (N := 49) hx hb hts inX10 hown hK hw 1 m_u_46 rfl (by decide) (hts _ tw_1138) (fun _ h9 => h9) dX10_sat_42 ?_
          refine lv_iconst (v := 2) hx hb dX10_sat_45 (by decide) ?_
          refine tg_iald (lo := 0) (hi := 255) hx hb hK hw h_vu_46 rfl 2 2 rl_2 (by decide) (by exact fun _ _ _ => ⟨Int.le_refl _, Int.le_refl _⟩) dX10_sat_46 (fun v_51 r_v_51 m_v_51 o_v_51 => ?_)
          refine lv_sipush (v := 255) hx hb dX10_sat_47 (by decide) ?_
          refine lv_icmp_eq (tgt := 66) hx hb dX10_sat_50 (by decide) (fun c_50 => ?_) (fun c_50 => ?_)
          · have r_v_51 : RI v_51 255 255 := rc_eq1 r_v_51 rl_255 (ti_eq c_50) (by decide)
            refine lv_aload_n hx hb dX10_sat_66 rfl (lv_at hl 0 rfl) ?_
            refine lv_aload_n hx hb dX10_sat_67 rfl (lv_at hl 0 rfl) ?_
            refine tg_mem (ci := 10) (C := RX10) (T := TX10) (N := 49) hx hb hts inX10 hown hK hw 1 m_u_46 rfl (by decide) (hts _ tw_1138) (fun _ h9 => h9) dX10_sat_68 ?_
            refine lv_iconst (v := 0) hx hb dX10_sat_71 (by decide) ?_
            refine tg_imem hx hb hK hw h_vu_46 rfl rl_0 (by decide) m_v_47 dX10_sat_72 ?_
            refine tk_ir (va_runV (As := [.int v_47]) (rest := []) ⟨hx, hb, hml, hown, hts⟩ (c_X10_isOpen l D cy z H.size Ps ws hw.1 p0 v_47 h_p0 (r_v_47.to (by decide))) (cwV 1 hts (gV tw_1457 tw_1459 ts_71 tw_15 tw_1460) rfl rfl rfl (by decide +kernel) ⟨Nat.le_of_ble_eq_true rfl, Nat.le_of_ble_eq_true rfl⟩) (tg_preV hw hK hSD hA (ci := 10) (q := (RX10, TX10, 49)) rfl h_p0 rfl) rfl rfl hl.1 rfl (lv_room (Nat.le_of_ble_eq_true rfl)) dX10_sat_73 ⟨Nat.le_of_ble_eq_true rfl, Nat.le_of_ble_eq_true rfl⟩) hw hA (fun v_53  H locs hp_v_53 hw => ?_)
            have r_v_53 : RI v_53 0 1 := hp_v_53.1
            refine lv_if_eq (tgt := 81) hx hb dX10_sat_76 (by decide) (fun c_76 => ?_) (fun c_76 => ?_)
            · have r_v_53 : RI v_53 0 0 := rc_eq1 r_v_53 rl_0 (ti_eq c_76) (by decide)
              have x_T0_p0 : AX 1 40 (fun f => (f 0).toInt ≤ 5) Ps ws p0 := AX.mk hw h_vu_46 rfl m_u_46 (fun f9 g9 _ => by have e9 := g9 _ _ m_v_47; have j9 : Int32.toNatClampNeg 0 = 0 := (by decide); rw [j9] at e9; show _; rw [e9]; exact r_v_47.2)
              refine lv_aload_n hx hb dX10_sat_81 rfl (lv_at hl 0 rfl) ?_
              refine tg_mem (ci := 10) (C := RX10) (T := TX10) (N := 49) hx hb hts inX10 hown hK hw 1 m_u_46 rfl (by decide) (hts _ tw_1138) (fun _ h9 => h9) dX10_sat_82 ?_
              refine lv_iconst (v := 2) hx hb dX10_sat_85 (by decide) ?_
              refine tg_imem hx hb hK hw h_vu_46 rfl rl_2 (by decide) m_v_51 dX10_sat_86 ?_
              refine lv_sipush (v := 255) hx hb dX10_sat_87 (by decide) ?_
              refine lv_icmp_ne (tgt := 97) hx hb dX10_sat_90 (by decide) (fun c_90 => ?_) (fun c_90 => ?_)
              · exact absurd (r_v_51.eq.trans rl_255.eq.symm) ((ti_ne c_90))
              · refine lv_iconst (v := (-1)) hx hb dX10_sat_93 (by decide) ?_
                refine lv_goto (tgt := 103) hx hb dX10_sat_94 (by decide) ?_
                exact B103 (-1) 0 v_45 ws _ _ ls (rl_m1.to (by decide)) rl_0 n_k_42 r_v_45 m_v_45 x_T0_p0 x_TLM_p0_0 hw hl
            · have r_v_53 : RI v_53 1 1 := rc_neL r_v_53 rl_0 (ti_ne c_76) (by decide)
              refine lv_iconst (v := (-1)) hx hb dX10_sat_79 (by decide) ?_
              subst hQ
              exact W.iret (v := (-1)) hx hb hr (fun t ht hW => ⟨⟨(-1), ws, rfl, ⟨⟨rl_m1.to (by decide), (fun _ => trivial), (fun h0 => trivial), ⟨x_TLM_p0_0, trivial⟩, (fun _ => trivial), (fun _ => trivial)⟩, hw.1, hw.2.2.2.2.1⟩, by rw [ht]; exact hw.2.1, va_K.moved hW.alike hK, hw.2.2.1⟩, hw.2.2.2.1.F ht⟩) hw.2.2.2.1.2.2 dX10_sat_80
          · have r_v_51 : RI v_51 0 254 := rc_neU r_v_51 rl_255 (ti_ne c_50) (by decide)
            refine lv_aload_n hx hb dX10_sat_53 rfl (lv_at hl 0 rfl) ?_
            refine lv_aload_n hx hb dX10_sat_54 rfl (lv_at hl 0 rfl) ?_
            refine tg_mem (ci := 10) (C := RX10) (T := TX10) (N := 49) hx hb hts inX10 hown hK hw 1 m_u_46 rfl (by decide) (hts _ tw_1138) (fun _ h9 => h9) dX10_sat_55 ?_
            refine lv_iconst (v := 2) hx hb dX10_sat_58 (by decide) ?_
            refine tg_imem hx hb hK hw h_vu_46 rfl rl_2 (by decide) m_v_51 dX10_sat_59 ?_
            refine tk_ir (va_runV (As := [.int v_51]) (rest := []) ⟨hx, hb, hml, hown, hts⟩ (c_X10_isIdea l D cy z H.size Ps ws hw.1 p0 v_51 h_p0 (r_v_51.to (by decide))) (cwV 1 hts (gV tw_1433 tw_1435 ts_66 tw_15 tw_1436) rfl rfl rfl (by decide +kernel) ⟨Nat.le_of_ble_eq_true rfl, Nat.le_of_ble_eq_true rfl⟩) (tg_preV hw hK hSD hA (ci := 10) (q := (RX10, TX10, 49)) rfl h_p0 rfl) rfl rfl hl.1 rfl (lv_room (Nat.le_of_ble_eq_true rfl)) dX10_sat_60 ⟨Nat.le_of_ble_eq_true rfl, Nat.le_of_ble_eq_true rfl⟩) hw hA (fun v_56  H locs hp_v_56 hw => ?_)
            have r_v_56 : RI v_56 0 1 := hp_v_56.1
            refine lv_if_eq (tgt := 79) hx hb dX10_sat_63 (by decide) (fun c_63 => ?_) (fun c_63 => ?_)
            · have r_v_56 : RI v_56 0 0 := rc_eq1 r_v_56 rl_0 (ti_eq c_63) (by decide)
              refine lv_iconst (v := (-1)) hx hb dX10_sat_79 (by decide) ?_
              subst hQ
              exact W.iret (v := (-1)) hx hb hr (fun t ht hW => ⟨⟨(-1), ws, rfl, ⟨⟨rl_m1.to (by decide), (fun _ => trivial), (fun h0 => trivial), ⟨x_TLM_p0_0, trivial⟩, (fun _ => trivial), (fun _ => trivial)⟩, hw.1, hw.2.2.2.2.1⟩, by rw [ht]; exact hw.2.1, va_K.moved hW.alike hK, hw.2.2.1⟩, hw.2.2.2.1.F ht⟩) hw.2.2.2.1.2.2 dX10_sat_80
            · have r_v_56 : RI v_56 1 1 := rc_neL r_v_56 rl_0 (ti_ne c_63) (by decide)
              have r_v_51 : RI v_51 0 5 := ((hp_v_56.2.2 c_63).1)
              refine lv_aload_n hx hb dX10_sat_66 rfl (lv_at hl 0 rfl) ?_
              refine lv_aload_n hx hb dX10_sat_67 rfl (lv_at hl 0 rfl) ?_
              refine tg_mem (ci := 10) (C := RX10) (T := TX10) (N := 49) hx hb hts inX10 hown hK hw 1 m_u_46 rfl (by decide) (hts _ tw_1138) (fun _ h9 => h9) dX10_sat_68 ?_
              refine lv_iconst (v := 0) hx hb dX10_sat_71 (by decide) ?_
              refine tg_imem hx hb hK hw h_vu_46 rfl rl_0 (by decide) m_v_47 dX10_sat_72 ?_
              refine tk_ir (va_runV (As := [.int v_47]) (rest := []) ⟨hx, hb, hml, hown, hts⟩ (c_X10_isOpen l D cy z H.size Ps ws hw.1 p0 v_47 h_p0 (r_v_47.to (by decide))) (cwV 1 hts (gV tw_1457 tw_1459 ts_71 tw_15 tw_1460) rfl rfl rfl (by decide +kernel) ⟨Nat.le_of_ble_eq_true rfl, Nat.le_of_ble_eq_true rfl⟩) (tg_preV hw hK hSD hA (ci := 10) (q := (RX10, TX10, 49)) rfl h_p0 rfl) rfl rfl hl.1 rfl (lv_room (Nat.le_of_ble_eq_true rfl)) dX10_sat_73 ⟨Nat.le_of_ble_eq_true rfl, Nat.le_of_ble_eq_true rfl⟩) hw hA (fun v_58  H locs hp_v_58 hw => ?_)
              have r_v_58 : RI v_58 0 1 := hp_v_58.1
              refine lv_if_eq (tgt := 81) hx hb dX10_sat_76 (by decide) (fun c_76 => ?_) (fun c_76 => ?_)
              · have r_v_58 : RI v_58 0 0 := rc_eq1 r_v_58 rl_0 (ti_eq c_76) (by decide)
                have x_T0_p0 : AX 1 40 (fun f => (f 0).toInt ≤ 5) Ps ws p0 := AX.mk hw h_vu_46 rfl m_u_46 (fun f9 g9 _ => by have e9 := g9 _ _ m_v_47; have j9 : Int32.toNatClampNeg 0 = 0 := (by decide); rw [j9] at e9; show _; rw [e9]; exact r_v_47.2)
                refine lv_aload_n hx hb dX10_sat_81 rfl (lv_at hl 0 rfl) ?_
                refine tg_mem (ci := 10) (C := RX10) (T := TX10) (N := 49) hx hb hts inX10 hown hK hw 1 m_u_46 rfl (by decide) (hts _ tw_1138) (fun _ h9 => h9) dX10_sat_82 ?_
                refine lv_iconst (v := 2) hx hb dX10_sat_85 (by decide) ?_
                refine tg_imem hx hb hK hw h_vu_46 rfl rl_2 (by decide) m_v_51 dX10_sat_86 ?_
                refine lv_sipush (v := 255) hx hb dX10_sat_87 (by decide) ?_
                refine lv_icmp_ne (tgt := 97) hx hb dX10_sat_90 (by decide) (fun c_90 => ?_) (fun c_90 => ?_)
                · refine lv_aload_n hx hb dX10_sat_97 rfl (lv_at hl 0 rfl) ?_
                  refine tg_mem (ci := 10) (C := RX10) (T := TX10) (N := 49) hx hb hts inX10 hown hK hw 1 m_u_46 rfl (by decide) (hts _ tw_1138) (fun _ h9 => h9) dX10_sat_98 ?_
                  refine lv_iconst (v := 2) hx hb dX10_sat_101 (by decide) ?_
                  refine tg_imem hx hb hK hw h_vu_46 rfl rl_2 (by decide) m_v_51 dX10_sat_102 ?_
                  exact B103 v_51 0 v_45 ws _ _ ls (r_v_51.to (by decide)) rl_0 n_k_42 r_v_45 m_v_45 x_T0_p0 x_TLM_p0_0 hw hl
                · have r_v_51 : RI v_51 255 5 := rc_eq1 r_v_51 rl_255 (ti_eq c_90) (by decide)
                  exact (r_v_51.no (by decide)).elim
              · have r_v_58 : RI v_58 1 1 := rc_neL r_v_58 rl_0 (ti_ne c_76) (by decide)
                refine lv_iconst (v := (-1)) hx hb dX10_sat_79 (by decide) ?_
                subst hQ
                exact W.iret (v := (-1)) hx hb hr (fun t ht hW => ⟨⟨(-1), ws, rfl, ⟨⟨rl_m1.to (by decide), (fun _ => trivial), (fun h0 => trivial), ⟨x_TLM_p0_0, trivial⟩, (fun _ => trivial), (fun _ => trivial)⟩, hw.1, hw.2.2.2.2.1⟩, by rw [ht]; exact hw.2.1, va_K.moved hW.alike hK, hw.2.2.1⟩, hw.2.2.2.1.F ht⟩) hw.2.2.2.1.2.2 dX10_sat_80
abbrev wr_X10_begin__7 : List (Nat × Nat) := [(10, 0), (10, 2), (10, 3), (10, 4), (10, 5), (10, 6), (10, 7), (10, 8), (10, 9), (10, 10), (10, 12)]
abbrev wa_X10_begin__7 : List Nat := []
set_option maxHeartbeats 4000000 in
set_option maxRecDepth 100000 in
theorem c_X10_begin__7 (l : Launch) (D : va_G) (cy : Nat → ClassId) (z : Nat → Nat) (sz : Nat) (Ps : PSI) (w0 : va_W) (hT : HT cy GG Ps w0) (p0 : Nat) (p1 : Int32) (h_p0 : (p0, 55) ∈ Ps) (r_p1 : RI p1 200 200) : Met l yX10_begin (Cond.code yX10_begin cX10_begin 2 none :: gT) ({ frames := 3, cells := 0, slots := 0, locals := 600 } : Room) (va_Pc [.ref p0, .int p1] (PRE D cy z w0 sz)) (va_Qv (fun (u : va_W) => ((∃ v9 : Int32, FLD u p0 10 2 (.int v9) ∧ RI v9 0 0) ∧ TLM u p0 (0) ∧ True) ∧ HT cy GG Ps u ∧ FR wr_X10_begin__7 wa_X10_begin__7 Ps w0 u) (BB D cy (va_A w0 sz) (fun (u : va_W) => u)) (va_A w0 sz)) 0 0 (va_A w0 sz) := by
  refine Met.ofW (cc := cX10_begin) (maxL := 2) (ret := none) (by decide) rfl ?_
  intro p e s m args below meth c s₁ B hml hv
  obtain ⟨rfl, hsz, hP, hK, hD0, hSD⟩ := hv
  have hx := B.exec
  have hb := B.bytes
  have hr := B.returns
  have hlocks := B.notSynchronized
  have hts : ∀ w ∈ gT, w.before _ s = true := fun w h => atoms_spec (ws := Cond.code yX10_begin cX10_begin 2 none :: gT) B.pre w (List.mem_cons_of_mem _ h)
  have hown : s.vm.findClass RX10 = some m.cls := findClass_of_methodNamed B.named
  subst hsz
  have hD := hD0.self (sz := s.heap.size)
  generalize hAe : va_A w0 s.heap.size = A at hD hSD ⊢
  have hA : ∀ q : Nat, s.heap.size ≤ q → A q := fun q h => by rw [← hAe]; exact Or.inr h
  have hl := lv_entry ([.ref p0, .int p1]) (n := 2) (Nat.le_of_ble_eq_true rfl)
  rw [lg_entry_eq]
  generalize (lg_sl ([.ref p0, .int p1]) ++ List.replicate (2 - (lg_sl ([.ref p0, .int p1])).length) Slot.unset).toArray = ls at hl ⊢
  have hl : lv_has ls 2 [(0, .ref p0), (1, .int p1)] := hl
  refine nameQ (fun Q hQ => ?_)
  have hw : WD D cy GG A s wr_X10_begin__7 wa_X10_begin__7 Ps w0 Ps w0 s.heap [] := ⟨hT, hP, hD, va_S.rf, FR.rf, hT.1, [], (List.append_nil _).symm⟩
  refine lv_aload_n hx hb dX10_begin_0 rfl (lv_at hl 0 rfl) ?_
  refine lv_iconst (v := 0) hx hb dX10_begin_1 (by decide) ?_
  refine tg_put (ci := 10) (ts := ty_MODEL) (v := .int 0) (ty := .int) (C := RX10) (T := TX10) (N := 49) hx hb hts inX10 tyX10 tyX10_ok nmX10 hown hK hw h_p0 rfl rfl 0 (by decide) (hts _ tw_1137) (fun _ h9 => h9) rfl (by decide +kernel) rfl rfl (ft := vI (-2147483648) 2147483647) rfl ⟨_, rfl, (rl_0.to (by decide))⟩ (by decide) dX10_begin_2 (fun ws H locs hw n_k_1 hF9 => ?_)
  refine lv_aload_n hx hb dX10_begin_5 rfl (lv_at hl 0 rfl) ?_
  refine lv_aload_n hx hb dX10_begin_6 rfl (lv_at hl 0 rfl) ?_
  refine tk_i (va_runV (As := []) (rest := [.ref p0]) ⟨hx, hb, hml, hown, hts⟩ (c_X10_take__3 l D cy z H.size Ps ws hw.1 p0 h_p0) (cwV 0 hts (gV tw_1294 tw_1296 ts_39 tw_15 tw_1297) rfl rfl rfl (by decide +kernel) ⟨Nat.le_of_ble_eq_true rfl, Nat.le_of_ble_eq_true rfl⟩) (tg_preV hw hK hSD hA (ci := 10) (q := (RX10, TX10, 49)) rfl h_p0 rfl) rfl rfl hl.1 rfl (lv_room (Nat.le_of_ble_eq_true rfl)) dX10_begin_7 ⟨Nat.le_of_ble_eq_true rfl, Nat.le_of_ble_eq_true rfl⟩) hw hA ⟨by decide, by decide⟩ (fun v_2 ws H locs hp_v_2 hw hF9 => ?_)
  have n_k_1 := FLD.over hF9 n_k_1 (by decide)
  have r_v_2 : RI v_2 0 940 := hp_v_2.1
  by_cases c9_v_2 : v_2 = 0
  · have r_v_2 : RI v_2 0 0 := by rw [c9_v_2]; exact rl_0
    obtain ⟨v_3, m_v_3, r_v_3⟩ := ((hp_v_2.2.1 c9_v_2).1)
    have x_TLM_p0_0 := ((hp_v_2.2.1 c9_v_2).2.1)
    refine tg_put (ci := 10) (ts := ty_MODEL) (v := .int v_2) (ty := .int) (C := RX10) (T := TX10) (N := 49) hx hb hts inX10 tyX10 tyX10_ok nmX10 hown hK hw h_p0 rfl rfl 3 (by decide) (hts _ tw_1140) (fun _ h9 => h9) rfl (by decide +kernel) rfl rfl (ft := vI 0 940) rfl ⟨_, rfl, (r_v_2.to (by decide))⟩ (by decide) dX10_begin_10 (fun ws H locs hw n_k_4 hF9 => ?_)
    have n_k_1 := FLD.over hF9 n_k_1 (by decide)
    have m_v_3 := FLD.over hF9 m_v_3 (by decide)
    have x_TLM_p0_0 := TLM.over hF9 x_TLM_p0_0 (by decide)
    refine lv_aload_n hx hb dX10_begin_13 rfl (lv_at hl 0 rfl) ?_
    refine lv_iload_n hx hb dX10_begin_14 rfl (lv_at hl 1 rfl) ?_
    refine tg_put (ci := 10) (ts := ty_MODEL) (v := .int p1) (ty := .int) (C := RX10) (T := TX10) (N := 49) hx hb hts inX10 tyX10 tyX10_ok nmX10 hown hK hw h_p0 rfl rfl 4 (by decide) (hts _ tw_1141) (fun _ h9 => h9) rfl (by decide +kernel) rfl rfl (ft := vI (-2147483648) 2147483647) rfl ⟨_, rfl, (r_p1.to (by decide))⟩ (by decide) dX10_begin_15 (fun ws H locs hw n_k_5 hF9 => ?_)
    have n_k_1 := FLD.over hF9 n_k_1 (by decide)
    have m_v_3 := FLD.over hF9 m_v_3 (by decide)
    have n_k_4 := FLD.over hF9 n_k_4 (by decide)
    have x_TLM_p0_0 := TLM.over hF9 x_TLM_p0_0 (by decide)
    refine lv_aload_n hx hb dX10_begin_18 rfl (lv_at hl 0 rfl) ?_
    refine lv_iconst (v := 0) hx hb dX10_begin_19 (by decide) ?_
    refine tg_put (ci := 10) (ts := ty_MODEL) (v := .int 0) (ty := .int) (C := RX10) (T := TX10) (N := 49) hx hb hts inX10 tyX10 tyX10_ok nmX10 hown hK hw h_p0 rfl rfl 10 (by decide) (hts _ tw_1147) (fun _ h9 => h9) rfl (by decide +kernel) rfl rfl (ft := vI (-2147483648) 2147483647) rfl ⟨_, rfl, (rl_0.to (by decide))⟩ (by decide) dX10_begin_20 (fun ws H locs hw n_k_6 hF9 => ?_)
    have n_k_1 := FLD.over hF9 n_k_1 (by decide)
    have m_v_3 := FLD.over hF9 m_v_3 (by decide)
    have n_k_4 := FLD.over hF9 n_k_4 (by decide)
    have n_k_5 := FLD.over hF9 n_k_5 (by decide)
    have x_TLM_p0_0 := TLM.over hF9 x_TLM_p0_0 (by decide)
    refine lv_aload_n hx hb dX10_begin_23 rfl (lv_at hl 0 rfl) ?_
    refine lv_iconst (v := 0) hx hb dX10_begin_24 (by decide) ?_
    refine tg_put (ci := 10) (ts := ty_MODEL) (v := .int 0) (ty := .int) (C := RX10) (T := TX10) (N := 49) hx hb hts inX10 tyX10 tyX10_ok nmX10 hown hK hw h_p0 rfl rfl 5 (by decide) (hts _ tw_1142) (fun _ h9 => h9) rfl (by decide +kernel) rfl rfl (ft := vI 0 940) rfl ⟨_, rfl, (rl_0.to (by decide))⟩ (by decide) dX10_begin_25 (fun ws H locs hw n_k_7 hF9 => ?_)
    have n_k_1 := FLD.over hF9 n_k_1 (by decide)
    have m_v_3 := FLD.over hF9 m_v_3 (by decide)
    have n_k_4 := FLD.over hF9 n_k_4 (by decide)
    have n_k_5 := FLD.over hF9 n_k_5 (by decide)
    have n_k_6 := FLD.over hF9 n_k_6 (by decide)
    have x_TLM_p0_0 := TLM.over hF9 x_TLM_p0_0 (by decide)
    refine lv_aload_n hx hb dX10_begin_28 rfl (lv_at hl 0 rfl) ?_
    refine tk_v (va_runV (As := []) (rest := []) ⟨hx, hb, hml, hown, hts⟩ (c_X10_go l D cy z H.size Ps ws hw.1 p0 h_p0) (cwV 0 hts (gV tw_1298 tw_1300 ts_40 tw_15 tw_1301) rfl rfl rfl (by decide +kernel) ⟨Nat.le_of_ble_eq_true rfl, Nat.le_of_ble_eq_true rfl⟩) (tg_preV hw hK hSD hA (ci := 10) (q := (RX10, TX10, 49)) rfl h_p0 rfl) rfl rfl hl.1 rfl (lv_room (Nat.le_of_ble_eq_true rfl)) dX10_begin_29 ⟨Nat.le_of_ble_eq_true rfl, Nat.le_of_ble_eq_true rfl⟩) hw hA ⟨by decide, by decide⟩ (fun ws H locs hp_v_8 hw hF9 => ?_)
    have n_k_1 := FLD.over hF9 n_k_1 (by decide)
    have m_v_3 := FLD.over hF9 m_v_3 (by decide)
    have n_k_4 := FLD.over hF9 n_k_4 (by decide)
    have n_k_5 := FLD.over hF9 n_k_5 (by decide)
    have n_k_6 := FLD.over hF9 n_k_6 (by decide)
    have x_TLM_p0_0 := TLM.over hF9 x_TLM_p0_0 (by decide)
    subst hQ
    exact W.vret hx hb hr (fun t ht hW => ⟨⟨ws, rfl, ⟨⟨⟨_, m_v_3, r_v_3⟩, x_TLM_p0_0, trivial⟩, hw.1, hw.2.2.2.2.1⟩, by rw [ht]; exact hw.2.1, va_K.moved hW.alike hK, hw.2.2.1⟩, hw.2.2.2.1.F ht⟩) hw.2.2.2.1.2.2 dX10_begin_32
  · have r_v_2 : RI v_2 1 940 := rc_neL r_v_2 rl_0 (ti_ne c9_v_2) (by decide)
    obtain ⟨v_9, m_v_9, r_v_9⟩ := ((hp_v_2.2.2 c9_v_2).1)
    have x_TLM_p0_0 := ((hp_v_2.2.2 c9_v_2).2.1)
    refine tg_put (ci := 10) (ts := ty_MODEL) (v := .int v_2) (ty := .int) (C := RX10) (T := TX10) (N := 49) hx hb hts inX10 tyX10 tyX10_ok nmX10 hown hK hw h_p0 rfl rfl 3 (by decide) (hts _ tw_1140) (fun _ h9 => h9) rfl (by decide +kernel) rfl rfl (ft := vI 0 940) rfl ⟨_, rfl, (r_v_2.to (by decide))⟩ (by decide) dX10_begin_10 (fun ws H locs hw n_k_10 hF9 => ?_)
    have n_k_1 := FLD.over hF9 n_k_1 (by decide)
    have m_v_9 := FLD.over hF9 m_v_9 (by decide)
    have x_TLM_p0_0 := TLM.over hF9 x_TLM_p0_0 (by decide)
    refine lv_aload_n hx hb dX10_begin_13 rfl (lv_at hl 0 rfl) ?_
    refine lv_iload_n hx hb dX10_begin_14 rfl (lv_at hl 1 rfl) ?_
    refine tg_put (ci := 10) (ts := ty_MODEL) (v := .int p1) (ty := .int) (C := RX10) (T := TX10) (N := 49) hx hb hts inX10 tyX10 tyX10_ok nmX10 hown hK hw h_p0 rfl rfl 4 (by decide) (hts _ tw_1141) (fun _ h9 => h9) rfl (by decide +kernel) rfl rfl (ft := vI (-2147483648) 2147483647) rfl ⟨_, rfl, (r_p1.to (by decide))⟩ (by decide) dX10_begin_15 (fun ws H locs hw n_k_11 hF9 => ?_)
    have n_k_1 := FLD.over hF9 n_k_1 (by decide)
    have m_v_9 := FLD.over hF9 m_v_9 (by decide)
    have n_k_10 := FLD.over hF9 n_k_10 (by decide)
    have x_TLM_p0_0 := TLM.over hF9 x_TLM_p0_0 (by decide)
    refine lv_aload_n hx hb dX10_begin_18 rfl (lv_at hl 0 rfl) ?_
    refine lv_iconst (v := 0) hx hb dX10_begin_19 (by decide) ?_
    refine tg_put (ci := 10) (ts := ty_MODEL) (v := .int 0) (ty := .int) (C := RX10) (T := TX10) (N := 49) hx hb hts inX10 tyX10 tyX10_ok nmX10 hown hK hw h_p0 rfl rfl 10 (by decide) (hts _ tw_1147) (fun _ h9 => h9) rfl (by decide +kernel) rfl rfl (ft := vI (-2147483648) 2147483647) rfl ⟨_, rfl, (rl_0.to (by decide))⟩ (by decide) dX10_begin_20 (fun ws H locs hw n_k_12 hF9 => ?_)
    have n_k_1 := FLD.over hF9 n_k_1 (by decide)
    have m_v_9 := FLD.over hF9 m_v_9 (by decide)
    have n_k_10 := FLD.over hF9 n_k_10 (by decide)
    have n_k_11 := FLD.over hF9 n_k_11 (by decide)
    have x_TLM_p0_0 := TLM.over hF9 x_TLM_p0_0 (by decide)
    refine lv_aload_n hx hb dX10_begin_23 rfl (lv_at hl 0 rfl) ?_
    refine lv_iconst (v := 0) hx hb dX10_begin_24 (by decide) ?_
    refine tg_put (ci := 10) (ts := ty_MODEL) (v := .int 0) (ty := .int) (C := RX10) (T := TX10) (N := 49) hx hb hts inX10 tyX10 tyX10_ok nmX10 hown hK hw h_p0 rfl rfl 5 (by decide) (hts _ tw_1142) (fun _ h9 => h9) rfl (by decide +kernel) rfl rfl (ft := vI 0 940) rfl ⟨_, rfl, (rl_0.to (by decide))⟩ (by decide) dX10_begin_25 (fun ws H locs hw n_k_13 hF9 => ?_)
    have n_k_1 := FLD.over hF9 n_k_1 (by decide)
    have m_v_9 := FLD.over hF9 m_v_9 (by decide)
    have n_k_10 := FLD.over hF9 n_k_10 (by decide)
    have n_k_11 := FLD.over hF9 n_k_11 (by decide)
    have n_k_12 := FLD.over hF9 n_k_12 (by decide)
    have x_TLM_p0_0 := TLM.over hF9 x_TLM_p0_0 (by decide)
    refine lv_aload_n hx hb dX10_begin_28 rfl (lv_at hl 0 rfl) ?_
    refine tk_v (va_runV (As := []) (rest := []) ⟨hx, hb, hml, hown, hts⟩ (c_X10_go l D cy z H.size Ps ws hw.1 p0 h_p0) (cwV 0 hts (gV tw_1298 tw_1300 ts_40 tw_15 tw_1301) rfl rfl rfl (by decide +kernel) ⟨Nat.le_of_ble_eq_true rfl, Nat.le_of_ble_eq_true rfl⟩) (tg_preV hw hK hSD hA (ci := 10) (q := (RX10, TX10, 49)) rfl h_p0 rfl) rfl rfl hl.1 rfl (lv_room (Nat.le_of_ble_eq_true rfl)) dX10_begin_29 ⟨Nat.le_of_ble_eq_true rfl, Nat.le_of_ble_eq_true rfl⟩) hw hA ⟨by decide, by decide⟩ (fun ws H locs hp_v_14 hw hF9 => ?_)
    have n_k_1 := FLD.over hF9 n_k_1 (by decide)
    have m_v_9 := FLD.over hF9 m_v_9 (by decide)
    have n_k_10 := FLD.over hF9 n_k_10 (by decide)
    have n_k_11 := FLD.over hF9 n_k_11 (by decide)
    have n_k_12 := FLD.over hF9 n_k_12 (by decide)
    have x_TLM_p0_0 := TLM.over hF9 x_TLM_p0_0 (by decide)
    subst hQ
    exact W.vret hx hb hr (fun t ht hW => ⟨⟨ws, rfl, ⟨⟨⟨_, m_v_9, r_v_9⟩, x_TLM_p0_0, trivial⟩, hw.1, hw.2.2.2.2.1⟩, by rw [ht]; exact hw.2.1, va_K.moved hW.alike hK, hw.2.2.1⟩, hw.2.2.2.1.F ht⟩) hw.2.2.2.1.2.2 dX10_begin_32
abbrev wr_X10_sentence__1 : List (Nat × Nat) := [(10, 0), (10, 2), (10, 3), (10, 4), (10, 5), (10, 6), (10, 7), (10, 8), (10, 9), (10, 10), (10, 11), (10, 12), (10, 13), (10, 45), (10, 46), (10, 47), (10, 48)]
abbrev wa_X10_sentence__1 : List Nat := [34, 54]
set_option maxHeartbeats 4000000 in
set_option maxRecDepth 100000 in
theorem c_X10_sentence__1 (l : Launch) (D : va_G) (cy : Nat → ClassId) (z : Nat → Nat) (sz : Nat) (Ps : PSI) (w0 : va_W) (hT : HT cy GG Ps w0) (p0 : Nat) (h_p0 : (p0, 55) ∈ Ps) : Met l yX10_sentence (Cond.code yX10_sentence cX10_sentence 2 (some .int) :: gT) ({ frames := 39, cells := 0, slots := 0, locals := 7800 } : Room) (va_Pc [.ref p0] (PRE D cy z w0 sz)) (va_Qi (fun (r : Int32) (u : va_W) => (RI r (-2147483648) 2147483647 ∧ (r = 0 → True) ∧ (¬ r = 0 → True) ∧ (TLM u p0 (0) ∧ True) ∧ (r.toInt < 0 → True) ∧ (0 ≤ r.toInt → True)) ∧ HT cy GG Ps u ∧ FR wr_X10_sentence__1 wa_X10_sentence__1 Ps w0 u) (BB D cy (va_A w0 sz) (fun (u : va_W) => u)) (va_A w0 sz)) 0 0 (va_A w0 sz) := by
  refine Met.ofW (cc := cX10_sentence) (maxL := 2) (ret := (some .int)) (by decide) rfl ?_
  intro p e s m args below meth c s₁ B hml hv
  obtain ⟨rfl, hsz, hP, hK, hD0, hSD⟩ := hv
  have hx := B.exec
  have hb := B.bytes
  have hr := B.returns
  have hlocks := B.notSynchronized
  have hts : ∀ w ∈ gT, w.before _ s = true := fun w h => atoms_spec (ws := Cond.code yX10_sentence cX10_sentence 2 (some .int) :: gT) B.pre w (List.mem_cons_of_mem _ h)
  have hown : s.vm.findClass RX10 = some m.cls := findClass_of_methodNamed B.named
  subst hsz
  have hD := hD0.self (sz := s.heap.size)
  generalize hAe : va_A w0 s.heap.size = A at hD hSD ⊢
  have hA : ∀ q : Nat, s.heap.size ≤ q → A q := fun q h => by rw [← hAe]; exact Or.inr h
  have hl := lv_entry ([.ref p0]) (n := 2) (Nat.le_of_ble_eq_true rfl)
  rw [lg_entry_eq]
  generalize (lg_sl ([.ref p0]) ++ List.replicate (2 - (lg_sl ([.ref p0])).length) Slot.unset).toArray = ls at hl ⊢
  have hl : lv_has ls 2 [(0, .ref p0)] := hl
  refine nameQ (fun Q hQ => ?_)
  have hw : WD D cy GG A s wr_X10_sentence__1 wa_X10_sentence__1 Ps w0 Ps w0 s.heap [] := ⟨hT, hP, hD, va_S.rf, FR.rf, hT.1, [], (List.append_nil _).symm⟩
  have B79 : ∀ (nf : Nat) (x1 : Int32) (z0_2 : Int32) (z0_7 : Int32) (z0_46 : Int32) (z0_47 : Int32) (z0_48 : Int32) (za14 : Nat) (za44 : Nat) (ws : va_W) (H : Heap) (locs : List Loc) (ls : Array Slot), 240 - x1.toInt < (nf : Int) → RI x1 0 240 → RI z0_2 0 0 → FLD ws p0 10 2 (.int z0_2) → RI z0_7 0 0 → FLD ws p0 10 7 (.int z0_7) → RI z0_46 1 20 → FLD ws p0 10 46 (.int z0_46) → RI z0_47 0 0 → FLD ws p0 10 47 (.int z0_47) → RI z0_48 0 39 → FLD ws p0 10 48 (.int z0_48) → SNT ws p0 (1) (1) (0) → TLM ws p0 (0) → (za14, 34) ∈ Ps → FLD ws p0 10 14 (.ref za14) → (za44, 54) ∈ Ps → FLD ws p0 10 44 (.ref za44) → AX2 14 34 44 54 (fun f g => CNp x1 f g) Ps ws p0 → WD D cy (GX za14) A s wr_X10_sentence__1 wa_X10_sentence__1 Ps w0 Ps ws H locs → lv_has ls 2 [(0, .ref p0), (1, .int x1)] → W p l e (headSpec (Cond.code yX10_sentence cX10_sentence 2 (some .int) :: gT) ({ frames := 39, cells := 0, slots := 0, locals := 7800 } : Room)).room s m ([.ref p0] : List Value).toArray below meth c H locs 0 0 Q (F0 m 79 ls []) := by
    intro nf79
    induction nf79 with
    | zero =>
      intro x1 z0_2 z0_7 z0_46 z0_47 z0_48 za14 za44 ws H locs ls hn79 r_x1 r_z0_2 m_z0_2 r_z0_7 m_z0_7 r_z0_46 m_z0_46 r_z0_47 m_z0_47 r_z0_48 m_z0_48 x_SNT_p0_1_1_0 x_TLM_p0_0 h_za14 m_za14 h_za44 m_za44 x_CSE_p0__1 hw hl
      exact absurd hn79 (by have q0 := r_x1.1; have u0 := r_x1.2; omega)
    | succ nf79 ih79 =>
      intro x1 z0_2 z0_7 z0_46 z0_47 z0_48 za14 za44 ws H locs ls hn79 r_x1 r_z0_2 m_z0_2 r_z0_7 m_z0_7 r_z0_46 m_z0_46 r_z0_47 m_z0_47 r_z0_48 m_z0_48 x_SNT_p0_1_1_0 x_TLM_p0_0 h_za14 m_za14 h_za44 m_za44 x_CSE_p0__1 hw hl
      refine lv_iload_n hx hb dX10_sentence_79 rfl (lv_at hl 1 rfl) ?_
      refine lv_sipush (v := 240) hx hb dX10_sentence_80 (by decide) ?_
      refine lv_icmp_ge (tgt := 108) hx hb dX10_sentence_83 (by decide) (fun c_83 => ?_) (fun c_83 => ?_)
      · have r_x1 : RI x1 240 240 := rc_le2 rl_240 r_x1 (ti_le c_83) (by decide)
        have hw := WD.back hw h_za14 rfl (fun f9 q9 => by obtain ⟨g9, e9⟩ := AX2.arr hw x_CSE_p0__1 m_za14 f9 q9; exact CN_end e9 (r_x1.to (by decide)))
        refine lv_aload_n hx hb dX10_sentence_108 rfl (lv_at hl 0 rfl) ?_
        refine tg_mem (ci := 10) (C := RX10) (T := TX10) (N := 49) hx hb hts inX10 hown hK hw 46 m_z0_46 rfl (by decide) (hts _ tw_1183) (fun _ h9 => h9) dX10_sentence_109 ?_
        subst hQ
        exact W.iret (v := z0_46) hx hb hr (fun t ht hW => ⟨⟨z0_46, ws, rfl, ⟨⟨r_z0_46.to (by decide), (fun _ => trivial), (fun h0 => trivial), ⟨x_TLM_p0_0, trivial⟩, (fun _ => trivial), (fun _ => trivial)⟩, hw.1, hw.2.2.2.2.1⟩, by rw [ht]; exact hw.2.1, va_K.moved hW.alike hK, hw.2.2.1⟩, hw.2.2.2.1.F ht⟩) hw.2.2.2.1.2.2 dX10_sentence_112
      · have r_x1 : RI x1 0 239 := rc_lt1 r_x1 rl_240 (ti_nle c_83) (by decide)
        refine lv_aload_n hx hb dX10_sentence_86 rfl (lv_at hl 0 rfl) ?_
        refine tg_mem (ci := 10) (C := RX10) (T := TX10) (N := 49) hx hb hts inX10 hown hK hw 14 m_za14 rfl (by decide) (hts _ tw_1151) (fun _ h9 => h9) dX10_sentence_87 ?_
        refine lv_sipush (v := 174) hx hb dX10_sentence_90 (by decide) ?_
        refine lv_iload_n hx hb dX10_sentence_93 rfl (lv_at hl 1 rfl) ?_
        refine lv_iadd hx hb dX10_sentence_94 (lv_topi (fun v_1 e_v_1 => ?_))
        obtain ⟨t_v_1, r_v_1⟩ := tq_add (lo := 174) (hi := 413) rl_174 r_x1 (by decide +kernel) e_v_1
        have t_v_1 : v_1.toInt = 174 + x1.toInt := t_v_1
        refine lv_aload_n hx hb dX10_sentence_95 rfl (lv_at hl 0 rfl) ?_
        refine tg_mem (ci := 10) (C := RX10) (T := TX10) (N := 49) hx hb hts inX10 hown hK hw 44 m_za44 rfl (by decide) (hts _ tw_1181) (fun _ h9 => h9) dX10_sentence_96 ?_
        refine lv_iload_n hx hb dX10_sentence_99 rfl (lv_at hl 1 rfl) ?_
        refine tg_iald (lo := (-2147483648)) (hi := 2147483647) hx hb hK hw h_za44 rfl 0 239 r_x1 (by decide) (by exact fun _ _ _ => ⟨Int.le_refl _, Int.le_refl _⟩) dX10_sentence_100 (fun v_2 r_v_2 m_v_2 o_v_2 => ?_)
        have x_CSEV_p0_x1_x1_v_2 : AX2 14 34 44 54 (fun f g => CNp x1 f g ∧ g (Int32.toNatClampNeg x1) = v_2) Ps ws p0 := AX2.el hw x_CSE_p0__1 m_za44 m_v_2
        have hw8 := hw
        refine tg_iast hx hb hK hw h_za14 rfl 174 413 r_v_1 (by decide) r_v_2 (by decide +kernel) (fun _ _ _ _ _ => Or.inl rfl) (by decide) dX10_sentence_101 (fun ws H locs hw hF9 hU9 => ?_)
        have x_CSET_p0_x1 : AX2 14 34 44 54 (fun f g => ∀ k9 : Int32, k9.toInt = Int32.toInt x1 + 1 → CNp  k9 f g) Ps ws p0 := AX2.ast hF9 hU9 x_CSEV_p0_x1_x1_v_2 m_za14 (by decide) (fun f9 g9 h9 => fun k9 e9 => CN_step h9 (r_x1.to (by decide)) rfl e9 (by have k1 := t_v_1; omega))
        have m_v_2 := AEL.over hw8 hF9 h_za44 m_v_2 (by decide)
        have x_SNT_p0_1_1_0 := SNT.over hF9 x_SNT_p0_1_1_0 (by decide)
        have x_TLM_p0_0 := TLM.over hF9 x_TLM_p0_0 (by decide)
        have m_z0_2 := FLD.over hF9 m_z0_2 (by decide)
        have m_z0_7 := FLD.over hF9 m_z0_7 (by decide)
        have m_z0_46 := FLD.over hF9 m_z0_46 (by decide)
        have m_z0_47 := FLD.over hF9 m_z0_47 (by decide)
        have m_z0_48 := FLD.over hF9 m_z0_48 (by decide)
        have m_za14 := FLD.over hF9 m_za14 (by decide)
        have m_za44 := FLD.over hF9 m_za44 (by decide)
        obtain ⟨v_3, e_v_3⟩ : ∃ q9 : Int32, q9 = x1 + Int32.ofInt 1 := ⟨_, rfl⟩
        obtain ⟨t_v_3, r_v_3⟩ := tq_add (lo := 1) (hi := 240) r_x1 (show RI (Int32.ofInt 1) 1 1 by unfold RI; decide +kernel) (by decide +kernel) e_v_3
        have t_v_3 : v_3.toInt = x1.toInt + 1 := t_v_3
        refine lv_iinc (v := v_3) (lv' := [(1, .int v_3), (0, .ref p0)]) hx hb dX10_sentence_102 hl (k := 1) rfl e_v_3.symm (by decide) rfl (fun ls hl => ?_)
        refine lv_goto (tgt := 79) hx hb dX10_sentence_105 (by decide) ?_
        have x_CSE_p0_v_3 : AX2 14 34 44 54 (fun f g => CNp v_3 f g) Ps ws p0 := AX2.imp x_CSET_p0_x1 (fun f9 g9 h9 => h9 _ t_v_3)
        exact ih79 v_3 z0_2 z0_7 z0_46 z0_47 z0_48 za14 za44 ws _ _ ls (by have q0 := r_v_3.1; have u0 := r_v_3.2; have o0 := r_x1.1; have p0 := r_x1.2; omega) (r_v_3.to (by decide)) r_z0_2 m_z0_2 r_z0_7 m_z0_7 r_z0_46 m_z0_46 r_z0_47 m_z0_47 r_z0_48 m_z0_48 x_SNT_p0_1_1_0 x_TLM_p0_0 h_za14 m_za14 h_za44 m_za44 x_CSE_p0_v_3 hw (lv_sub hl [1, 0] rfl)
  refine lv_aload_n hx hb dX10_sentence_0 rfl (lv_at hl 0 rfl) ?_
  refine lv_sipush (v := 200) hx hb dX10_sentence_1 (by decide) ?_
  refine tk_v (va_runV (As := [.int 200]) (rest := []) ⟨hx, hb, hml, hown, hts⟩ (c_X10_begin__7 l D cy z s.heap.size Ps w0 hw.1 p0 200 h_p0 rl_200) (cwV 1 hts (gV tw_1290 tw_1292 ts_38 tw_15 tw_1293) rfl rfl rfl (by decide +kernel) ⟨Nat.le_of_ble_eq_true rfl, Nat.le_of_ble_eq_true rfl⟩) (tg_preV hw hK hSD hA (ci := 10) (q := (RX10, TX10, 49)) rfl h_p0 rfl) rfl rfl hl.1 rfl (lv_room (Nat.le_of_ble_eq_true rfl)) dX10_sentence_4 ⟨Nat.le_of_ble_eq_true rfl, Nat.le_of_ble_eq_true rfl⟩) hw hA ⟨by decide, by decide⟩ (fun ws H locs hp_v_4 hw hF9 => ?_)
  obtain ⟨v_5, m_v_5, r_v_5⟩ := (hp_v_4.1)
  have x_TLM_p0_0 := (hp_v_4.2.1)
  have x_TLM_p0_0 : TLM ws p0 (0) := by obtain ⟨v9, a9, b9⟩ := x_TLM_p0_0; exact ⟨v9, a9, (by omega)⟩
  refine lv_aload_n hx hb dX10_sentence_7 rfl (lv_at hl 0 rfl) ?_
  refine lv_iconst (v := 0) hx hb dX10_sentence_8 (by decide) ?_
  refine tg_put (ci := 10) (ts := ty_MODEL) (v := .int 0) (ty := .int) (C := RX10) (T := TX10) (N := 49) hx hb hts inX10 tyX10 tyX10_ok nmX10 hown hK hw h_p0 rfl rfl 45 (by decide) (hts _ tw_1182) (fun _ h9 => h9) rfl (by decide +kernel) rfl rfl (ft := vI (-2147483648) 2147483647) rfl ⟨_, rfl, (rl_0.to (by decide))⟩ (by decide) dX10_sentence_9 (fun ws H locs hw n_k_6 hF9 => ?_)
  have m_v_5 := FLD.over hF9 m_v_5 (by decide)
  have x_TLM_p0_0 := TLM.over hF9 x_TLM_p0_0 (by decide)
  refine lv_aload_n hx hb dX10_sentence_12 rfl (lv_at hl 0 rfl) ?_
  refine lv_iconst (v := 0) hx hb dX10_sentence_13 (by decide) ?_
  refine tg_put (ci := 10) (ts := ty_MODEL) (v := .int 0) (ty := .int) (C := RX10) (T := TX10) (N := 49) hx hb hts inX10 tyX10 tyX10_ok nmX10 hown hK hw h_p0 rfl rfl 46 (by decide) (hts _ tw_1183) (fun _ h9 => h9) rfl (by decide +kernel) rfl rfl (ft := vI (-2147483648) 2147483647) rfl ⟨_, rfl, (rl_0.to (by decide))⟩ (by decide) dX10_sentence_14 (fun ws H locs hw n_k_7 hF9 => ?_)
  have m_v_5 := FLD.over hF9 m_v_5 (by decide)
  have n_k_6 := FLD.over hF9 n_k_6 (by decide)
  have x_TLM_p0_0 := TLM.over hF9 x_TLM_p0_0 (by decide)
  refine lv_aload_n hx hb dX10_sentence_17 rfl (lv_at hl 0 rfl) ?_
  refine lv_iconst (v := 0) hx hb dX10_sentence_18 (by decide) ?_
  refine tg_put (ci := 10) (ts := ty_MODEL) (v := .int 0) (ty := .int) (C := RX10) (T := TX10) (N := 49) hx hb hts inX10 tyX10 tyX10_ok nmX10 hown hK hw h_p0 rfl rfl 47 (by decide) (hts _ tw_1184) (fun _ h9 => h9) rfl (by decide +kernel) rfl rfl (ft := vI (-2147483648) 2147483647) rfl ⟨_, rfl, (rl_0.to (by decide))⟩ (by decide) dX10_sentence_19 (fun ws H locs hw n_k_8 hF9 => ?_)
  have m_v_5 := FLD.over hF9 m_v_5 (by decide)
  have n_k_6 := FLD.over hF9 n_k_6 (by decide)
  have n_k_7 := FLD.over hF9 n_k_7 (by decide)
  have x_TLM_p0_0 := TLM.over hF9 x_TLM_p0_0 (by decide)
  refine lv_aload_n hx hb dX10_sentence_22 rfl (lv_at hl 0 rfl) ?_
  have x_SN_p0_0_0_0 : SNp ws p0 (0) (0) (0) := ⟨0, 0, n_k_6, n_k_7, by decide⟩
  refine tk_i (va_runV (As := []) (rest := []) ⟨hx, hb, hml, hown, hts⟩ (c_X10_readOr l D cy z H.size Ps ws hw.1 p0 0 (0) (0) (0) h_p0 rl_0 n_k_8 x_SN_p0_0_0_0) (cwV 0 hts (gV tw_1751 tw_1753 ts_111 tw_15 tw_1754) rfl rfl rfl (by decide +kernel) ⟨Nat.le_of_ble_eq_true rfl, Nat.le_of_ble_eq_true rfl⟩) (tg_preV hw hK hSD hA (ci := 10) (q := (RX10, TX10, 49)) rfl h_p0 rfl) rfl rfl hl.1 rfl (lv_room (Nat.le_of_ble_eq_true rfl)) dX10_sentence_23 ⟨Nat.le_of_ble_eq_true rfl, Nat.le_of_ble_eq_true rfl⟩) hw hA ⟨by decide, by decide⟩ (fun v_9 ws H locs hp_v_9 hw hF9 => ?_)
  have m_v_5 := FLD.over hF9 m_v_5 (by decide)
  have x_TLM_p0_0 := TLM.over hF9 x_TLM_p0_0 (by decide)
  have r_v_9 : RI v_9 0 1 := hp_v_9.1
  by_cases c9_v_9 : v_9 = 0
  · have r_v_9 : RI v_9 0 0 := by rw [c9_v_9]; exact rl_0
    obtain ⟨v_10, m_v_10, r_v_10⟩ := ((hp_v_9.2.1 c9_v_9).1)
    refine lv_if_ne (tgt := 36) hx hb dX10_sentence_26 (by decide) (fun c_26 => ?_) (fun c_26 => ?_)
    · exact absurd (r_v_9.eq.trans rl_0.eq.symm) ((ti_ne c_26))
    · refine lv_iconst (v := (-1)) hx hb dX10_sentence_29 (by decide) ?_
      refine lv_aload_n hx hb dX10_sentence_30 rfl (lv_at hl 0 rfl) ?_
      refine tg_get (ci := 10) (ts := ty_MODEL) (C := RX10) (T := TX10) (N := 49) hx hb hts inX10 hown hK hw h_p0 rfl rfl 11 (by decide) (hts _ tw_1148) (fun _ h9 => h9) (ft := vI (-2147483648) 2147483647) rfl dX10_sentence_31 (fun u_11 hv_u_11 m_u_11 => ?_)
      obtain ⟨vu_11, rfl, r_vu_11⟩ := hv_u_11
      refine lv_isub hx hb dX10_sentence_34 (lv_topi (fun v_12 e_v_12 => ?_))
      obtain ⟨t_v_12, r_v_12⟩ := tq_sub (lo := (-2147483648)) (hi := 2147483647) rl_m1 r_vu_11 (by decide +kernel) e_v_12
      have t_v_12 : v_12.toInt = (-1) - vu_11.toInt := t_v_12
      subst hQ
      exact W.iret (v := v_12) hx hb hr (fun t ht hW => ⟨⟨v_12, ws, rfl, ⟨⟨r_v_12.to (by decide), (fun h0 => trivial), (fun h0 => trivial), ⟨x_TLM_p0_0, trivial⟩, (fun _ => trivial), (fun _ => trivial)⟩, hw.1, hw.2.2.2.2.1⟩, by rw [ht]; exact hw.2.1, va_K.moved hW.alike hK, hw.2.2.1⟩, hw.2.2.2.1.F ht⟩) hw.2.2.2.1.2.2 dX10_sentence_35
  · have r_v_9 : RI v_9 1 1 := rc_neL r_v_9 rl_0 (ti_ne c9_v_9) (by decide)
    obtain ⟨v_13, m_v_13, r_v_13⟩ := ((hp_v_9.2.2 c9_v_9).1)
    obtain ⟨v_14, m_v_14, r_v_14⟩ := ((hp_v_9.2.2 c9_v_9).2.1)
    obtain ⟨v_15, m_v_15, r_v_15⟩ := ((hp_v_9.2.2 c9_v_9).2.2.1)
    have x_SNT_p0_1_1_0 := ((hp_v_9.2.2 c9_v_9).2.2.2.1)
    refine lv_if_ne (tgt := 36) hx hb dX10_sentence_26 (by decide) (fun c_26 => ?_) (fun c_26 => ?_)
    · refine lv_aload_n hx hb dX10_sentence_36 rfl (lv_at hl 0 rfl) ?_
      refine tg_get (ci := 10) (ts := ty_MODEL) (C := RX10) (T := TX10) (N := 49) hx hb hts inX10 hown hK hw h_p0 rfl rfl 7 (by decide) (hts _ tw_1144) (fun _ h9 => h9) (ft := vI (-2147483648) 2147483647) rfl dX10_sentence_37 (fun u_16 hv_u_16 m_u_16 => ?_)
      obtain ⟨vu_16, rfl, r_vu_16⟩ := hv_u_16
      refine lv_if_eq (tgt := 56) hx hb dX10_sentence_40 (by decide) (fun c_40 => ?_) (fun c_40 => ?_)
      · have r_vu_16 : RI vu_16 0 0 := rc_eq1 r_vu_16 rl_0 (ti_eq c_40) (by decide)
        refine lv_aload_n hx hb dX10_sentence_56 rfl (lv_at hl 0 rfl) ?_
        refine tg_get (ci := 10) (ts := ty_MODEL) (C := RX10) (T := TX10) (N := 49) hx hb hts inX10 hown hK hw h_p0 rfl rfl 14 (by decide) (hts _ tw_1151) (fun _ h9 => h9) (ft := vR 34) rfl dX10_sentence_57 (fun u_17 hv_u_17 m_u_17 => ?_)
        obtain ⟨vu_17, rfl, h_vu_17⟩ := hv_u_17
        refine lv_sipush (v := 172) hx hb dX10_sentence_60 (by decide) ?_
        refine lv_iconst (v := 1) hx hb dX10_sentence_63 (by decide) ?_
        refine tg_iast hx hb hK hw h_vu_17 rfl 172 172 rl_172 (by decide) rl_1 (by decide +kernel) (RN_upd (by decide) (by decide)) (by decide) dX10_sentence_64 (fun ws H locs hw hF9 hU9 => ?_)
        have x_TLM_p0_0 := TLM.over hF9 x_TLM_p0_0 (by decide)
        have x_SNT_p0_1_1_0 := SNT.over hF9 x_SNT_p0_1_1_0 (by decide)
        have m_v_5 := FLD.over hF9 m_v_5 (by decide)
        have m_v_13 := FLD.over hF9 m_v_13 (by decide)
        have m_v_14 := FLD.over hF9 m_v_14 (by decide)
        have m_v_15 := FLD.over hF9 m_v_15 (by decide)
        have m_u_16 := FLD.over hF9 m_u_16 (by decide)
        have m_u_17 := FLD.over hF9 m_u_17 (by decide)
        refine lv_aload_n hx hb dX10_sentence_65 rfl (lv_at hl 0 rfl) ?_
        refine tg_mem (ci := 10) (C := RX10) (T := TX10) (N := 49) hx hb hts inX10 hown hK hw 14 m_u_17 rfl (by decide) (hts _ tw_1151) (fun _ h9 => h9) dX10_sentence_66 ?_
        refine lv_sipush (v := 173) hx hb dX10_sentence_69 (by decide) ?_
        refine lv_aload_n hx hb dX10_sentence_72 rfl (lv_at hl 0 rfl) ?_
        refine tg_mem (ci := 10) (C := RX10) (T := TX10) (N := 49) hx hb hts inX10 hown hK hw 48 m_v_15 rfl (by decide) (hts _ tw_1185) (fun _ h9 => h9) dX10_sentence_73 ?_
        have r_v_15 : RI v_15 0 39 := SNL.rng (SNT.top hw x_SNT_p0_1_1_0 m_v_15) (by decide)
        refine tg_iast hx hb hK hw h_vu_17 rfl 173 173 rl_173 (by decide) r_v_15 (by decide +kernel) (RN_upd (by decide) (by decide)) (by decide) dX10_sentence_76 (fun ws H locs hw hF9 hU9 => ?_)
        have x_TLM_p0_0 := TLM.over hF9 x_TLM_p0_0 (by decide)
        have x_SNT_p0_1_1_0 := SNT.over hF9 x_SNT_p0_1_1_0 (by decide)
        have m_v_5 := FLD.over hF9 m_v_5 (by decide)
        have m_v_13 := FLD.over hF9 m_v_13 (by decide)
        have m_v_14 := FLD.over hF9 m_v_14 (by decide)
        have m_v_15 := FLD.over hF9 m_v_15 (by decide)
        have m_u_16 := FLD.over hF9 m_u_16 (by decide)
        have m_u_17 := FLD.over hF9 m_u_17 (by decide)
        refine lv_iconst (v := 0) hx hb dX10_sentence_77 (by decide) ?_
        refine lv_istore_n (lv' := [(1, .int 0), (0, .ref p0)]) hx hb dX10_sentence_78 rfl hl (by decide) rfl (fun ls hl => ?_)
        obtain ⟨b_18, m_b_18, h_b_18⟩ := tg_fldR (k := 44) (ci := 10) (ts := ty_MODEL) (u := 54) hw h_p0 rfl rfl
        have x_CSE_p0_0 : AX2 14 34 44 54 (fun f g => CNp 0 f g) Ps ws p0 := AX2.imp (AX.two (ax_of (k := 14) (t := 34) hw h_p0 rfl (fun _ => rfl)) (ax_of (k := 44) (t := 54) hw h_p0 rfl (fun _ => rfl))) (fun f9 g9 h9 => ⟨h9.1.1.1, h9.2.1, fun j9 q9 => absurd q9 (by rw [Int32.toInt_zero]; omega)⟩)
        have hw := WD.weak vu_17 hw
        exact B79 4294967298 0 v_5 vu_16 v_13 v_14 v_15 vu_17 b_18 ws _ _ ls (by have q0 := rl_0.1; have u0 := rl_0.2; omega) (rl_0.to (by decide)) r_v_5 m_v_5 r_vu_16 m_u_16 r_v_13 m_v_13 r_v_14 m_v_14 r_v_15 m_v_15 x_SNT_p0_1_1_0 x_TLM_p0_0 h_vu_17 m_u_17 h_b_18 m_b_18 x_CSE_p0_0 hw (lv_sub hl [1, 0] rfl)
      · refine lv_aload_n hx hb dX10_sentence_43 rfl (lv_at hl 0 rfl) ?_
        refine lv_iconst (v := 1) hx hb dX10_sentence_44 (by decide) ?_
        refine tk_i (va_runV (As := [.int 1]) (rest := []) ⟨hx, hb, hml, hown, hts⟩ (c_X10_bad l D cy z H.size Ps ws hw.1 p0 1 h_p0 (rl_1.to (by decide))) (cwV 1 hts (gV tw_1336 tw_1338 ts_46 tw_15 tw_1339) rfl rfl rfl (by decide +kernel) ⟨Nat.le_of_ble_eq_true rfl, Nat.le_of_ble_eq_true rfl⟩) (tg_preV hw hK hSD hA (ci := 10) (q := (RX10, TX10, 49)) rfl h_p0 rfl) rfl rfl hl.1 rfl (lv_room (Nat.le_of_ble_eq_true rfl)) dX10_sentence_45 ⟨Nat.le_of_ble_eq_true rfl, Nat.le_of_ble_eq_true rfl⟩) hw hA ⟨by decide, by decide⟩ (fun v_19 ws H locs hp_v_19 hw hF9 => ?_)
        have m_v_5 := FLD.over hF9 m_v_5 (by decide)
        have m_v_13 := FLD.over hF9 m_v_13 (by decide)
        have m_v_14 := FLD.over hF9 m_v_14 (by decide)
        have m_v_15 := FLD.over hF9 m_v_15 (by decide)
        have m_u_16 := FLD.over hF9 m_u_16 (by decide)
        have x_TLM_p0_0 := TLM.over hF9 x_TLM_p0_0 (by decide)
        have x_SNT_p0_1_1_0 := SNT.over hF9 x_SNT_p0_1_1_0 (by decide)
        have r_v_19 : RI v_19 0 0 := hp_v_19.1
        refine lv_pop hx hb dX10_sentence_48 rfl ?_
        refine lv_iconst (v := (-1)) hx hb dX10_sentence_49 (by decide) ?_
        refine lv_aload_n hx hb dX10_sentence_50 rfl (lv_at hl 0 rfl) ?_
        refine tg_get (ci := 10) (ts := ty_MODEL) (C := RX10) (T := TX10) (N := 49) hx hb hts inX10 hown hK hw h_p0 rfl rfl 11 (by decide) (hts _ tw_1148) (fun _ h9 => h9) (ft := vI (-2147483648) 2147483647) rfl dX10_sentence_51 (fun u_20 hv_u_20 m_u_20 => ?_)
        obtain ⟨vu_20, rfl, r_vu_20⟩ := hv_u_20
        refine lv_isub hx hb dX10_sentence_54 (lv_topi (fun v_21 e_v_21 => ?_))
        obtain ⟨t_v_21, r_v_21⟩ := tq_sub (lo := (-2147483648)) (hi := 2147483647) rl_m1 r_vu_20 (by decide +kernel) e_v_21
        have t_v_21 : v_21.toInt = (-1) - vu_20.toInt := t_v_21
        subst hQ
        exact W.iret (v := v_21) hx hb hr (fun t ht hW => ⟨⟨v_21, ws, rfl, ⟨⟨r_v_21.to (by decide), (fun h0 => trivial), (fun h0 => trivial), ⟨x_TLM_p0_0, trivial⟩, (fun _ => trivial), (fun _ => trivial)⟩, hw.1, hw.2.2.2.2.1⟩, by rw [ht]; exact hw.2.1, va_K.moved hW.alike hK, hw.2.2.1⟩, hw.2.2.2.1.F ht⟩) hw.2.2.2.1.2.2 dX10_sentence_55
    · have r_v_9 : RI v_9 1 0 := rc_eq1 r_v_9 rl_0 (ti_eq c_26) (by decide)
      exact (r_v_9.no (by decide)).elim
abbrev wr_X9_sat__1 : List (Nat × Nat) := [(7, 2), (8, 0), (8, 1), (9, 13), (9, 14)]
abbrev wa_X9_sat__1 : List Nat := [8, 9, 10, 11, 12, 13, 14]
set_option maxHeartbeats 4000000 in
set_option maxRecDepth 100000 in
theorem c_X9_sat__1 (l : Launch) (D : va_G) (cy : Nat → ClassId) (z : Nat → Nat) (sz : Nat) (Ps : PSI) (w0 : va_W) (hT : HT cy GG Ps w0) (p0 : Nat) (h_p0 : (p0, 33) ∈ Ps) : Met l yX9_sat (Cond.code yX9_sat cX9_sat 6 (some .int) :: gT) ({ frames := 4, cells := 1, slots := 8, locals := 800 } : Room) (va_Pc [.ref p0] (PRE D cy z w0 sz)) (va_Qi (fun (r : Int32) (u : PSI × va_W) => (RI r (-2147483648) 2147483647 ∧ (r = 0 → True) ∧ (¬ r = 0 → True) ∧ (TLX u.2 p0 (0) ∧ True) ∧ (r.toInt < 0 → True) ∧ (0 ≤ r.toInt → True)) ∧ (∃ X, u.1 = Ps ++ X) ∧ HT cy GG u.1 u.2 ∧ FR wr_X9_sat__1 wa_X9_sat__1 Ps w0 u.2) (BB D cy (va_A w0 sz) (fun (u : PSI × va_W) => u.2)) (va_A w0 sz)) 1 8 (va_A w0 sz) := by
  refine Met.ofW (cc := cX9_sat) (maxL := 6) (ret := (some .int)) (by decide) rfl ?_
  intro p e s m args below meth c s₁ B hml hv
  obtain ⟨rfl, hsz, hP, hK, hD0, hSD⟩ := hv
  have hx := B.exec
  have hb := B.bytes
  have hr := B.returns
  have hlocks := B.notSynchronized
  have hts : ∀ w ∈ gT, w.before _ s = true := fun w h => atoms_spec (ws := Cond.code yX9_sat cX9_sat 6 (some .int) :: gT) B.pre w (List.mem_cons_of_mem _ h)
  have hown : s.vm.findClass RX9 = some m.cls := findClass_of_methodNamed B.named
  subst hsz
  have hD := hD0.self (sz := s.heap.size)
  generalize hAe : va_A w0 s.heap.size = A at hD hSD ⊢
  have hA : ∀ q : Nat, s.heap.size ≤ q → A q := fun q h => by rw [← hAe]; exact Or.inr h
  have hl := lv_entry ([.ref p0]) (n := 6) (Nat.le_of_ble_eq_true rfl)
  rw [lg_entry_eq]
  generalize (lg_sl ([.ref p0]) ++ List.replicate (6 - (lg_sl ([.ref p0])).length) Slot.unset).toArray = ls at hl ⊢
  have hl : lv_has ls 6 [(0, .ref p0)] := hl
  refine nameQ (fun Q hQ => ?_)
  have hw : WD D cy GG A s wr_X9_sat__1 wa_X9_sat__1 Ps w0 Ps w0 s.heap [] := ⟨hT, hP, hD, va_S.rf, FR.rf, hT.1, [], (List.append_nil _).symm⟩
  have B16 : ∀ (y0 : Int32) (ws : va_W) (H : Heap) (locs : List Loc) (ls : Array Slot), RI y0 0 1 → WD D cy GG A s wr_X9_sat__1 wa_X9_sat__1 Ps w0 Ps ws H locs → lv_has ls 6 [(0, .ref p0)] → W p l e (headSpec (Cond.code yX9_sat cX9_sat 6 (some .int) :: gT) ({ frames := 4, cells := 1, slots := 8, locals := 800 } : Room)).room s m ([.ref p0] : List Value).toArray below meth c H locs 0 0 Q (F0 m 16 ls [.int y0]) := by
    intro y0 ws H locs ls r_y0 hw hl
    refine lv_istore_n (lv' := [(1, .int y0), (0, .ref p0)]) hx hb dX9_sat_16 rfl hl (by decide) rfl (fun ls hl => ?_)
    refine lv_aload_n hx hb dX9_sat_17 rfl (lv_at hl 1 rfl) ?_
    refine tg_get (ci := 9) (ts := ty_WP) (C := RX9) (T := TX9) (N := 15) hx hb hts inX9 hown hK hw h_p0 rfl rfl 0 (by decide) (hts _ tw_346) (fun _ h9 => h9) (ft := vR 26) rfl dX9_sat_18 (fun u_1 hv_u_1 m_u_1 => ?_)
    obtain ⟨vu_1, rfl, h_vu_1⟩ := hv_u_1
    refine lv_iconst (v := 0) hx hb dX9_sat_21 (by decide) ?_
    refine tk_ir (va_runV (As := [.int 0]) (rest := []) ⟨hx, hb, hml, hown, hts⟩ (c_X7_at l D cy z H.size Ps ws hw.1 vu_1 0 h_vu_1 (rl_0.to (by decide))) (cwV 1 hts (gV tw_756 tw_757 tw_758 tw_2 tw_759) rfl rfl rfl (by decide +kernel) ⟨Nat.le_of_ble_eq_true rfl, Nat.le_of_ble_eq_true rfl⟩) (tg_preV hw hK hSD hA (ci := 7) (q := (RX7, TX7, 12)) rfl h_vu_1 rfl) rfl rfl hl.1 rfl (lv_room (Nat.le_of_ble_eq_true rfl)) dX9_sat_22 ⟨Nat.le_of_ble_eq_true rfl, Nat.le_of_ble_eq_true rfl⟩) hw hA (fun v_2  H locs hp_v_2 hw => ?_)
    have r_v_2 : RI v_2 (-1) 255 := hp_v_2.1
    refine lv_istore_n (lv' := [(2, .int v_2), (1, .int y0), (0, .ref p0)]) hx hb dX9_sat_25 rfl hl (by decide) rfl (fun ls hl => ?_)
    refine lv_aload_n hx hb dX9_sat_26 rfl (lv_at hl 2 rfl) ?_
    refine tg_mem (ci := 9) (C := RX9) (T := TX9) (N := 15) hx hb hts inX9 hown hK hw 0 m_u_1 rfl (by decide) (hts _ tw_346) (fun _ h9 => h9) dX9_sat_27 ?_
    refine lv_iconst (v := 1) hx hb dX9_sat_30 (by decide) ?_
    refine tk_ir (va_runV (As := [.int 1]) (rest := []) ⟨hx, hb, hml, hown, hts⟩ (c_X7_at l D cy z H.size Ps ws hw.1 vu_1 1 h_vu_1 (rl_1.to (by decide))) (cwV 1 hts (gV tw_756 tw_757 tw_758 tw_2 tw_759) rfl rfl rfl (by decide +kernel) ⟨Nat.le_of_ble_eq_true rfl, Nat.le_of_ble_eq_true rfl⟩) (tg_preV hw hK hSD hA (ci := 7) (q := (RX7, TX7, 12)) rfl h_vu_1 rfl) rfl rfl hl.1 rfl (lv_room (Nat.le_of_ble_eq_true rfl)) dX9_sat_31 ⟨Nat.le_of_ble_eq_true rfl, Nat.le_of_ble_eq_true rfl⟩) hw hA (fun v_3  H locs hp_v_3 hw => ?_)
    have r_v_3 : RI v_3 (-1) 255 := hp_v_3.1
    refine lv_istore_n (lv' := [(3, .int v_3), (2, .int v_2), (1, .int y0), (0, .ref p0)]) hx hb dX9_sat_34 rfl hl (by decide) rfl (fun ls hl => ?_)
    refine lv_aload_n hx hb dX9_sat_35 rfl (lv_at hl 3 rfl) ?_
    refine tg_mem (ci := 9) (C := RX9) (T := TX9) (N := 15) hx hb hts inX9 hown hK hw 0 m_u_1 rfl (by decide) (hts _ tw_346) (fun _ h9 => h9) dX9_sat_36 ?_
    refine lv_iconst (v := 2) hx hb dX9_sat_39 (by decide) ?_
    refine tk_ir (va_runV (As := [.int 2]) (rest := []) ⟨hx, hb, hml, hown, hts⟩ (c_X7_at l D cy z H.size Ps ws hw.1 vu_1 2 h_vu_1 (rl_2.to (by decide))) (cwV 1 hts (gV tw_756 tw_757 tw_758 tw_2 tw_759) rfl rfl rfl (by decide +kernel) ⟨Nat.le_of_ble_eq_true rfl, Nat.le_of_ble_eq_true rfl⟩) (tg_preV hw hK hSD hA (ci := 7) (q := (RX7, TX7, 12)) rfl h_vu_1 rfl) rfl rfl hl.1 rfl (lv_room (Nat.le_of_ble_eq_true rfl)) dX9_sat_40 ⟨Nat.le_of_ble_eq_true rfl, Nat.le_of_ble_eq_true rfl⟩) hw hA (fun v_4  H locs hp_v_4 hw => ?_)
    have r_v_4 : RI v_4 (-1) 255 := hp_v_4.1
    refine lv_istore (lv' := [(4, .int v_4), (3, .int v_3), (2, .int v_2), (1, .int y0), (0, .ref p0)]) hx hb dX9_sat_43 hl (by decide) rfl (fun ls hl => ?_)
    refine lv_aload_n hx hb dX9_sat_45 rfl (lv_at hl 4 rfl) ?_
    refine tg_mem (ci := 9) (C := RX9) (T := TX9) (N := 15) hx hb hts inX9 hown hK hw 0 m_u_1 rfl (by decide) (hts _ tw_346) (fun _ h9 => h9) dX9_sat_46 ?_
    refine lv_iconst (v := 3) hx hb dX9_sat_49 (by decide) ?_
    refine tk_ir (va_runV (As := [.int 3]) (rest := []) ⟨hx, hb, hml, hown, hts⟩ (c_X7_at l D cy z H.size Ps ws hw.1 vu_1 3 h_vu_1 (rl_3.to (by decide))) (cwV 1 hts (gV tw_756 tw_757 tw_758 tw_2 tw_759) rfl rfl rfl (by decide +kernel) ⟨Nat.le_of_ble_eq_true rfl, Nat.le_of_ble_eq_true rfl⟩) (tg_preV hw hK hSD hA (ci := 7) (q := (RX7, TX7, 12)) rfl h_vu_1 rfl) rfl rfl hl.1 rfl (lv_room (Nat.le_of_ble_eq_true rfl)) dX9_sat_50 ⟨Nat.le_of_ble_eq_true rfl, Nat.le_of_ble_eq_true rfl⟩) hw hA (fun v_5  H locs hp_v_5 hw => ?_)
    have r_v_5 : RI v_5 (-1) 255 := hp_v_5.1
    refine lv_istore (lv' := [(5, .int v_5), (4, .int v_4), (3, .int v_3), (2, .int v_2), (1, .int y0), (0, .ref p0)]) hx hb dX9_sat_53 hl (by decide) rfl (fun ls hl => ?_)
    refine lv_aload_n hx hb dX9_sat_55 rfl (lv_at hl 5 rfl) ?_
    refine tg_mem (ci := 9) (C := RX9) (T := TX9) (N := 15) hx hb hts inX9 hown hK hw 0 m_u_1 rfl (by decide) (hts _ tw_346) (fun _ h9 => h9) dX9_sat_56 ?_
    refine lv_iconst (v := 0) hx hb dX9_sat_59 (by decide) ?_
    refine tg_putN (ci := 7) (ts := ty_TAPE) (v := .int 0) (ty := .int) (C := RX7) (T := TX7) (N := 12) hx hb hts inX7 tyX7 tyX7_ok nmX7 hown hK hw h_vu_1 rfl rfl 2 (by decide) (hSD.nest tn_90) (fun _ h9 => h9) rfl (by decide +kernel) rfl rfl (ft := vI 0 940) rfl ⟨_, rfl, (rl_0.to (by decide))⟩ (by decide) dX9_sat_60 (fun ws H locs hw n_k_6 hF9 => ?_)
    have m_u_1 := FLD.over hF9 m_u_1 (by decide)
    have x_TLX_p0_0 : TLX ws p0 (0) := ⟨_, m_u_1, _, n_k_6, (by decide)⟩
    refine lv_iload_n hx hb dX9_sat_63 rfl (lv_at hl 4 rfl) ?_
    refine lv_if_eq (tgt := 87) hx hb dX9_sat_64 (by decide) (fun c_64 => ?_) (fun c_64 => ?_)
    · have r_y0 : RI y0 0 0 := rc_eq1 r_y0 rl_0 (ti_eq c_64) (by decide)
      refine lv_iconst (v := (-1)) hx hb dX9_sat_87 (by decide) ?_
      refine W.widen (k := 1) (n := 8) (Nat.le_of_ble_eq_true rfl) (Nat.le_of_ble_eq_true rfl) ?_
      subst hQ
      exact W.iret (v := (-1)) hx hb hr (fun t ht hW => ⟨⟨(-1), (Ps, ws), rfl, ⟨⟨rl_m1.to (by decide), (fun _ => trivial), (fun h0 => trivial), ⟨x_TLX_p0_0, trivial⟩, (fun _ => trivial), (fun _ => trivial)⟩, hw.2.2.2.2.2.2, hw.1, hw.2.2.2.2.1⟩, by rw [ht]; exact hw.2.1, va_K.moved hW.alike hK, hw.2.2.1⟩, hw.2.2.2.1.F ht⟩) hw.2.2.2.1.2.2 dX9_sat_88
    · have r_y0 : RI y0 1 1 := rc_neL r_y0 rl_0 (ti_ne c_64) (by decide)
      refine lv_aload_n hx hb dX9_sat_67 rfl (lv_at hl 5 rfl) ?_
      refine lv_iconst (v := 2) hx hb dX9_sat_68 (by decide) ?_
      refine lv_iload_n hx hb dX9_sat_69 rfl (lv_at hl 3 rfl) ?_
      refine tk_ir (va_runV (As := [.int 2, .int v_2]) (rest := []) ⟨hx, hb, hml, hown, hts⟩ (c_X9_isOf l D cy z H.size Ps ws hw.1 p0 2 v_2 h_p0 rl_2 (r_v_2.to (by decide))) (cwV 2 hts (gV tw_540 tw_542 ts_10 tw_1 tw_543) rfl rfl rfl (by decide +kernel) ⟨Nat.le_of_ble_eq_true rfl, Nat.le_of_ble_eq_true rfl⟩) (tg_preV hw hK hSD hA (ci := 9) (q := (RX9, TX9, 15)) rfl h_p0 rfl) rfl rfl hl.1 rfl (lv_room (Nat.le_of_ble_eq_true rfl)) dX9_sat_70 ⟨Nat.le_of_ble_eq_true rfl, Nat.le_of_ble_eq_true rfl⟩) hw hA (fun v_7  H locs hp_v_7 hw => ?_)
      have r_v_7 : RI v_7 0 1 := hp_v_7.1
      refine lv_if_eq (tgt := 87) hx hb dX9_sat_73 (by decide) (fun c_73 => ?_) (fun c_73 => ?_)
      · have r_v_7 : RI v_7 0 0 := rc_eq1 r_v_7 rl_0 (ti_eq c_73) (by decide)
        refine lv_iconst (v := (-1)) hx hb dX9_sat_87 (by decide) ?_
        refine W.widen (k := 1) (n := 8) (Nat.le_of_ble_eq_true rfl) (Nat.le_of_ble_eq_true rfl) ?_
        subst hQ
        exact W.iret (v := (-1)) hx hb hr (fun t ht hW => ⟨⟨(-1), (Ps, ws), rfl, ⟨⟨rl_m1.to (by decide), (fun _ => trivial), (fun h0 => trivial), ⟨x_TLX_p0_0, trivial⟩, (fun _ => trivial), (fun _ => trivial)⟩, hw.2.2.2.2.2.2, hw.1, hw.2.2.2.2.1⟩, by rw [ht]; exact hw.2.1, va_K.moved hW.alike hK, hw.2.2.1⟩, hw.2.2.2.1.F ht⟩) hw.2.2.2.1.2.2 dX9_sat_88
      · have r_v_7 : RI v_7 1 1 := rc_neL r_v_7 rl_0 (ti_ne c_73) (by decide)
        have r_v_2 : RI v_2 0 5 := ((hp_v_7.2.2 c_73).1)
        refine lv_iload_n hx hb dX9_sat_76 rfl (lv_at hl 2 rfl) ?_
        refine lv_iconst (v := 1) hx hb dX9_sat_77 (by decide) ?_
        refine lv_icmp_lt (tgt := 87) hx hb dX9_sat_78 (by decide) (fun c_78 => ?_) (fun c_78 => ?_)
        · have r_v_3 : RI v_3 (-1) 0 := rc_lt1 r_v_3 rl_1 (ti_lt c_78) (by decide)
          refine lv_iconst (v := (-1)) hx hb dX9_sat_87 (by decide) ?_
          refine W.widen (k := 1) (n := 8) (Nat.le_of_ble_eq_true rfl) (Nat.le_of_ble_eq_true rfl) ?_
          subst hQ
          exact W.iret (v := (-1)) hx hb hr (fun t ht hW => ⟨⟨(-1), (Ps, ws), rfl, ⟨⟨rl_m1.to (by decide), (fun _ => trivial), (fun h0 => trivial), ⟨x_TLX_p0_0, trivial⟩, (fun _ => trivial), (fun _ => trivial)⟩, hw.2.2.2.2.2.2, hw.1, hw.2.2.2.2.1⟩, by rw [ht]; exact hw.2.1, va_K.moved hW.alike hK, hw.2.2.1⟩, hw.2.2.2.1.F ht⟩) hw.2.2.2.1.2.2 dX9_sat_88
        · have r_v_3 : RI v_3 1 255 := rc_le2 rl_1 r_v_3 (ti_nlt c_78) (by decide)
          refine lv_iload_n hx hb dX9_sat_81 rfl (lv_at hl 2 rfl) ?_
          refine lv_bipush (v := 30) hx hb dX9_sat_82 (by decide) ?_
          refine lv_icmp_le (tgt := 89) hx hb dX9_sat_84 (by decide) (fun c_84 => ?_) (fun c_84 => ?_)
          · have r_v_3 : RI v_3 1 30 := rc_le1 r_v_3 rl_30 (ti_le c_84) (by decide)
            refine lv_iload hx hb dX9_sat_89 (lv_at hl 1 rfl) ?_
            refine lv_sipush (v := 255) hx hb dX9_sat_91 (by decide) ?_
            refine lv_icmp_eq (tgt := 107) hx hb dX9_sat_94 (by decide) (fun c_94 => ?_) (fun c_94 => ?_)
            · have r_v_4 : RI v_4 255 255 := rc_eq1 r_v_4 rl_255 (ti_eq c_94) (by decide)
              refine lv_aload_n hx hb dX9_sat_107 rfl (lv_at hl 5 rfl) ?_
              refine tg_get (ci := 9) (ts := ty_WP) (C := RX9) (T := TX9) (N := 15) hx hb hts inX9 hown hK hw h_p0 rfl rfl 1 (by decide) (hts _ tw_347) (fun _ h9 => h9) (ft := vR 24) rfl dX9_sat_108 (fun u_8 hv_u_8 m_u_8 => ?_)
              obtain ⟨vu_8, rfl, h_vu_8⟩ := hv_u_8
              refine lv_iload_n hx hb dX9_sat_111 rfl (lv_at hl 3 rfl) ?_
              refine tk_ir (va_runV (As := [.int v_2]) (rest := []) ⟨hx, hb, hml, hown, hts⟩ (c_X8_isOpen l D cy z H.size Ps ws hw.1 vu_8 v_2 h_vu_8 r_v_2) (cwV 1 hts (gV tw_733 tw_562 tw_563 tw_12 tw_564) rfl rfl rfl (by decide +kernel) ⟨Nat.le_of_ble_eq_true rfl, Nat.le_of_ble_eq_true rfl⟩) (tg_preV hw hK hSD hA (ci := 8) (q := (RX8, TX8, 13)) rfl h_vu_8 rfl) rfl rfl hl.1 rfl (lv_room (Nat.le_of_ble_eq_true rfl)) dX9_sat_112 ⟨Nat.le_of_ble_eq_true rfl, Nat.le_of_ble_eq_true rfl⟩) hw hA (fun v_9  H locs hp_v_9 hw => ?_)
              have r_v_9 : RI v_9 0 1 := hp_v_9.1
              refine lv_if_eq (tgt := 120) hx hb dX9_sat_115 (by decide) (fun c_115 => ?_) (fun c_115 => ?_)
              · have r_v_9 : RI v_9 0 0 := rc_eq1 r_v_9 rl_0 (ti_eq c_115) (by decide)
                refine lv_aload_n hx hb dX9_sat_120 rfl (lv_at hl 5 rfl) ?_
                refine lv_iload_n hx hb dX9_sat_121 rfl (lv_at hl 3 rfl) ?_
                refine lv_iload_n hx hb dX9_sat_122 rfl (lv_at hl 2 rfl) ?_
                refine lv_iload hx hb dX9_sat_123 (lv_at hl 1 rfl) ?_
                refine lv_sipush (v := 255) hx hb dX9_sat_125 (by decide) ?_
                refine lv_icmp_ne (tgt := 135) hx hb dX9_sat_128 (by decide) (fun c_128 => ?_) (fun c_128 => ?_)
                · exact absurd (r_v_4.eq.trans rl_255.eq.symm) ((ti_ne c_128))
                · refine lv_iconst (v := (-1)) hx hb dX9_sat_131 (by decide) ?_
                  refine lv_goto (tgt := 137) hx hb dX9_sat_132 (by decide) ?_
                  refine lv_iload hx hb dX9_sat_137 (lv_at hl 0 rfl) ?_
                  refine tk_iA (va_runV (As := [.int v_2, .int v_3, .int (-1), .int v_5]) (rest := []) ⟨hx, hb, hml, hown, hts⟩ (c_X9_setsThatSat l D cy z H.size Ps ws hw.1 p0 v_2 v_3 (-1) v_5 h_p0 r_v_2 r_v_3 (rl_m1.to (by decide)) (r_v_5.to (by decide))) (cwV 4 hts (gV tw_760 tw_762 ts_19 tw_1 tw_763) rfl rfl rfl (by decide +kernel) ⟨Nat.le_of_ble_eq_true rfl, Nat.le_of_ble_eq_true rfl⟩) (tg_preV hw hK hSD hA (ci := 9) (q := (RX9, TX9, 15)) rfl h_p0 rfl) rfl rfl hl.1 rfl (lv_room (Nat.le_of_ble_eq_true rfl)) dX9_sat_139 ⟨Nat.le_of_ble_eq_true rfl, Nat.le_of_ble_eq_true rfl⟩) hw hA ⟨by decide, by decide⟩ (fun v_10 Pn ws H locs hp_v_10 hup hw hF9 => ?_)
                  refine W.widen (k := 1) (n := 8) (Nat.le_of_ble_eq_true rfl) (Nat.le_of_ble_eq_true rfl) ?_
                  have h_p0 := hup _ h_p0
                  have h_vu_1 := hup _ h_vu_1
                  have h_vu_8 := hup _ h_vu_8
                  have x_TLX_p0_0 := TLX.over hF9 x_TLX_p0_0 (by decide)
                  have r_v_10 : RI v_10 (-2147483648) 2147483647 := hp_v_10.1
                  subst hQ
                  exact W.iret (v := v_10) hx hb hr (fun t ht hW => ⟨⟨v_10, (Pn, ws), rfl, ⟨⟨r_v_10.to (by decide), (fun h0 => trivial), (fun h0 => trivial), ⟨x_TLX_p0_0, trivial⟩, (fun _ => trivial), (fun _ => trivial)⟩, hw.2.2.2.2.2.2, hw.1, hw.2.2.2.2.1⟩, by rw [ht]; exact hw.2.1, va_K.moved hW.alike hK, hw.2.2.1⟩, hw.2.2.2.1.F ht⟩) hw.2.2.2.1.2.2 dX9_sat_142
              · have r_v_9 : RI v_9 1 1 := rc_neL r_v_9 rl_0 (ti_ne c_115) (by decide)
                refine lv_iconst (v := (-1)) hx hb dX9_sat_118 (by decide) ?_
                refine W.widen (k := 1) (n := 8) (Nat.le_of_ble_eq_true rfl) (Nat.le_of_ble_eq_true rfl) ?_
                subst hQ
                exact W.iret (v := (-1)) hx hb hr (fun t ht hW => ⟨⟨(-1), (Ps, ws), rfl, ⟨⟨rl_m1.to (by decide), (fun _ => trivial), (fun h0 => trivial), ⟨x_TLX_p0_0, trivial⟩, (fun _ => trivial), (fun _ => trivial)⟩, hw.2.2.2.2.2.2, hw.1, hw.2.2.2.2.1⟩, by rw [ht]; exact hw.2.1, va_K.moved hW.alike hK, hw.2.2.1⟩, hw.2.2.2.1.F ht⟩) hw.2.2.2.1.2.2 dX9_sat_119
            · have r_v_4 : RI v_4 (-1) 254 := rc_neU r_v_4 rl_255 (ti_ne c_94) (by decide)
              refine lv_aload_n hx hb dX9_sat_97 rfl (lv_at hl 5 rfl) ?_
              refine lv_iconst (v := 0) hx hb dX9_sat_98 (by decide) ?_
              refine lv_iload hx hb dX9_sat_99 (lv_at hl 1 rfl) ?_
              refine tk_ir (va_runV (As := [.int 0, .int v_4]) (rest := []) ⟨hx, hb, hml, hown, hts⟩ (c_X9_isOf__3 l D cy z H.size Ps ws hw.1 p0 0 v_4 h_p0 rl_0 (r_v_4.to (by decide))) (cwV 2 hts (gV tw_540 tw_542 ts_10 tw_1 tw_543) rfl rfl rfl (by decide +kernel) ⟨Nat.le_of_ble_eq_true rfl, Nat.le_of_ble_eq_true rfl⟩) (tg_preV hw hK hSD hA (ci := 9) (q := (RX9, TX9, 15)) rfl h_p0 rfl) rfl rfl hl.1 rfl (lv_room (Nat.le_of_ble_eq_true rfl)) dX9_sat_101 ⟨Nat.le_of_ble_eq_true rfl, Nat.le_of_ble_eq_true rfl⟩) hw hA (fun v_11  H locs hp_v_11 hw => ?_)
              have r_v_11 : RI v_11 0 1 := hp_v_11.1
              refine lv_if_eq (tgt := 118) hx hb dX9_sat_104 (by decide) (fun c_104 => ?_) (fun c_104 => ?_)
              · have r_v_11 : RI v_11 0 0 := rc_eq1 r_v_11 rl_0 (ti_eq c_104) (by decide)
                refine lv_iconst (v := (-1)) hx hb dX9_sat_118 (by decide) ?_
                refine W.widen (k := 1) (n := 8) (Nat.le_of_ble_eq_true rfl) (Nat.le_of_ble_eq_true rfl) ?_
                subst hQ
                exact W.iret (v := (-1)) hx hb hr (fun t ht hW => ⟨⟨(-1), (Ps, ws), rfl, ⟨⟨rl_m1.to (by decide), (fun _ => trivial), (fun h0 => trivial), ⟨x_TLX_p0_0, trivial⟩, (fun _ => trivial), (fun _ => trivial)⟩, hw.2.2.2.2.2.2, hw.1, hw.2.2.2.2.1⟩, by rw [ht]; exact hw.2.1, va_K.moved hW.alike hK, hw.2.2.1⟩, hw.2.2.2.1.F ht⟩) hw.2.2.2.1.2.2 dX9_sat_119
              · have r_v_11 : RI v_11 1 1 := rc_neL r_v_11 rl_0 (ti_ne c_104) (by decide)
                have r_v_4 : RI v_4 0 5 := ((hp_v_11.2.2 c_104).1)
                refine lv_aload_n hx hb dX9_sat_107 rfl (lv_at hl 5 rfl) ?_
                refine tg_get (ci := 9) (ts := ty_WP) (C := RX9) (T := TX9) (N := 15) hx hb hts inX9 hown hK hw h_p0 rfl rfl 1 (by decide) (hts _ tw_347) (fun _ h9 => h9) (ft := vR 24) rfl dX9_sat_108 (fun u_12 hv_u_12 m_u_12 => ?_)
                obtain ⟨vu_12, rfl, h_vu_12⟩ := hv_u_12
                refine lv_iload_n hx hb dX9_sat_111 rfl (lv_at hl 3 rfl) ?_
                refine tk_ir (va_runV (As := [.int v_2]) (rest := []) ⟨hx, hb, hml, hown, hts⟩ (c_X8_isOpen l D cy z H.size Ps ws hw.1 vu_12 v_2 h_vu_12 r_v_2) (cwV 1 hts (gV tw_733 tw_562 tw_563 tw_12 tw_564) rfl rfl rfl (by decide +kernel) ⟨Nat.le_of_ble_eq_true rfl, Nat.le_of_ble_eq_true rfl⟩) (tg_preV hw hK hSD hA (ci := 8) (q := (RX8, TX8, 13)) rfl h_vu_12 rfl) rfl rfl hl.1 rfl (lv_room (Nat.le_of_ble_eq_true rfl)) dX9_sat_112 ⟨Nat.le_of_ble_eq_true rfl, Nat.le_of_ble_eq_true rfl⟩) hw hA (fun v_13  H locs hp_v_13 hw => ?_)
                have r_v_13 : RI v_13 0 1 := hp_v_13.1
                refine lv_if_eq (tgt := 120) hx hb dX9_sat_115 (by decide) (fun c_115 => ?_) (fun c_115 => ?_)
                · have r_v_13 : RI v_13 0 0 := rc_eq1 r_v_13 rl_0 (ti_eq c_115) (by decide)
                  refine lv_aload_n hx hb dX9_sat_120 rfl (lv_at hl 5 rfl) ?_
                  refine lv_iload_n hx hb dX9_sat_121 rfl (lv_at hl 3 rfl) ?_
                  refine lv_iload_n hx hb dX9_sat_122 rfl (lv_at hl 2 rfl) ?_
                  refine lv_iload hx hb dX9_sat_123 (lv_at hl 1 rfl) ?_
                  refine lv_sipush (v := 255) hx hb dX9_sat_125 (by decide) ?_
                  refine lv_icmp_ne (tgt := 135) hx hb dX9_sat_128 (by decide) (fun c_128 => ?_) (fun c_128 => ?_)
                  · refine lv_iload hx hb dX9_sat_135 (lv_at hl 1 rfl) ?_
                    refine lv_iload hx hb dX9_sat_137 (lv_at hl 0 rfl) ?_
                    refine tk_iA (va_runV (As := [.int v_2, .int v_3, .int v_4, .int v_5]) (rest := []) ⟨hx, hb, hml, hown, hts⟩ (c_X9_setsThatSat l D cy z H.size Ps ws hw.1 p0 v_2 v_3 v_4 v_5 h_p0 r_v_2 r_v_3 (r_v_4.to (by decide)) (r_v_5.to (by decide))) (cwV 4 hts (gV tw_760 tw_762 ts_19 tw_1 tw_763) rfl rfl rfl (by decide +kernel) ⟨Nat.le_of_ble_eq_true rfl, Nat.le_of_ble_eq_true rfl⟩) (tg_preV hw hK hSD hA (ci := 9) (q := (RX9, TX9, 15)) rfl h_p0 rfl) rfl rfl hl.1 rfl (lv_room (Nat.le_of_ble_eq_true rfl)) dX9_sat_139 ⟨Nat.le_of_ble_eq_true rfl, Nat.le_of_ble_eq_true rfl⟩) hw hA ⟨by decide, by decide⟩ (fun v_14 Pn ws H locs hp_v_14 hup hw hF9 => ?_)
                    refine W.widen (k := 1) (n := 8) (Nat.le_of_ble_eq_true rfl) (Nat.le_of_ble_eq_true rfl) ?_
                    have h_p0 := hup _ h_p0
                    have h_vu_1 := hup _ h_vu_1
                    have h_vu_12 := hup _ h_vu_12
                    have x_TLX_p0_0 := TLX.over hF9 x_TLX_p0_0 (by decide)
                    have r_v_14 : RI v_14 (-2147483648) 2147483647 := hp_v_14.1
                    subst hQ
                    exact W.iret (v := v_14) hx hb hr (fun t ht hW => ⟨⟨v_14, (Pn, ws), rfl, ⟨⟨r_v_14.to (by decide), (fun h0 => trivial), (fun h0 => trivial), ⟨x_TLX_p0_0, trivial⟩, (fun _ => trivial), (fun _ => trivial)⟩, hw.2.2.2.2.2.2, hw.1, hw.2.2.2.2.1⟩, by rw [ht]; exact hw.2.1, va_K.moved hW.alike hK, hw.2.2.1⟩, hw.2.2.2.1.F ht⟩) hw.2.2.2.1.2.2 dX9_sat_142
                  · have r_v_4 : RI v_4 255 5 := rc_eq1 r_v_4 rl_255 (ti_eq c_128) (by decide)
                    exact (r_v_4.no (by decide)).elim
                · have r_v_13 : RI v_13 1 1 := rc_neL r_v_13 rl_0 (ti_ne c_115) (by decide)
                  refine lv_iconst (v := (-1)) hx hb dX9_sat_118 (by decide) ?_
                  refine W.widen (k := 1) (n := 8) (Nat.le_of_ble_eq_true rfl) (Nat.le_of_ble_eq_true rfl) ?_
                  subst hQ
                  exact W.iret (v := (-1)) hx hb hr (fun t ht hW => ⟨⟨(-1), (Ps, ws), rfl, ⟨⟨rl_m1.to (by decide), (fun _ => trivial), (fun h0 => trivial), ⟨x_TLX_p0_0, trivial⟩, (fun _ => trivial), (fun _ => trivial)⟩, hw.2.2.2.2.2.2, hw.1, hw.2.2.2.2.1⟩, by rw [ht]; exact hw.2.1, va_K.moved hW.alike hK, hw.2.2.1⟩, hw.2.2.2.1.F ht⟩) hw.2.2.2.1.2.2 dX9_sat_119
          · have r_v_3 : RI v_3 31 255 := rc_lt2 rl_30 r_v_3 (ti_nle c_84) (by decide)
            refine lv_iconst (v := (-1)) hx hb dX9_sat_87 (by decide) ?_
            refine W.widen (k := 1) (n := 8) (Nat.le_of_ble_eq_true rfl) (Nat.le_of_ble_eq_true rfl) ?_
            subst hQ
            exact W.iret (v := (-1)) hx hb hr (fun t ht hW => ⟨⟨(-1), (Ps, ws), rfl, ⟨⟨rl_m1.to (by decide), (fun _ => trivial), (fun h0 => trivial), ⟨x_TLX_p0_0, trivial⟩, (fun _ => trivial), (fun _ => trivial)⟩, hw.2.2.2.2.2.2, hw.1, hw.2.2.2.2.1⟩, by rw [ht]; exact hw.2.1, va_K.moved hW.alike hK, hw.2.2.1⟩, hw.2.2.2.1.F ht⟩) hw.2.2.2.1.2.2 dX9_sat_88
  refine lv_aload_n hx hb dX9_sat_0 rfl (lv_at hl 0 rfl) ?_
  refine tg_get (ci := 9) (ts := ty_WP) (C := RX9) (T := TX9) (N := 15) hx hb hts inX9 hown hK hw h_p0 rfl rfl 0 (by decide) (hts _ tw_346) (fun _ h9 => h9) (ft := vR 26) rfl dX9_sat_1 (fun u_15 hv_u_15 m_u_15 => ?_)
  obtain ⟨vu_15, rfl, h_vu_15⟩ := hv_u_15
  refine tg_getN (ci := 7) (ts := ty_TAPE) (C := RX7) (T := TX7) (N := 12) hx hb hts inX7 hown hK hw h_vu_15 rfl rfl 2 (by decide) (hSD.nest tn_90) (fun _ h9 => h9) (ft := vI 0 940) rfl dX9_sat_4 (fun u_16 hv_u_16 m_u_16 => ?_)
  obtain ⟨vu_16, rfl, r_vu_16⟩ := hv_u_16
  refine lv_iconst (v := 4) hx hb dX9_sat_7 (by decide) ?_
  refine lv_icmp_ne (tgt := 15) hx hb dX9_sat_8 (by decide) (fun c_8 => ?_) (fun c_8 => ?_)
  · refine lv_iconst (v := 0) hx hb dX9_sat_15 (by decide) ?_
    exact B16 0 w0 _ _ ls (rl_0.to (by decide)) hw hl
  · have r_vu_16 : RI vu_16 4 4 := rc_eq1 r_vu_16 rl_4 (ti_eq c_8) (by decide)
    refine lv_iconst (v := 1) hx hb dX9_sat_11 (by decide) ?_
    refine lv_goto (tgt := 16) hx hb dX9_sat_12 (by decide) ?_
    exact B16 1 w0 _ _ ls (rl_1.to (by decide)) hw hl
abbrev wr_X9_book__1 : List (Nat × Nat) := [(0, 3), (0, 4), (1, 1), (1, 2), (7, 2), (7, 3), (7, 4), (7, 5), (7, 6), (7, 7), (7, 8), (7, 9), (7, 10), (7, 11), (8, 0), (8, 1), (9, 11)]
abbrev wa_X9_book__1 : List Nat := [8, 9, 10, 11, 12, 13, 14, 15, 18, 19, 20]
set_option maxHeartbeats 4000000 in
set_option maxRecDepth 100000 in
theorem c_X9_book__1 (l : Launch) (D : va_G) (cy : Nat → ClassId) (z : Nat → Nat) (sz : Nat) (Ps : PSI) (w0 : va_W) (hT : HT cy GG Ps w0) (p0 : Nat) (p1 : Int32) (gh : Int) (h_p0 : (p0, 33) ∈ Ps) (r_p1 : RI p1 (-2147483648) 2147483647) (x_TLX_p0_gh : TLX w0 p0 (gh)) : Met l yX9_book (Cond.code yX9_book cX9_book 3 (some .int) :: gT) ({ frames := 8, cells := 0, slots := 0, locals := 1600 } : Room) (va_Pc [.ref p0, .int p1] (PRE D cy z w0 sz)) (va_Qi (fun (r : Int32) (u : va_W) => (RI r (-2147483648) 2147483647 ∧ (r = 0 → True) ∧ (¬ r = 0 → True) ∧ (BKX u p0 p1 (gh) ∧ True) ∧ (r.toInt < 0 → True) ∧ (0 ≤ r.toInt → True)) ∧ HT cy GG Ps u ∧ FR wr_X9_book__1 wa_X9_book__1 Ps w0 u) (BB D cy (va_A w0 sz) (fun (u : va_W) => u)) (va_A w0 sz)) 0 0 (va_A w0 sz) := by
  refine Met.ofW (cc := cX9_book) (maxL := 3) (ret := (some .int)) (by decide) rfl ?_
  intro p e s m args below meth c s₁ B hml hv
  obtain ⟨rfl, hsz, hP, hK, hD0, hSD⟩ := hv
  have hx := B.exec
  have hb := B.bytes
  have hr := B.returns
  have hlocks := B.notSynchronized
  have hts : ∀ w ∈ gT, w.before _ s = true := fun w h => atoms_spec (ws := Cond.code yX9_book cX9_book 3 (some .int) :: gT) B.pre w (List.mem_cons_of_mem _ h)
  have hown : s.vm.findClass RX9 = some m.cls := findClass_of_methodNamed B.named
  subst hsz
  have hD := hD0.self (sz := s.heap.size)
  generalize hAe : va_A w0 s.heap.size = A at hD hSD ⊢
  have hA : ∀ q : Nat, s.heap.size ≤ q → A q := fun q h => by rw [← hAe]; exact Or.inr h
  have hl := lv_entry ([.ref p0, .int p1]) (n := 3) (Nat.le_of_ble_eq_true rfl)
  rw [lg_entry_eq]
  generalize (lg_sl ([.ref p0, .int p1]) ++ List.replicate (3 - (lg_sl ([.ref p0, .int p1])).length) Slot.unset).toArray = ls at hl ⊢
  have hl : lv_has ls 3 [(0, .ref p0), (1, .int p1)] := hl
  refine nameQ (fun Q hQ => ?_)
  have hw : WD D cy GG A s wr_X9_book__1 wa_X9_book__1 Ps w0 Ps w0 s.heap [] := ⟨hT, hP, hD, va_S.rf, FR.rf, hT.1, [], (List.append_nil _).symm⟩
  have B156 : ∀ (x2 : Int32) (z0_11 : Int32) (ws : va_W) (H : Heap) (locs : List Loc) (ls : Array Slot), RI p1 0 1 → RI x2 (-2147483648) 2147483647 → RI z0_11 0 0 → FLD ws p0 9 11 (.int z0_11) → EQF ws p0 → TLX ws p0 (0) → WD D cy GG A s wr_X9_book__1 wa_X9_book__1 Ps w0 Ps ws H locs → lv_has ls 3 [(0, .ref p0), (1, .int p1), (2, .int x2)] → W p l e (headSpec (Cond.code yX9_book cX9_book 3 (some .int) :: gT) ({ frames := 8, cells := 0, slots := 0, locals := 1600 } : Room)).room s m ([.ref p0, .int p1] : List Value).toArray below meth c H locs 0 0 Q (F0 m 156 ls []) := by
    intro x2 z0_11 ws H locs ls r_p1 r_x2 r_z0_11 m_z0_11 x_EQF_p0 x_TLX_p0_0 hw hl
    refine lv_iload_n hx hb dX9_book_156 rfl (lv_at hl 2 rfl) ?_
    refine lv_if_ne (tgt := 164) hx hb dX9_book_157 (by decide) (fun c_157 => ?_) (fun c_157 => ?_)
    · refine lv_aload_n hx hb dX9_book_164 rfl (lv_at hl 0 rfl) ?_
      refine tg_get (ci := 9) (ts := ty_WP) (C := RX9) (T := TX9) (N := 15) hx hb hts inX9 hown hK hw h_p0 rfl rfl 6 (by decide) (hts _ tw_352) (fun _ h9 => h9) (ft := vR 31) rfl dX9_book_165 (fun u_1 hv_u_1 m_u_1 => ?_)
      obtain ⟨vu_1, rfl, h_vu_1⟩ := hv_u_1
      refine tg_getN (ci := 0) (ts := ty_BOOK) (C := RX0) (T := TX0) (N := 5) hx hb hts inX0 hown hK hw h_vu_1 rfl rfl 4 (by decide) (hSD.nest tn_147) (fun _ h9 => h9) (ft := vI (-2147483648) 2147483647) rfl dX9_book_168 (fun u_2 hv_u_2 m_u_2 => ?_)
      obtain ⟨vu_2, rfl, r_vu_2⟩ := hv_u_2
      subst hQ
      exact W.iret (v := vu_2) hx hb hr (fun t ht hW => ⟨⟨vu_2, ws, rfl, ⟨⟨r_vu_2.to (by decide), (fun h0 => trivial), (fun h0 => trivial), ⟨⟨fun _ => x_TLX_p0_0, fun h9 => absurd ⟨by have k1 := r_p1.1; omega, by have k1 := r_p1.2; omega⟩ h9⟩, trivial⟩, (fun _ => trivial), (fun _ => trivial)⟩, hw.1, hw.2.2.2.2.1⟩, by rw [ht]; exact hw.2.1, va_K.moved hW.alike hK, hw.2.2.1⟩, hw.2.2.2.1.F ht⟩) hw.2.2.2.1.2.2 dX9_book_171
    · have r_x2 : RI x2 0 0 := rc_eq1 r_x2 rl_0 (ti_eq c_157) (by decide)
      refine lv_iconst (v := (-1)) hx hb dX9_book_160 (by decide) ?_
      refine lv_goto (tgt := 171) hx hb dX9_book_161 (by decide) ?_
      subst hQ
      exact W.iret (v := (-1)) hx hb hr (fun t ht hW => ⟨⟨(-1), ws, rfl, ⟨⟨rl_m1.to (by decide), (fun _ => trivial), (fun h0 => trivial), ⟨⟨fun _ => x_TLX_p0_0, fun h9 => absurd ⟨by have k1 := r_p1.1; omega, by have k1 := r_p1.2; omega⟩ h9⟩, trivial⟩, (fun _ => trivial), (fun _ => trivial)⟩, hw.1, hw.2.2.2.2.1⟩, by rw [ht]; exact hw.2.1, va_K.moved hW.alike hK, hw.2.2.1⟩, hw.2.2.2.1.F ht⟩) hw.2.2.2.1.2.2 dX9_book_171
  refine lv_iload_n hx hb dX9_book_0 rfl (lv_at hl 1 rfl) ?_
  refine lv_if_eq (tgt := 13) hx hb dX9_book_1 (by decide) (fun c_1 => ?_) (fun c_1 => ?_)
  · have r_p1 : RI p1 0 0 := rc_eq1 r_p1 rl_0 (ti_eq c_1) (by decide)
    refine lv_aload_n hx hb dX9_book_13 rfl (lv_at hl 0 rfl) ?_
    refine tg_get (ci := 9) (ts := ty_WP) (C := RX9) (T := TX9) (N := 15) hx hb hts inX9 hown hK hw h_p0 rfl rfl 6 (by decide) (hts _ tw_352) (fun _ h9 => h9) (ft := vR 31) rfl dX9_book_14 (fun u_3 hv_u_3 m_u_3 => ?_)
    obtain ⟨vu_3, rfl, h_vu_3⟩ := hv_u_3
    refine lv_aload_n hx hb dX9_book_17 rfl (lv_at hl 0 rfl) ?_
    refine tg_get (ci := 9) (ts := ty_WP) (C := RX9) (T := TX9) (N := 15) hx hb hts inX9 hown hK hw h_p0 rfl rfl 0 (by decide) (hts _ tw_346) (fun _ h9 => h9) (ft := vR 26) rfl dX9_book_18 (fun u_4 hv_u_4 m_u_4 => ?_)
    obtain ⟨vu_4, rfl, h_vu_4⟩ := hv_u_4
    refine lv_aload_n hx hb dX9_book_21 rfl (lv_at hl 0 rfl) ?_
    refine tg_get (ci := 9) (ts := ty_WP) (C := RX9) (T := TX9) (N := 15) hx hb hts inX9 hown hK hw h_p0 rfl rfl 1 (by decide) (hts _ tw_347) (fun _ h9 => h9) (ft := vR 24) rfl dX9_book_22 (fun u_5 hv_u_5 m_u_5 => ?_)
    obtain ⟨vu_5, rfl, h_vu_5⟩ := hv_u_5
    refine tg_getN (ci := 8) (ts := ty_WORLD) (C := RX8) (T := TX8) (N := 13) hx hb hts inX8 hown hK hw h_vu_5 rfl rfl 0 (by decide) (hSD.nest tn_249) (fun _ h9 => h9) (ft := vR 25) rfl dX9_book_25 (fun u_6 hv_u_6 m_u_6 => ?_)
    obtain ⟨vu_6, rfl, h_vu_6⟩ := hv_u_6
    refine tk_v (va_runV (As := [.ref vu_4, .ref vu_6]) (rest := []) ⟨hx, hb, hml, hown, hts⟩ (c_X0_read l D cy z s.heap.size Ps w0 hw.1 vu_3 vu_4 vu_6 h_vu_3 h_vu_4 h_vu_6) (cwV 2 hts (gV tw_886 tw_887 tw_888 tw_7 tw_889) rfl rfl rfl (by decide +kernel) ⟨Nat.le_of_ble_eq_true rfl, Nat.le_of_ble_eq_true rfl⟩) (tg_preV hw hK hSD hA (ci := 0) (q := (RX0, TX0, 5)) rfl h_vu_3 rfl) rfl rfl hl.1 rfl (lv_room (Nat.le_of_ble_eq_true rfl)) dX9_book_28 ⟨Nat.le_of_ble_eq_true rfl, Nat.le_of_ble_eq_true rfl⟩) hw hA ⟨by decide, by decide⟩ (fun ws H locs hp_v_7 hw hF9 => ?_)
    have m_u_3 := FLD.over hF9 m_u_3 (by decide)
    have m_u_4 := FLD.over hF9 m_u_4 (by decide)
    have m_u_5 := FLD.over hF9 m_u_5 (by decide)
    have m_u_6 := FLD.over hF9 m_u_6 (by decide)
    have x_TLX_p0_gh := TLX.over hF9 x_TLX_p0_gh (by decide)
    have x_JB_vu_4_vu_3 := (hp_v_7.1)
    refine lv_aload_n hx hb dX9_book_31 rfl (lv_at hl 0 rfl) ?_
    refine tk_v (va_runV (As := []) (rest := []) ⟨hx, hb, hml, hown, hts⟩ (c_X9_noteFault__2 l D cy z H.size Ps ws hw.1 p0 h_p0) (cwV 0 hts (gV tw_517 tw_519 ts_9 tw_1 tw_520) rfl rfl rfl (by decide +kernel) ⟨Nat.le_of_ble_eq_true rfl, Nat.le_of_ble_eq_true rfl⟩) (tg_preV hw hK hSD hA (ci := 9) (q := (RX9, TX9, 15)) rfl h_p0 rfl) rfl rfl hl.1 rfl (lv_room (Nat.le_of_ble_eq_true rfl)) dX9_book_32 ⟨Nat.le_of_ble_eq_true rfl, Nat.le_of_ble_eq_true rfl⟩) hw hA ⟨by decide, by decide⟩ (fun ws H locs hp_v_8 hw hF9 => ?_)
    have m_u_3 := FLD.over hF9 m_u_3 (by decide)
    have m_u_4 := FLD.over hF9 m_u_4 (by decide)
    have m_u_5 := FLD.over hF9 m_u_5 (by decide)
    have m_u_6 := FLD.over hF9 m_u_6 (by decide)
    have x_JB_vu_4_vu_3 := JB.over hF9 x_JB_vu_4_vu_3 (by decide)
    have x_EQF_p0 := (hp_v_8.1)
    have x_TLX_p0_0 := (hp_v_8.2.1)
    refine lv_aload_n hx hb dX9_book_35 rfl (lv_at hl 0 rfl) ?_
    refine tg_get (ci := 9) (ts := ty_WP) (C := RX9) (T := TX9) (N := 15) hx hb hts inX9 hown hK hw h_p0 rfl rfl 11 (by decide) (hts _ tw_357) (fun _ h9 => h9) (ft := vI (-2147483648) 2147483647) rfl dX9_book_36 (fun u_9 hv_u_9 m_u_9 => ?_)
    obtain ⟨vu_9, rfl, r_vu_9⟩ := hv_u_9
    refine lv_if_eq (tgt := 53) hx hb dX9_book_39 (by decide) (fun c_39 => ?_) (fun c_39 => ?_)
    · have r_vu_9 : RI vu_9 0 0 := rc_eq1 r_vu_9 rl_0 (ti_eq c_39) (by decide)
      have x_BG_vu_3 : BG Ps ws vu_3 := JB.bg hw x_JB_vu_4_vu_3 x_EQF_p0 m_u_4 m_u_9 r_vu_9
      refine lv_aload_n hx hb dX9_book_53 rfl (lv_at hl 0 rfl) ?_
      refine tg_get (ci := 9) (ts := ty_WP) (C := RX9) (T := TX9) (N := 15) hx hb hts inX9 hown hK hw h_p0 rfl rfl 2 (by decide) (hts _ tw_348) (fun _ h9 => h9) (ft := vR 24) rfl dX9_book_54 (fun u_10 hv_u_10 m_u_10 => ?_)
      obtain ⟨vu_10, rfl, h_vu_10⟩ := hv_u_10
      refine lv_aload_n hx hb dX9_book_57 rfl (lv_at hl 0 rfl) ?_
      refine tg_mem (ci := 9) (C := RX9) (T := TX9) (N := 15) hx hb hts inX9 hown hK hw 1 m_u_5 rfl (by decide) (hts _ tw_347) (fun _ h9 => h9) dX9_book_58 ?_
      refine tk_v (va_runV (As := [.ref vu_5]) (rest := []) ⟨hx, hb, hml, hown, hts⟩ (c_X8_takeFrom l D cy z H.size Ps ws hw.1 vu_10 vu_5 h_vu_10 h_vu_5) (cwV 1 hts (gV tw_521 tw_522 tw_523 tw_12 tw_524) rfl rfl rfl (by decide +kernel) ⟨Nat.le_of_ble_eq_true rfl, Nat.le_of_ble_eq_true rfl⟩) (tg_preV hw hK hSD hA (ci := 8) (q := (RX8, TX8, 13)) rfl h_vu_10 rfl) rfl rfl hl.1 rfl (lv_room (Nat.le_of_ble_eq_true rfl)) dX9_book_61 ⟨Nat.le_of_ble_eq_true rfl, Nat.le_of_ble_eq_true rfl⟩) hw hA ⟨by decide, by decide⟩ (fun ws H locs hp_v_11 hw hF9 => ?_)
      have m_u_3 := FLD.over hF9 m_u_3 (by decide)
      have m_u_4 := FLD.over hF9 m_u_4 (by decide)
      have m_u_5 := FLD.over hF9 m_u_5 (by decide)
      have m_u_9 := FLD.over hF9 m_u_9 (by decide)
      have m_u_10 := FLD.over hF9 m_u_10 (by decide)
      have x_JB_vu_4_vu_3 := JB.over hF9 x_JB_vu_4_vu_3 (by decide)
      have x_EQF_p0 := EQF.over hF9 x_EQF_p0 (by decide)
      have x_TLX_p0_0 := TLX.over hF9 x_TLX_p0_0 (by decide)
      have x_BG_vu_3 := B3.over hF9 x_BG_vu_3 (by decide)
      refine lv_aload_n hx hb dX9_book_64 rfl (lv_at hl 0 rfl) ?_
      refine tg_mem (ci := 9) (C := RX9) (T := TX9) (N := 15) hx hb hts inX9 hown hK hw 6 m_u_3 rfl (by decide) (hts _ tw_352) (fun _ h9 => h9) dX9_book_65 ?_
      refine lv_aload_n hx hb dX9_book_68 rfl (lv_at hl 0 rfl) ?_
      refine tg_mem (ci := 9) (C := RX9) (T := TX9) (N := 15) hx hb hts inX9 hown hK hw 2 m_u_10 rfl (by decide) (hts _ tw_348) (fun _ h9 => h9) dX9_book_69 ?_
      refine tk_i (va_runV (As := [.ref vu_10]) (rest := []) ⟨hx, hb, hml, hown, hts⟩ (c_X0_liveIn l D cy z H.size Ps ws hw.1 vu_3 vu_10 h_vu_3 h_vu_10 x_BG_vu_3) (cwV 1 hts (gV tw_914 tw_915 tw_916 tw_7 tw_917) rfl rfl rfl (by decide +kernel) ⟨Nat.le_of_ble_eq_true rfl, Nat.le_of_ble_eq_true rfl⟩) (tg_preV hw hK hSD hA (ci := 0) (q := (RX0, TX0, 5)) rfl h_vu_3 rfl) rfl rfl hl.1 rfl (lv_room (Nat.le_of_ble_eq_true rfl)) dX9_book_72 ⟨Nat.le_of_ble_eq_true rfl, Nat.le_of_ble_eq_true rfl⟩) hw hA ⟨by decide, by decide⟩ (fun v_12 ws H locs hp_v_12 hw hF9 => ?_)
      have m_u_3 := FLD.over hF9 m_u_3 (by decide)
      have m_u_4 := FLD.over hF9 m_u_4 (by decide)
      have m_u_5 := FLD.over hF9 m_u_5 (by decide)
      have m_u_9 := FLD.over hF9 m_u_9 (by decide)
      have m_u_10 := FLD.over hF9 m_u_10 (by decide)
      have x_JB_vu_4_vu_3 := JB.over hF9 x_JB_vu_4_vu_3 (by decide)
      have x_EQF_p0 := EQF.over hF9 x_EQF_p0 (by decide)
      have x_TLX_p0_0 := TLX.over hF9 x_TLX_p0_0 (by decide)
      have x_BG_vu_3 := B3.over hF9 x_BG_vu_3 (by decide)
      have r_v_12 : RI v_12 (-2147483648) 2147483647 := hp_v_12.1
      by_cases c9_v_12 : v_12 = 0
      · have r_v_12 : RI v_12 0 0 := by rw [c9_v_12]; exact rl_0
        refine lv_istore_n (lv' := [(2, .int v_12), (0, .ref p0), (1, .int p1)]) hx hb dX9_book_75 rfl hl (by decide) rfl (fun ls hl => ?_)
        refine lv_aload_n hx hb dX9_book_76 rfl (lv_at hl 1 rfl) ?_
        refine tg_get (ci := 9) (ts := ty_WP) (C := RX9) (T := TX9) (N := 15) hx hb hts inX9 hown hK hw h_p0 rfl rfl 7 (by decide) (hts _ tw_353) (fun _ h9 => h9) (ft := vR 15) rfl dX9_book_77 (fun u_13 hv_u_13 m_u_13 => ?_)
        obtain ⟨vu_13, rfl, h_vu_13⟩ := hv_u_13
        refine lv_iconst (v := 0) hx hb dX9_book_80 (by decide) ?_
        refine lv_iload_n hx hb dX9_book_81 rfl (lv_at hl 0 rfl) ?_
        refine tg_iast hx hb hK hw h_vu_13 rfl 0 0 rl_0 (by decide) r_v_12 (by exact fun _ _ _ => by decide) (fun _ _ _ _ _ => trivial) (by decide) dX9_book_82 (fun ws H locs hw hF9 hU9 => ?_)
        have x_JB_vu_4_vu_3 := JB.over hF9 x_JB_vu_4_vu_3 (by decide)
        have x_EQF_p0 := EQF.over hF9 x_EQF_p0 (by decide)
        have x_TLX_p0_0 := TLX.over hF9 x_TLX_p0_0 (by decide)
        have x_BG_vu_3 := B3.over hF9 x_BG_vu_3 (by decide)
        have m_u_3 := FLD.over hF9 m_u_3 (by decide)
        have m_u_4 := FLD.over hF9 m_u_4 (by decide)
        have m_u_5 := FLD.over hF9 m_u_5 (by decide)
        have m_u_9 := FLD.over hF9 m_u_9 (by decide)
        have m_u_10 := FLD.over hF9 m_u_10 (by decide)
        have m_u_13 := FLD.over hF9 m_u_13 (by decide)
        refine lv_aload_n hx hb dX9_book_83 rfl (lv_at hl 1 rfl) ?_
        refine tg_mem (ci := 9) (C := RX9) (T := TX9) (N := 15) hx hb hts inX9 hown hK hw 7 m_u_13 rfl (by decide) (hts _ tw_353) (fun _ h9 => h9) dX9_book_84 ?_
        refine lv_iconst (v := 1) hx hb dX9_book_87 (by decide) ?_
        refine lv_aload_n hx hb dX9_book_88 rfl (lv_at hl 1 rfl) ?_
        refine tg_mem (ci := 9) (C := RX9) (T := TX9) (N := 15) hx hb hts inX9 hown hK hw 6 m_u_3 rfl (by decide) (hts _ tw_352) (fun _ h9 => h9) dX9_book_89 ?_
        refine tg_getN (ci := 0) (ts := ty_BOOK) (C := RX0) (T := TX0) (N := 5) hx hb hts inX0 hown hK hw h_vu_3 rfl rfl 4 (by decide) (hSD.nest tn_147) (fun _ h9 => h9) (ft := vI (-2147483648) 2147483647) rfl dX9_book_92 (fun u_14 hv_u_14 m_u_14 => ?_)
        obtain ⟨vu_14, rfl, r_vu_14⟩ := hv_u_14
        refine tg_iast hx hb hK hw h_vu_13 rfl 1 1 rl_1 (by decide) r_vu_14 (by exact fun _ _ _ => by decide) (fun _ _ _ _ _ => trivial) (by decide) dX9_book_95 (fun ws H locs hw hF9 hU9 => ?_)
        have x_JB_vu_4_vu_3 := JB.over hF9 x_JB_vu_4_vu_3 (by decide)
        have x_EQF_p0 := EQF.over hF9 x_EQF_p0 (by decide)
        have x_TLX_p0_0 := TLX.over hF9 x_TLX_p0_0 (by decide)
        have x_BG_vu_3 := B3.over hF9 x_BG_vu_3 (by decide)
        have m_u_3 := FLD.over hF9 m_u_3 (by decide)
        have m_u_4 := FLD.over hF9 m_u_4 (by decide)
        have m_u_5 := FLD.over hF9 m_u_5 (by decide)
        have m_u_9 := FLD.over hF9 m_u_9 (by decide)
        have m_u_10 := FLD.over hF9 m_u_10 (by decide)
        have m_u_13 := FLD.over hF9 m_u_13 (by decide)
        have m_u_14 := FLD.over hF9 m_u_14 (by decide)
        refine lv_aload_n hx hb dX9_book_96 rfl (lv_at hl 1 rfl) ?_
        refine tg_mem (ci := 9) (C := RX9) (T := TX9) (N := 15) hx hb hts inX9 hown hK hw 7 m_u_13 rfl (by decide) (hts _ tw_353) (fun _ h9 => h9) dX9_book_97 ?_
        refine lv_iconst (v := 2) hx hb dX9_book_100 (by decide) ?_
        refine lv_aload_n hx hb dX9_book_101 rfl (lv_at hl 1 rfl) ?_
        refine tg_mem (ci := 9) (C := RX9) (T := TX9) (N := 15) hx hb hts inX9 hown hK hw 2 m_u_10 rfl (by decide) (hts _ tw_348) (fun _ h9 => h9) dX9_book_102 ?_
        refine tg_getN (ci := 8) (ts := ty_WORLD) (C := RX8) (T := TX8) (N := 13) hx hb hts inX8 hown hK hw h_vu_10 rfl rfl 1 (by decide) (hSD.nest tn_251) (fun _ h9 => h9) (ft := vI (-2147483648) 2147483647) rfl dX9_book_105 (fun u_15 hv_u_15 m_u_15 => ?_)
        obtain ⟨vu_15, rfl, r_vu_15⟩ := hv_u_15
        refine tg_iast hx hb hK hw h_vu_13 rfl 2 2 rl_2 (by decide) r_vu_15 (by exact fun _ _ _ => by decide) (fun _ _ _ _ _ => trivial) (by decide) dX9_book_108 (fun ws H locs hw hF9 hU9 => ?_)
        have x_JB_vu_4_vu_3 := JB.over hF9 x_JB_vu_4_vu_3 (by decide)
        have x_EQF_p0 := EQF.over hF9 x_EQF_p0 (by decide)
        have x_TLX_p0_0 := TLX.over hF9 x_TLX_p0_0 (by decide)
        have x_BG_vu_3 := B3.over hF9 x_BG_vu_3 (by decide)
        have m_u_3 := FLD.over hF9 m_u_3 (by decide)
        have m_u_4 := FLD.over hF9 m_u_4 (by decide)
        have m_u_5 := FLD.over hF9 m_u_5 (by decide)
        have m_u_9 := FLD.over hF9 m_u_9 (by decide)
        have m_u_10 := FLD.over hF9 m_u_10 (by decide)
        have m_u_13 := FLD.over hF9 m_u_13 (by decide)
        have m_u_14 := FLD.over hF9 m_u_14 (by decide)
        have m_u_15 := FLD.over hF9 m_u_15 (by decide)
        refine lv_aload_n hx hb dX9_book_109 rfl (lv_at hl 1 rfl) ?_
        refine tg_mem (ci := 9) (C := RX9) (T := TX9) (N := 15) hx hb hts inX9 hown hK hw 7 m_u_13 rfl (by decide) (hts _ tw_353) (fun _ h9 => h9) dX9_book_110 ?_
        refine lv_iconst (v := 3) hx hb dX9_book_113 (by decide) ?_
        refine lv_aload_n hx hb dX9_book_114 rfl (lv_at hl 1 rfl) ?_
        refine tg_mem (ci := 9) (C := RX9) (T := TX9) (N := 15) hx hb hts inX9 hown hK hw 2 m_u_10 rfl (by decide) (hts _ tw_348) (fun _ h9 => h9) dX9_book_115 ?_
        refine tk_ir (va_runV (As := []) (rest := [.int 3, .ref vu_13]) ⟨hx, hb, hml, hown, hts⟩ (c_X8_whichAreNothing l D cy z H.size Ps ws hw.1 vu_10 h_vu_10) (cwV 0 hts (gV tw_565 tw_566 tw_567 tw_12 tw_568) rfl rfl rfl (by decide +kernel) ⟨Nat.le_of_ble_eq_true rfl, Nat.le_of_ble_eq_true rfl⟩) (tg_preV hw hK hSD hA (ci := 8) (q := (RX8, TX8, 13)) rfl h_vu_10 rfl) rfl rfl hl.1 rfl (lv_room (Nat.le_of_ble_eq_true rfl)) dX9_book_118 ⟨Nat.le_of_ble_eq_true rfl, Nat.le_of_ble_eq_true rfl⟩) hw hA (fun v_16  H locs hp_v_16 hw => ?_)
        have r_v_16 : RI v_16 (-2147483648) 2147483647 := hp_v_16.1
        refine tg_iast hx hb hK hw h_vu_13 rfl 3 3 rl_3 (by decide) r_v_16 (by exact fun _ _ _ => by decide) (fun _ _ _ _ _ => trivial) (by decide) dX9_book_121 (fun ws H locs hw hF9 hU9 => ?_)
        have x_JB_vu_4_vu_3 := JB.over hF9 x_JB_vu_4_vu_3 (by decide)
        have x_EQF_p0 := EQF.over hF9 x_EQF_p0 (by decide)
        have x_TLX_p0_0 := TLX.over hF9 x_TLX_p0_0 (by decide)
        have x_BG_vu_3 := B3.over hF9 x_BG_vu_3 (by decide)
        have m_u_3 := FLD.over hF9 m_u_3 (by decide)
        have m_u_4 := FLD.over hF9 m_u_4 (by decide)
        have m_u_5 := FLD.over hF9 m_u_5 (by decide)
        have m_u_9 := FLD.over hF9 m_u_9 (by decide)
        have m_u_10 := FLD.over hF9 m_u_10 (by decide)
        have m_u_13 := FLD.over hF9 m_u_13 (by decide)
        have m_u_14 := FLD.over hF9 m_u_14 (by decide)
        have m_u_15 := FLD.over hF9 m_u_15 (by decide)
        refine lv_iload_n hx hb dX9_book_122 rfl (lv_at hl 2 rfl) ?_
        refine lv_iconst (v := 1) hx hb dX9_book_123 (by decide) ?_
        refine lv_icmp_ne (tgt := 156) hx hb dX9_book_124 (by decide) (fun c_124 => ?_) (fun c_124 => ?_)
        · exact B156 v_12 vu_9 ws _ _ ls (r_p1.to (by decide)) (r_v_12.to (by decide)) r_vu_9 m_u_9 x_EQF_p0 x_TLX_p0_0 hw (lv_sub hl [1, 2, 0] rfl)
        · have r_p1 : RI p1 1 0 := rc_eq1 r_p1 rl_1 (ti_eq c_124) (by decide)
          exact (r_p1.no (by decide)).elim
      · obtain ⟨v_17, m_v_17, r_v_17⟩ := ((hp_v_12.2.2 c9_v_12).1)
        refine lv_istore_n (lv' := [(2, .int v_12), (0, .ref p0), (1, .int p1)]) hx hb dX9_book_75 rfl hl (by decide) rfl (fun ls hl => ?_)
        refine lv_aload_n hx hb dX9_book_76 rfl (lv_at hl 1 rfl) ?_
        refine tg_get (ci := 9) (ts := ty_WP) (C := RX9) (T := TX9) (N := 15) hx hb hts inX9 hown hK hw h_p0 rfl rfl 7 (by decide) (hts _ tw_353) (fun _ h9 => h9) (ft := vR 15) rfl dX9_book_77 (fun u_18 hv_u_18 m_u_18 => ?_)
        obtain ⟨vu_18, rfl, h_vu_18⟩ := hv_u_18
        refine lv_iconst (v := 0) hx hb dX9_book_80 (by decide) ?_
        refine lv_iload_n hx hb dX9_book_81 rfl (lv_at hl 0 rfl) ?_
        refine tg_iast hx hb hK hw h_vu_18 rfl 0 0 rl_0 (by decide) r_v_12 (by exact fun _ _ _ => by decide) (fun _ _ _ _ _ => trivial) (by decide) dX9_book_82 (fun ws H locs hw hF9 hU9 => ?_)
        have x_JB_vu_4_vu_3 := JB.over hF9 x_JB_vu_4_vu_3 (by decide)
        have x_EQF_p0 := EQF.over hF9 x_EQF_p0 (by decide)
        have x_TLX_p0_0 := TLX.over hF9 x_TLX_p0_0 (by decide)
        have x_BG_vu_3 := B3.over hF9 x_BG_vu_3 (by decide)
        have m_u_3 := FLD.over hF9 m_u_3 (by decide)
        have m_u_4 := FLD.over hF9 m_u_4 (by decide)
        have m_u_5 := FLD.over hF9 m_u_5 (by decide)
        have m_u_9 := FLD.over hF9 m_u_9 (by decide)
        have m_u_10 := FLD.over hF9 m_u_10 (by decide)
        have m_v_17 := FLD.over hF9 m_v_17 (by decide)
        have m_u_18 := FLD.over hF9 m_u_18 (by decide)
        refine lv_aload_n hx hb dX9_book_83 rfl (lv_at hl 1 rfl) ?_
        refine tg_mem (ci := 9) (C := RX9) (T := TX9) (N := 15) hx hb hts inX9 hown hK hw 7 m_u_18 rfl (by decide) (hts _ tw_353) (fun _ h9 => h9) dX9_book_84 ?_
        refine lv_iconst (v := 1) hx hb dX9_book_87 (by decide) ?_
        refine lv_aload_n hx hb dX9_book_88 rfl (lv_at hl 1 rfl) ?_
        refine tg_mem (ci := 9) (C := RX9) (T := TX9) (N := 15) hx hb hts inX9 hown hK hw 6 m_u_3 rfl (by decide) (hts _ tw_352) (fun _ h9 => h9) dX9_book_89 ?_
        refine tg_getN (ci := 0) (ts := ty_BOOK) (C := RX0) (T := TX0) (N := 5) hx hb hts inX0 hown hK hw h_vu_3 rfl rfl 4 (by decide) (hSD.nest tn_147) (fun _ h9 => h9) (ft := vI (-2147483648) 2147483647) rfl dX9_book_92 (fun u_19 hv_u_19 m_u_19 => ?_)
        obtain ⟨vu_19, rfl, r_vu_19⟩ := hv_u_19
        refine tg_iast hx hb hK hw h_vu_18 rfl 1 1 rl_1 (by decide) r_vu_19 (by exact fun _ _ _ => by decide) (fun _ _ _ _ _ => trivial) (by decide) dX9_book_95 (fun ws H locs hw hF9 hU9 => ?_)
        have x_JB_vu_4_vu_3 := JB.over hF9 x_JB_vu_4_vu_3 (by decide)
        have x_EQF_p0 := EQF.over hF9 x_EQF_p0 (by decide)
        have x_TLX_p0_0 := TLX.over hF9 x_TLX_p0_0 (by decide)
        have x_BG_vu_3 := B3.over hF9 x_BG_vu_3 (by decide)
        have m_u_3 := FLD.over hF9 m_u_3 (by decide)
        have m_u_4 := FLD.over hF9 m_u_4 (by decide)
        have m_u_5 := FLD.over hF9 m_u_5 (by decide)
        have m_u_9 := FLD.over hF9 m_u_9 (by decide)
        have m_u_10 := FLD.over hF9 m_u_10 (by decide)
        have m_v_17 := FLD.over hF9 m_v_17 (by decide)
        have m_u_18 := FLD.over hF9 m_u_18 (by decide)
        have m_u_19 := FLD.over hF9 m_u_19 (by decide)
        refine lv_aload_n hx hb dX9_book_96 rfl (lv_at hl 1 rfl) ?_
        refine tg_mem (ci := 9) (C := RX9) (T := TX9) (N := 15) hx hb hts inX9 hown hK hw 7 m_u_18 rfl (by decide) (hts _ tw_353) (fun _ h9 => h9) dX9_book_97 ?_
        refine lv_iconst (v := 2) hx hb dX9_book_100 (by decide) ?_
        refine lv_aload_n hx hb dX9_book_101 rfl (lv_at hl 1 rfl) ?_
        refine tg_mem (ci := 9) (C := RX9) (T := TX9) (N := 15) hx hb hts inX9 hown hK hw 2 m_u_10 rfl (by decide) (hts _ tw_348) (fun _ h9 => h9) dX9_book_102 ?_
        refine tg_getN (ci := 8) (ts := ty_WORLD) (C := RX8) (T := TX8) (N := 13) hx hb hts inX8 hown hK hw h_vu_10 rfl rfl 1 (by decide) (hSD.nest tn_251) (fun _ h9 => h9) (ft := vI (-2147483648) 2147483647) rfl dX9_book_105 (fun u_20 hv_u_20 m_u_20 => ?_)
        obtain ⟨vu_20, rfl, r_vu_20⟩ := hv_u_20
        refine tg_iast hx hb hK hw h_vu_18 rfl 2 2 rl_2 (by decide) r_vu_20 (by exact fun _ _ _ => by decide) (fun _ _ _ _ _ => trivial) (by decide) dX9_book_108 (fun ws H locs hw hF9 hU9 => ?_)
        have x_JB_vu_4_vu_3 := JB.over hF9 x_JB_vu_4_vu_3 (by decide)
        have x_EQF_p0 := EQF.over hF9 x_EQF_p0 (by decide)
        have x_TLX_p0_0 := TLX.over hF9 x_TLX_p0_0 (by decide)
        have x_BG_vu_3 := B3.over hF9 x_BG_vu_3 (by decide)
        have m_u_3 := FLD.over hF9 m_u_3 (by decide)
        have m_u_4 := FLD.over hF9 m_u_4 (by decide)
        have m_u_5 := FLD.over hF9 m_u_5 (by decide)
        have m_u_9 := FLD.over hF9 m_u_9 (by decide)
        have m_u_10 := FLD.over hF9 m_u_10 (by decide)
        have m_v_17 := FLD.over hF9 m_v_17 (by decide)
        have m_u_18 := FLD.over hF9 m_u_18 (by decide)
        have m_u_19 := FLD.over hF9 m_u_19 (by decide)
        have m_u_20 := FLD.over hF9 m_u_20 (by decide)
        refine lv_aload_n hx hb dX9_book_109 rfl (lv_at hl 1 rfl) ?_
        refine tg_mem (ci := 9) (C := RX9) (T := TX9) (N := 15) hx hb hts inX9 hown hK hw 7 m_u_18 rfl (by decide) (hts _ tw_353) (fun _ h9 => h9) dX9_book_110 ?_
        refine lv_iconst (v := 3) hx hb dX9_book_113 (by decide) ?_
        refine lv_aload_n hx hb dX9_book_114 rfl (lv_at hl 1 rfl) ?_
        refine tg_mem (ci := 9) (C := RX9) (T := TX9) (N := 15) hx hb hts inX9 hown hK hw 2 m_u_10 rfl (by decide) (hts _ tw_348) (fun _ h9 => h9) dX9_book_115 ?_
        refine tk_ir (va_runV (As := []) (rest := [.int 3, .ref vu_18]) ⟨hx, hb, hml, hown, hts⟩ (c_X8_whichAreNothing l D cy z H.size Ps ws hw.1 vu_10 h_vu_10) (cwV 0 hts (gV tw_565 tw_566 tw_567 tw_12 tw_568) rfl rfl rfl (by decide +kernel) ⟨Nat.le_of_ble_eq_true rfl, Nat.le_of_ble_eq_true rfl⟩) (tg_preV hw hK hSD hA (ci := 8) (q := (RX8, TX8, 13)) rfl h_vu_10 rfl) rfl rfl hl.1 rfl (lv_room (Nat.le_of_ble_eq_true rfl)) dX9_book_118 ⟨Nat.le_of_ble_eq_true rfl, Nat.le_of_ble_eq_true rfl⟩) hw hA (fun v_21  H locs hp_v_21 hw => ?_)
        have r_v_21 : RI v_21 (-2147483648) 2147483647 := hp_v_21.1
        refine tg_iast hx hb hK hw h_vu_18 rfl 3 3 rl_3 (by decide) r_v_21 (by exact fun _ _ _ => by decide) (fun _ _ _ _ _ => trivial) (by decide) dX9_book_121 (fun ws H locs hw hF9 hU9 => ?_)
        have x_JB_vu_4_vu_3 := JB.over hF9 x_JB_vu_4_vu_3 (by decide)
        have x_EQF_p0 := EQF.over hF9 x_EQF_p0 (by decide)
        have x_TLX_p0_0 := TLX.over hF9 x_TLX_p0_0 (by decide)
        have x_BG_vu_3 := B3.over hF9 x_BG_vu_3 (by decide)
        have m_u_3 := FLD.over hF9 m_u_3 (by decide)
        have m_u_4 := FLD.over hF9 m_u_4 (by decide)
        have m_u_5 := FLD.over hF9 m_u_5 (by decide)
        have m_u_9 := FLD.over hF9 m_u_9 (by decide)
        have m_u_10 := FLD.over hF9 m_u_10 (by decide)
        have m_v_17 := FLD.over hF9 m_v_17 (by decide)
        have m_u_18 := FLD.over hF9 m_u_18 (by decide)
        have m_u_19 := FLD.over hF9 m_u_19 (by decide)
        have m_u_20 := FLD.over hF9 m_u_20 (by decide)
        refine lv_iload_n hx hb dX9_book_122 rfl (lv_at hl 2 rfl) ?_
        refine lv_iconst (v := 1) hx hb dX9_book_123 (by decide) ?_
        refine lv_icmp_ne (tgt := 156) hx hb dX9_book_124 (by decide) (fun c_124 => ?_) (fun c_124 => ?_)
        · exact B156 v_12 vu_9 ws _ _ ls (r_p1.to (by decide)) r_v_12 r_vu_9 m_u_9 x_EQF_p0 x_TLX_p0_0 hw (lv_sub hl [1, 2, 0] rfl)
        · have r_p1 : RI p1 1 0 := rc_eq1 r_p1 rl_1 (ti_eq c_124) (by decide)
          exact (r_p1.no (by decide)).elim
    · refine lv_bipush (v := (-2)) hx hb dX9_book_42 (by decide) ?_
      refine lv_aload_n hx hb dX9_book_44 rfl (lv_at hl 0 rfl) ?_
      refine tg_mem (ci := 9) (C := RX9) (T := TX9) (N := 15) hx hb hts inX9 hown hK hw 0 m_u_4 rfl (by decide) (hts _ tw_346) (fun _ h9 => h9) dX9_book_45 ?_
      refine tg_getN (ci := 7) (ts := ty_TAPE) (C := RX7) (T := TX7) (N := 12) hx hb hts inX7 hown hK hw h_vu_4 rfl rfl 11 (by decide) (hSD.nest tn_107) (fun _ h9 => h9) (ft := vI (-2147483648) 2147483647) rfl dX9_book_48 (fun u_22 hv_u_22 m_u_22 => ?_)
      obtain ⟨vu_22, rfl, r_vu_22⟩ := hv_u_22
      refine lv_isub hx hb dX9_book_51 (lv_topi (fun v_23 e_v_23 => ?_))
      have r_v_23 := ri_any v_23
      subst hQ
      exact W.iret (v := v_23) hx hb hr (fun t ht hW => ⟨⟨v_23, ws, rfl, ⟨⟨r_v_23.to (by decide), (fun h0 => trivial), (fun h0 => trivial), ⟨⟨fun _ => x_TLX_p0_0, fun h9 => absurd ⟨by have k1 := r_p1.1; omega, by have k1 := r_p1.2; omega⟩ h9⟩, trivial⟩, (fun _ => trivial), (fun _ => trivial)⟩, hw.1, hw.2.2.2.2.1⟩, by rw [ht]; exact hw.2.1, va_K.moved hW.alike hK, hw.2.2.1⟩, hw.2.2.2.1.F ht⟩) hw.2.2.2.1.2.2 dX9_book_52
  · refine lv_iload_n hx hb dX9_book_4 rfl (lv_at hl 1 rfl) ?_
    refine lv_iconst (v := 1) hx hb dX9_book_5 (by decide) ?_
    refine lv_icmp_eq (tgt := 13) hx hb dX9_book_6 (by decide) (fun c_6 => ?_) (fun c_6 => ?_)
    · have r_p1 : RI p1 1 1 := rc_eq1 r_p1 rl_1 (ti_eq c_6) (by decide)
      refine lv_aload_n hx hb dX9_book_13 rfl (lv_at hl 0 rfl) ?_
      refine tg_get (ci := 9) (ts := ty_WP) (C := RX9) (T := TX9) (N := 15) hx hb hts inX9 hown hK hw h_p0 rfl rfl 6 (by decide) (hts _ tw_352) (fun _ h9 => h9) (ft := vR 31) rfl dX9_book_14 (fun u_24 hv_u_24 m_u_24 => ?_)
      obtain ⟨vu_24, rfl, h_vu_24⟩ := hv_u_24
      refine lv_aload_n hx hb dX9_book_17 rfl (lv_at hl 0 rfl) ?_
      refine tg_get (ci := 9) (ts := ty_WP) (C := RX9) (T := TX9) (N := 15) hx hb hts inX9 hown hK hw h_p0 rfl rfl 0 (by decide) (hts _ tw_346) (fun _ h9 => h9) (ft := vR 26) rfl dX9_book_18 (fun u_25 hv_u_25 m_u_25 => ?_)
      obtain ⟨vu_25, rfl, h_vu_25⟩ := hv_u_25
      refine lv_aload_n hx hb dX9_book_21 rfl (lv_at hl 0 rfl) ?_
      refine tg_get (ci := 9) (ts := ty_WP) (C := RX9) (T := TX9) (N := 15) hx hb hts inX9 hown hK hw h_p0 rfl rfl 1 (by decide) (hts _ tw_347) (fun _ h9 => h9) (ft := vR 24) rfl dX9_book_22 (fun u_26 hv_u_26 m_u_26 => ?_)
      obtain ⟨vu_26, rfl, h_vu_26⟩ := hv_u_26
      refine tg_getN (ci := 8) (ts := ty_WORLD) (C := RX8) (T := TX8) (N := 13) hx hb hts inX8 hown hK hw h_vu_26 rfl rfl 0 (by decide) (hSD.nest tn_249) (fun _ h9 => h9) (ft := vR 25) rfl dX9_book_25 (fun u_27 hv_u_27 m_u_27 => ?_)
      obtain ⟨vu_27, rfl, h_vu_27⟩ := hv_u_27
      refine tk_v (va_runV (As := [.ref vu_25, .ref vu_27]) (rest := []) ⟨hx, hb, hml, hown, hts⟩ (c_X0_read l D cy z s.heap.size Ps w0 hw.1 vu_24 vu_25 vu_27 h_vu_24 h_vu_25 h_vu_27) (cwV 2 hts (gV tw_886 tw_887 tw_888 tw_7 tw_889) rfl rfl rfl (by decide +kernel) ⟨Nat.le_of_ble_eq_true rfl, Nat.le_of_ble_eq_true rfl⟩) (tg_preV hw hK hSD hA (ci := 0) (q := (RX0, TX0, 5)) rfl h_vu_24 rfl) rfl rfl hl.1 rfl (lv_room (Nat.le_of_ble_eq_true rfl)) dX9_book_28 ⟨Nat.le_of_ble_eq_true rfl, Nat.le_of_ble_eq_true rfl⟩) hw hA ⟨by decide, by decide⟩ (fun ws H locs hp_v_28 hw hF9 => ?_)
      have m_u_24 := FLD.over hF9 m_u_24 (by decide)
      have m_u_25 := FLD.over hF9 m_u_25 (by decide)
      have m_u_26 := FLD.over hF9 m_u_26 (by decide)
      have m_u_27 := FLD.over hF9 m_u_27 (by decide)
      have x_TLX_p0_gh := TLX.over hF9 x_TLX_p0_gh (by decide)
      have x_JB_vu_25_vu_24 := (hp_v_28.1)
      refine lv_aload_n hx hb dX9_book_31 rfl (lv_at hl 0 rfl) ?_
      refine tk_v (va_runV (As := []) (rest := []) ⟨hx, hb, hml, hown, hts⟩ (c_X9_noteFault__2 l D cy z H.size Ps ws hw.1 p0 h_p0) (cwV 0 hts (gV tw_517 tw_519 ts_9 tw_1 tw_520) rfl rfl rfl (by decide +kernel) ⟨Nat.le_of_ble_eq_true rfl, Nat.le_of_ble_eq_true rfl⟩) (tg_preV hw hK hSD hA (ci := 9) (q := (RX9, TX9, 15)) rfl h_p0 rfl) rfl rfl hl.1 rfl (lv_room (Nat.le_of_ble_eq_true rfl)) dX9_book_32 ⟨Nat.le_of_ble_eq_true rfl, Nat.le_of_ble_eq_true rfl⟩) hw hA ⟨by decide, by decide⟩ (fun ws H locs hp_v_29 hw hF9 => ?_)
      have m_u_24 := FLD.over hF9 m_u_24 (by decide)
      have m_u_25 := FLD.over hF9 m_u_25 (by decide)
      have m_u_26 := FLD.over hF9 m_u_26 (by decide)
      have m_u_27 := FLD.over hF9 m_u_27 (by decide)
      have x_JB_vu_25_vu_24 := JB.over hF9 x_JB_vu_25_vu_24 (by decide)
      have x_EQF_p0 := (hp_v_29.1)
      have x_TLX_p0_0 := (hp_v_29.2.1)
      refine lv_aload_n hx hb dX9_book_35 rfl (lv_at hl 0 rfl) ?_
      refine tg_get (ci := 9) (ts := ty_WP) (C := RX9) (T := TX9) (N := 15) hx hb hts inX9 hown hK hw h_p0 rfl rfl 11 (by decide) (hts _ tw_357) (fun _ h9 => h9) (ft := vI (-2147483648) 2147483647) rfl dX9_book_36 (fun u_30 hv_u_30 m_u_30 => ?_)
      obtain ⟨vu_30, rfl, r_vu_30⟩ := hv_u_30
      refine lv_if_eq (tgt := 53) hx hb dX9_book_39 (by decide) (fun c_39 => ?_) (fun c_39 => ?_)
      · have r_vu_30 : RI vu_30 0 0 := rc_eq1 r_vu_30 rl_0 (ti_eq c_39) (by decide)
        have x_BG_vu_24 : BG Ps ws vu_24 := JB.bg hw x_JB_vu_25_vu_24 x_EQF_p0 m_u_25 m_u_30 r_vu_30
        refine lv_aload_n hx hb dX9_book_53 rfl (lv_at hl 0 rfl) ?_
        refine tg_get (ci := 9) (ts := ty_WP) (C := RX9) (T := TX9) (N := 15) hx hb hts inX9 hown hK hw h_p0 rfl rfl 2 (by decide) (hts _ tw_348) (fun _ h9 => h9) (ft := vR 24) rfl dX9_book_54 (fun u_31 hv_u_31 m_u_31 => ?_)
        obtain ⟨vu_31, rfl, h_vu_31⟩ := hv_u_31
        refine lv_aload_n hx hb dX9_book_57 rfl (lv_at hl 0 rfl) ?_
        refine tg_mem (ci := 9) (C := RX9) (T := TX9) (N := 15) hx hb hts inX9 hown hK hw 1 m_u_26 rfl (by decide) (hts _ tw_347) (fun _ h9 => h9) dX9_book_58 ?_
        refine tk_v (va_runV (As := [.ref vu_26]) (rest := []) ⟨hx, hb, hml, hown, hts⟩ (c_X8_takeFrom l D cy z H.size Ps ws hw.1 vu_31 vu_26 h_vu_31 h_vu_26) (cwV 1 hts (gV tw_521 tw_522 tw_523 tw_12 tw_524) rfl rfl rfl (by decide +kernel) ⟨Nat.le_of_ble_eq_true rfl, Nat.le_of_ble_eq_true rfl⟩) (tg_preV hw hK hSD hA (ci := 8) (q := (RX8, TX8, 13)) rfl h_vu_31 rfl) rfl rfl hl.1 rfl (lv_room (Nat.le_of_ble_eq_true rfl)) dX9_book_61 ⟨Nat.le_of_ble_eq_true rfl, Nat.le_of_ble_eq_true rfl⟩) hw hA ⟨by decide, by decide⟩ (fun ws H locs hp_v_32 hw hF9 => ?_)
        have m_u_24 := FLD.over hF9 m_u_24 (by decide)
        have m_u_25 := FLD.over hF9 m_u_25 (by decide)
        have m_u_26 := FLD.over hF9 m_u_26 (by decide)
        have m_u_30 := FLD.over hF9 m_u_30 (by decide)
        have m_u_31 := FLD.over hF9 m_u_31 (by decide)
        have x_JB_vu_25_vu_24 := JB.over hF9 x_JB_vu_25_vu_24 (by decide)
        have x_EQF_p0 := EQF.over hF9 x_EQF_p0 (by decide)
        have x_TLX_p0_0 := TLX.over hF9 x_TLX_p0_0 (by decide)
        have x_BG_vu_24 := B3.over hF9 x_BG_vu_24 (by decide)
        refine lv_aload_n hx hb dX9_book_64 rfl (lv_at hl 0 rfl) ?_
        refine tg_mem (ci := 9) (C := RX9) (T := TX9) (N := 15) hx hb hts inX9 hown hK hw 6 m_u_24 rfl (by decide) (hts _ tw_352) (fun _ h9 => h9) dX9_book_65 ?_
        refine lv_aload_n hx hb dX9_book_68 rfl (lv_at hl 0 rfl) ?_
        refine tg_mem (ci := 9) (C := RX9) (T := TX9) (N := 15) hx hb hts inX9 hown hK hw 2 m_u_31 rfl (by decide) (hts _ tw_348) (fun _ h9 => h9) dX9_book_69 ?_
        refine tk_i (va_runV (As := [.ref vu_31]) (rest := []) ⟨hx, hb, hml, hown, hts⟩ (c_X0_liveIn l D cy z H.size Ps ws hw.1 vu_24 vu_31 h_vu_24 h_vu_31 x_BG_vu_24) (cwV 1 hts (gV tw_914 tw_915 tw_916 tw_7 tw_917) rfl rfl rfl (by decide +kernel) ⟨Nat.le_of_ble_eq_true rfl, Nat.le_of_ble_eq_true rfl⟩) (tg_preV hw hK hSD hA (ci := 0) (q := (RX0, TX0, 5)) rfl h_vu_24 rfl) rfl rfl hl.1 rfl (lv_room (Nat.le_of_ble_eq_true rfl)) dX9_book_72 ⟨Nat.le_of_ble_eq_true rfl, Nat.le_of_ble_eq_true rfl⟩) hw hA ⟨by decide, by decide⟩ (fun v_33 ws H locs hp_v_33 hw hF9 => ?_)
        have m_u_24 := FLD.over hF9 m_u_24 (by decide)
        have m_u_25 := FLD.over hF9 m_u_25 (by decide)
        have m_u_26 := FLD.over hF9 m_u_26 (by decide)
        have m_u_30 := FLD.over hF9 m_u_30 (by decide)
        have m_u_31 := FLD.over hF9 m_u_31 (by decide)
        have x_JB_vu_25_vu_24 := JB.over hF9 x_JB_vu_25_vu_24 (by decide)
        have x_EQF_p0 := EQF.over hF9 x_EQF_p0 (by decide)
        have x_TLX_p0_0 := TLX.over hF9 x_TLX_p0_0 (by decide)
        have x_BG_vu_24 := B3.over hF9 x_BG_vu_24 (by decide)
        have r_v_33 : RI v_33 (-2147483648) 2147483647 := hp_v_33.1
        by_cases c9_v_33 : v_33 = 0
        · have r_v_33 : RI v_33 0 0 := by rw [c9_v_33]; exact rl_0
          refine lv_istore_n (lv' := [(2, .int v_33), (0, .ref p0), (1, .int p1)]) hx hb dX9_book_75 rfl hl (by decide) rfl (fun ls hl => ?_)
          refine lv_aload_n hx hb dX9_book_76 rfl (lv_at hl 1 rfl) ?_
          refine tg_get (ci := 9) (ts := ty_WP) (C := RX9) (T := TX9) (N := 15) hx hb hts inX9 hown hK hw h_p0 rfl rfl 7 (by decide) (hts _ tw_353) (fun _ h9 => h9) (ft := vR 15) rfl dX9_book_77 (fun u_34 hv_u_34 m_u_34 => ?_)
          obtain ⟨vu_34, rfl, h_vu_34⟩ := hv_u_34
          refine lv_iconst (v := 0) hx hb dX9_book_80 (by decide) ?_
          refine lv_iload_n hx hb dX9_book_81 rfl (lv_at hl 0 rfl) ?_
          refine tg_iast hx hb hK hw h_vu_34 rfl 0 0 rl_0 (by decide) r_v_33 (by exact fun _ _ _ => by decide) (fun _ _ _ _ _ => trivial) (by decide) dX9_book_82 (fun ws H locs hw hF9 hU9 => ?_)
          have x_JB_vu_25_vu_24 := JB.over hF9 x_JB_vu_25_vu_24 (by decide)
          have x_EQF_p0 := EQF.over hF9 x_EQF_p0 (by decide)
          have x_TLX_p0_0 := TLX.over hF9 x_TLX_p0_0 (by decide)
          have x_BG_vu_24 := B3.over hF9 x_BG_vu_24 (by decide)
          have m_u_24 := FLD.over hF9 m_u_24 (by decide)
          have m_u_25 := FLD.over hF9 m_u_25 (by decide)
          have m_u_26 := FLD.over hF9 m_u_26 (by decide)
          have m_u_30 := FLD.over hF9 m_u_30 (by decide)
          have m_u_31 := FLD.over hF9 m_u_31 (by decide)
          have m_u_34 := FLD.over hF9 m_u_34 (by decide)
          refine lv_aload_n hx hb dX9_book_83 rfl (lv_at hl 1 rfl) ?_
          refine tg_mem (ci := 9) (C := RX9) (T := TX9) (N := 15) hx hb hts inX9 hown hK hw 7 m_u_34 rfl (by decide) (hts _ tw_353) (fun _ h9 => h9) dX9_book_84 ?_
          refine lv_iconst (v := 1) hx hb dX9_book_87 (by decide) ?_
          refine lv_aload_n hx hb dX9_book_88 rfl (lv_at hl 1 rfl) ?_
          refine tg_mem (ci := 9) (C := RX9) (T := TX9) (N := 15) hx hb hts inX9 hown hK hw 6 m_u_24 rfl (by decide) (hts _ tw_352) (fun _ h9 => h9) dX9_book_89 ?_
          refine tg_getN (ci := 0) (ts := ty_BOOK) (C := RX0) (T := TX0) (N := 5) hx hb hts inX0 hown hK hw h_vu_24 rfl rfl 4 (by decide) (hSD.nest tn_147) (fun _ h9 => h9) (ft := vI (-2147483648) 2147483647) rfl dX9_book_92 (fun u_35 hv_u_35 m_u_35 => ?_)
          obtain ⟨vu_35, rfl, r_vu_35⟩ := hv_u_35
          refine tg_iast hx hb hK hw h_vu_34 rfl 1 1 rl_1 (by decide) r_vu_35 (by exact fun _ _ _ => by decide) (fun _ _ _ _ _ => trivial) (by decide) dX9_book_95 (fun ws H locs hw hF9 hU9 => ?_)
          have x_JB_vu_25_vu_24 := JB.over hF9 x_JB_vu_25_vu_24 (by decide)
          have x_EQF_p0 := EQF.over hF9 x_EQF_p0 (by decide)
          have x_TLX_p0_0 := TLX.over hF9 x_TLX_p0_0 (by decide)
          have x_BG_vu_24 := B3.over hF9 x_BG_vu_24 (by decide)
          have m_u_24 := FLD.over hF9 m_u_24 (by decide)
          have m_u_25 := FLD.over hF9 m_u_25 (by decide)
          have m_u_26 := FLD.over hF9 m_u_26 (by decide)
          have m_u_30 := FLD.over hF9 m_u_30 (by decide)
          have m_u_31 := FLD.over hF9 m_u_31 (by decide)
          have m_u_34 := FLD.over hF9 m_u_34 (by decide)
          have m_u_35 := FLD.over hF9 m_u_35 (by decide)
          refine lv_aload_n hx hb dX9_book_96 rfl (lv_at hl 1 rfl) ?_
          refine tg_mem (ci := 9) (C := RX9) (T := TX9) (N := 15) hx hb hts inX9 hown hK hw 7 m_u_34 rfl (by decide) (hts _ tw_353) (fun _ h9 => h9) dX9_book_97 ?_
          refine lv_iconst (v := 2) hx hb dX9_book_100 (by decide) ?_
          refine lv_aload_n hx hb dX9_book_101 rfl (lv_at hl 1 rfl) ?_
          refine tg_mem (ci := 9) (C := RX9) (T := TX9) (N := 15) hx hb hts inX9 hown hK hw 2 m_u_31 rfl (by decide) (hts _ tw_348) (fun _ h9 => h9) dX9_book_102 ?_
          refine tg_getN (ci := 8) (ts := ty_WORLD) (C := RX8) (T := TX8) (N := 13) hx hb hts inX8 hown hK hw h_vu_31 rfl rfl 1 (by decide) (hSD.nest tn_251) (fun _ h9 => h9) (ft := vI (-2147483648) 2147483647) rfl dX9_book_105 (fun u_36 hv_u_36 m_u_36 => ?_)
          obtain ⟨vu_36, rfl, r_vu_36⟩ := hv_u_36
          refine tg_iast hx hb hK hw h_vu_34 rfl 2 2 rl_2 (by decide) r_vu_36 (by exact fun _ _ _ => by decide) (fun _ _ _ _ _ => trivial) (by decide) dX9_book_108 (fun ws H locs hw hF9 hU9 => ?_)
          have x_JB_vu_25_vu_24 := JB.over hF9 x_JB_vu_25_vu_24 (by decide)
          have x_EQF_p0 := EQF.over hF9 x_EQF_p0 (by decide)
          have x_TLX_p0_0 := TLX.over hF9 x_TLX_p0_0 (by decide)
          have x_BG_vu_24 := B3.over hF9 x_BG_vu_24 (by decide)
          have m_u_24 := FLD.over hF9 m_u_24 (by decide)
          have m_u_25 := FLD.over hF9 m_u_25 (by decide)
          have m_u_26 := FLD.over hF9 m_u_26 (by decide)
          have m_u_30 := FLD.over hF9 m_u_30 (by decide)
          have m_u_31 := FLD.over hF9 m_u_31 (by decide)
          have m_u_34 := FLD.over hF9 m_u_34 (by decide)
          have m_u_35 := FLD.over hF9 m_u_35 (by decide)
          have m_u_36 := FLD.over hF9 m_u_36 (by decide)
          refine lv_aload_n hx hb dX9_book_109 rfl (lv_at hl 1 rfl) ?_
          refine tg_mem (ci := 9) (C := RX9) (T := TX9) (N := 15) hx hb hts inX9 hown hK hw 7 m_u_34 rfl (by decide) (hts _ tw_353) (fun _ h9 => h9) dX9_book_110 ?_
          refine lv_iconst (v := 3) hx hb dX9_book_113 (by decide) ?_
          refine lv_aload_n hx hb dX9_book_114 rfl (lv_at hl 1 rfl) ?_
          refine tg_mem (ci := 9) (C := RX9) (T := TX9) (N := 15) hx hb hts inX9 hown hK hw 2 m_u_31 rfl (by decide) (hts _ tw_348) (fun _ h9 => h9) dX9_book_115 ?_
          refine tk_ir (va_runV (As := []) (rest := [.int 3, .ref vu_34]) ⟨hx, hb, hml, hown, hts⟩ (c_X8_whichAreNothing l D cy z H.size Ps ws hw.1 vu_31 h_vu_31) (cwV 0 hts (gV tw_565 tw_566 tw_567 tw_12 tw_568) rfl rfl rfl (by decide +kernel) ⟨Nat.le_of_ble_eq_true rfl, Nat.le_of_ble_eq_true rfl⟩) (tg_preV hw hK hSD hA (ci := 8) (q := (RX8, TX8, 13)) rfl h_vu_31 rfl) rfl rfl hl.1 rfl (lv_room (Nat.le_of_ble_eq_true rfl)) dX9_book_118 ⟨Nat.le_of_ble_eq_true rfl, Nat.le_of_ble_eq_true rfl⟩) hw hA (fun v_37  H locs hp_v_37 hw => ?_)
          have r_v_37 : RI v_37 (-2147483648) 2147483647 := hp_v_37.1
          refine tg_iast hx hb hK hw h_vu_34 rfl 3 3 rl_3 (by decide) r_v_37 (by exact fun _ _ _ => by decide) (fun _ _ _ _ _ => trivial) (by decide) dX9_book_121 (fun ws H locs hw hF9 hU9 => ?_)
          have x_JB_vu_25_vu_24 := JB.over hF9 x_JB_vu_25_vu_24 (by decide)
          have x_EQF_p0 := EQF.over hF9 x_EQF_p0 (by decide)
          have x_TLX_p0_0 := TLX.over hF9 x_TLX_p0_0 (by decide)
          have x_BG_vu_24 := B3.over hF9 x_BG_vu_24 (by decide)
          have m_u_24 := FLD.over hF9 m_u_24 (by decide)
          have m_u_25 := FLD.over hF9 m_u_25 (by decide)
          have m_u_26 := FLD.over hF9 m_u_26 (by decide)
          have m_u_30 := FLD.over hF9 m_u_30 (by decide)
          have m_u_31 := FLD.over hF9 m_u_31 (by decide)
          have m_u_34 := FLD.over hF9 m_u_34 (by decide)
          have m_u_35 := FLD.over hF9 m_u_35 (by decide)
          have m_u_36 := FLD.over hF9 m_u_36 (by decide)
          refine lv_iload_n hx hb dX9_book_122 rfl (lv_at hl 2 rfl) ?_
          refine lv_iconst (v := 1) hx hb dX9_book_123 (by decide) ?_
          refine lv_icmp_ne (tgt := 156) hx hb dX9_book_124 (by decide) (fun c_124 => ?_) (fun c_124 => ?_)
          · exact absurd (r_p1.eq.trans rl_1.eq.symm) ((ti_ne c_124))
          · refine lv_aload_n hx hb dX9_book_127 rfl (lv_at hl 1 rfl) ?_
            refine tg_get (ci := 9) (ts := ty_WP) (C := RX9) (T := TX9) (N := 15) hx hb hts inX9 hown hK hw h_p0 rfl rfl 3 (by decide) (hts _ tw_349) (fun _ h9 => h9) (ft := vR 27) rfl dX9_book_128 (fun u_38 hv_u_38 m_u_38 => ?_)
            obtain ⟨vu_38, rfl, h_vu_38⟩ := hv_u_38
            refine lv_aload_n hx hb dX9_book_131 rfl (lv_at hl 1 rfl) ?_
            refine tg_mem (ci := 9) (C := RX9) (T := TX9) (N := 15) hx hb hts inX9 hown hK hw 1 m_u_26 rfl (by decide) (hts _ tw_347) (fun _ h9 => h9) dX9_book_132 ?_
            refine tk_v (va_runV (As := [.ref vu_26]) (rest := []) ⟨hx, hb, hml, hown, hts⟩ (c_X1_prepare l D cy z H.size Ps ws hw.1 vu_38 vu_26 h_vu_38 h_vu_26) (cwV 1 hts (gV tw_606 tw_607 tw_608 tw_13 tw_609) rfl rfl rfl (by decide +kernel) ⟨Nat.le_of_ble_eq_true rfl, Nat.le_of_ble_eq_true rfl⟩) (tg_preV hw hK hSD hA (ci := 1) (q := (RX1, TX1, 3)) rfl h_vu_38 rfl) rfl rfl hl.1 rfl (lv_room (Nat.le_of_ble_eq_true rfl)) dX9_book_135 ⟨Nat.le_of_ble_eq_true rfl, Nat.le_of_ble_eq_true rfl⟩) hw hA ⟨by decide, by decide⟩ (fun ws H locs hp_v_39 hw hF9 => ?_)
            have m_u_24 := FLD.over hF9 m_u_24 (by decide)
            have m_u_25 := FLD.over hF9 m_u_25 (by decide)
            have m_u_26 := FLD.over hF9 m_u_26 (by decide)
            have m_u_30 := FLD.over hF9 m_u_30 (by decide)
            have m_u_31 := FLD.over hF9 m_u_31 (by decide)
            have m_u_34 := FLD.over hF9 m_u_34 (by decide)
            have m_u_35 := FLD.over hF9 m_u_35 (by decide)
            have m_u_38 := FLD.over hF9 m_u_38 (by decide)
            have x_JB_vu_25_vu_24 := JB.over hF9 x_JB_vu_25_vu_24 (by decide)
            have x_EQF_p0 := EQF.over hF9 x_EQF_p0 (by decide)
            have x_TLX_p0_0 := TLX.over hF9 x_TLX_p0_0 (by decide)
            have x_BG_vu_24 := B3.over hF9 x_BG_vu_24 (by decide)
            refine lv_aload_n hx hb dX9_book_138 rfl (lv_at hl 1 rfl) ?_
            refine tg_mem (ci := 9) (C := RX9) (T := TX9) (N := 15) hx hb hts inX9 hown hK hw 3 m_u_38 rfl (by decide) (hts _ tw_349) (fun _ h9 => h9) dX9_book_139 ?_
            refine tk_v (va_runV (As := []) (rest := []) ⟨hx, hb, hml, hown, hts⟩ (c_X1_keep l D cy z H.size Ps ws hw.1 vu_38 h_vu_38) (cwV 0 hts (gV tw_619 tw_620 tw_621 tw_13 tw_622) rfl rfl rfl (by decide +kernel) ⟨Nat.le_of_ble_eq_true rfl, Nat.le_of_ble_eq_true rfl⟩) (tg_preV hw hK hSD hA (ci := 1) (q := (RX1, TX1, 3)) rfl h_vu_38 rfl) rfl rfl hl.1 rfl (lv_room (Nat.le_of_ble_eq_true rfl)) dX9_book_142 ⟨Nat.le_of_ble_eq_true rfl, Nat.le_of_ble_eq_true rfl⟩) hw hA ⟨by decide, by decide⟩ (fun ws H locs hp_v_40 hw hF9 => ?_)
            have m_u_24 := FLD.over hF9 m_u_24 (by decide)
            have m_u_25 := FLD.over hF9 m_u_25 (by decide)
            have m_u_26 := FLD.over hF9 m_u_26 (by decide)
            have m_u_30 := FLD.over hF9 m_u_30 (by decide)
            have m_u_31 := FLD.over hF9 m_u_31 (by decide)
            have m_u_34 := FLD.over hF9 m_u_34 (by decide)
            have m_u_35 := FLD.over hF9 m_u_35 (by decide)
            have m_u_38 := FLD.over hF9 m_u_38 (by decide)
            have x_JB_vu_25_vu_24 := JB.over hF9 x_JB_vu_25_vu_24 (by decide)
            have x_EQF_p0 := EQF.over hF9 x_EQF_p0 (by decide)
            have x_TLX_p0_0 := TLX.over hF9 x_TLX_p0_0 (by decide)
            have x_BG_vu_24 := B3.over hF9 x_BG_vu_24 (by decide)
            refine lv_aload_n hx hb dX9_book_145 rfl (lv_at hl 1 rfl) ?_
            refine tg_mem (ci := 9) (C := RX9) (T := TX9) (N := 15) hx hb hts inX9 hown hK hw 1 m_u_26 rfl (by decide) (hts _ tw_347) (fun _ h9 => h9) dX9_book_146 ?_
            refine lv_aload_n hx hb dX9_book_149 rfl (lv_at hl 1 rfl) ?_
            refine tg_mem (ci := 9) (C := RX9) (T := TX9) (N := 15) hx hb hts inX9 hown hK hw 2 m_u_31 rfl (by decide) (hts _ tw_348) (fun _ h9 => h9) dX9_book_150 ?_
            refine tk_v (va_runV (As := [.ref vu_31]) (rest := []) ⟨hx, hb, hml, hown, hts⟩ (c_X8_takeFrom l D cy z H.size Ps ws hw.1 vu_26 vu_31 h_vu_26 h_vu_31) (cwV 1 hts (gV tw_521 tw_522 tw_523 tw_12 tw_524) rfl rfl rfl (by decide +kernel) ⟨Nat.le_of_ble_eq_true rfl, Nat.le_of_ble_eq_true rfl⟩) (tg_preV hw hK hSD hA (ci := 8) (q := (RX8, TX8, 13)) rfl h_vu_26 rfl) rfl rfl hl.1 rfl (lv_room (Nat.le_of_ble_eq_true rfl)) dX9_book_153 ⟨Nat.le_of_ble_eq_true rfl, Nat.le_of_ble_eq_true rfl⟩) hw hA ⟨by decide, by decide⟩ (fun ws H locs hp_v_41 hw hF9 => ?_)
            have m_u_24 := FLD.over hF9 m_u_24 (by decide)
            have m_u_25 := FLD.over hF9 m_u_25 (by decide)
            have m_u_26 := FLD.over hF9 m_u_26 (by decide)
            have m_u_30 := FLD.over hF9 m_u_30 (by decide)
            have m_u_31 := FLD.over hF9 m_u_31 (by decide)
            have m_u_34 := FLD.over hF9 m_u_34 (by decide)
            have m_u_35 := FLD.over hF9 m_u_35 (by decide)
            have m_u_38 := FLD.over hF9 m_u_38 (by decide)
            have x_JB_vu_25_vu_24 := JB.over hF9 x_JB_vu_25_vu_24 (by decide)
            have x_EQF_p0 := EQF.over hF9 x_EQF_p0 (by decide)
            have x_TLX_p0_0 := TLX.over hF9 x_TLX_p0_0 (by decide)
            have x_BG_vu_24 := B3.over hF9 x_BG_vu_24 (by decide)
            exact B156 v_33 vu_30 ws _ _ ls (r_p1.to (by decide)) (r_v_33.to (by decide)) r_vu_30 m_u_30 x_EQF_p0 x_TLX_p0_0 hw (lv_sub hl [1, 2, 0] rfl)
        · obtain ⟨v_42, m_v_42, r_v_42⟩ := ((hp_v_33.2.2 c9_v_33).1)
          refine lv_istore_n (lv' := [(2, .int v_33), (0, .ref p0), (1, .int p1)]) hx hb dX9_book_75 rfl hl (by decide) rfl (fun ls hl => ?_)
          refine lv_aload_n hx hb dX9_book_76 rfl (lv_at hl 1 rfl) ?_
          refine tg_get (ci := 9) (ts := ty_WP) (C := RX9) (T := TX9) (N := 15) hx hb hts inX9 hown hK hw h_p0 rfl rfl 7 (by decide) (hts _ tw_353) (fun _ h9 => h9) (ft := vR 15) rfl dX9_book_77 (fun u_43 hv_u_43 m_u_43 => ?_)
          obtain ⟨vu_43, rfl, h_vu_43⟩ := hv_u_43
          refine lv_iconst (v := 0) hx hb dX9_book_80 (by decide) ?_
          refine lv_iload_n hx hb dX9_book_81 rfl (lv_at hl 0 rfl) ?_
          refine tg_iast hx hb hK hw h_vu_43 rfl 0 0 rl_0 (by decide) r_v_33 (by exact fun _ _ _ => by decide) (fun _ _ _ _ _ => trivial) (by decide) dX9_book_82 (fun ws H locs hw hF9 hU9 => ?_)
          have x_JB_vu_25_vu_24 := JB.over hF9 x_JB_vu_25_vu_24 (by decide)
          have x_EQF_p0 := EQF.over hF9 x_EQF_p0 (by decide)
          have x_TLX_p0_0 := TLX.over hF9 x_TLX_p0_0 (by decide)
          have x_BG_vu_24 := B3.over hF9 x_BG_vu_24 (by decide)
          have m_u_24 := FLD.over hF9 m_u_24 (by decide)
          have m_u_25 := FLD.over hF9 m_u_25 (by decide)
          have m_u_26 := FLD.over hF9 m_u_26 (by decide)
          have m_u_30 := FLD.over hF9 m_u_30 (by decide)
          have m_u_31 := FLD.over hF9 m_u_31 (by decide)
          have m_v_42 := FLD.over hF9 m_v_42 (by decide)
          have m_u_43 := FLD.over hF9 m_u_43 (by decide)
          refine lv_aload_n hx hb dX9_book_83 rfl (lv_at hl 1 rfl) ?_
          refine tg_mem (ci := 9) (C := RX9) (T := TX9) (N := 15) hx hb hts inX9 hown hK hw 7 m_u_43 rfl (by decide) (hts _ tw_353) (fun _ h9 => h9) dX9_book_84 ?_
          refine lv_iconst (v := 1) hx hb dX9_book_87 (by decide) ?_
          refine lv_aload_n hx hb dX9_book_88 rfl (lv_at hl 1 rfl) ?_
          refine tg_mem (ci := 9) (C := RX9) (T := TX9) (N := 15) hx hb hts inX9 hown hK hw 6 m_u_24 rfl (by decide) (hts _ tw_352) (fun _ h9 => h9) dX9_book_89 ?_
          refine tg_getN (ci := 0) (ts := ty_BOOK) (C := RX0) (T := TX0) (N := 5) hx hb hts inX0 hown hK hw h_vu_24 rfl rfl 4 (by decide) (hSD.nest tn_147) (fun _ h9 => h9) (ft := vI (-2147483648) 2147483647) rfl dX9_book_92 (fun u_44 hv_u_44 m_u_44 => ?_)
          obtain ⟨vu_44, rfl, r_vu_44⟩ := hv_u_44
          refine tg_iast hx hb hK hw h_vu_43 rfl 1 1 rl_1 (by decide) r_vu_44 (by exact fun _ _ _ => by decide) (fun _ _ _ _ _ => trivial) (by decide) dX9_book_95 (fun ws H locs hw hF9 hU9 => ?_)
          have x_JB_vu_25_vu_24 := JB.over hF9 x_JB_vu_25_vu_24 (by decide)
          have x_EQF_p0 := EQF.over hF9 x_EQF_p0 (by decide)
          have x_TLX_p0_0 := TLX.over hF9 x_TLX_p0_0 (by decide)
          have x_BG_vu_24 := B3.over hF9 x_BG_vu_24 (by decide)
          have m_u_24 := FLD.over hF9 m_u_24 (by decide)
          have m_u_25 := FLD.over hF9 m_u_25 (by decide)
          have m_u_26 := FLD.over hF9 m_u_26 (by decide)
          have m_u_30 := FLD.over hF9 m_u_30 (by decide)
          have m_u_31 := FLD.over hF9 m_u_31 (by decide)
          have m_v_42 := FLD.over hF9 m_v_42 (by decide)
          have m_u_43 := FLD.over hF9 m_u_43 (by decide)
          have m_u_44 := FLD.over hF9 m_u_44 (by decide)
          refine lv_aload_n hx hb dX9_book_96 rfl (lv_at hl 1 rfl) ?_
          refine tg_mem (ci := 9) (C := RX9) (T := TX9) (N := 15) hx hb hts inX9 hown hK hw 7 m_u_43 rfl (by decide) (hts _ tw_353) (fun _ h9 => h9) dX9_book_97 ?_
          refine lv_iconst (v := 2) hx hb dX9_book_100 (by decide) ?_
          refine lv_aload_n hx hb dX9_book_101 rfl (lv_at hl 1 rfl) ?_
          refine tg_mem (ci := 9) (C := RX9) (T := TX9) (N := 15) hx hb hts inX9 hown hK hw 2 m_u_31 rfl (by decide) (hts _ tw_348) (fun _ h9 => h9) dX9_book_102 ?_
          refine tg_getN (ci := 8) (ts := ty_WORLD) (C := RX8) (T := TX8) (N := 13) hx hb hts inX8 hown hK hw h_vu_31 rfl rfl 1 (by decide) (hSD.nest tn_251) (fun _ h9 => h9) (ft := vI (-2147483648) 2147483647) rfl dX9_book_105 (fun u_45 hv_u_45 m_u_45 => ?_)
          obtain ⟨vu_45, rfl, r_vu_45⟩ := hv_u_45
          refine tg_iast hx hb hK hw h_vu_43 rfl 2 2 rl_2 (by decide) r_vu_45 (by exact fun _ _ _ => by decide) (fun _ _ _ _ _ => trivial) (by decide) dX9_book_108 (fun ws H locs hw hF9 hU9 => ?_)
          have x_JB_vu_25_vu_24 := JB.over hF9 x_JB_vu_25_vu_24 (by decide)
          have x_EQF_p0 := EQF.over hF9 x_EQF_p0 (by decide)
          have x_TLX_p0_0 := TLX.over hF9 x_TLX_p0_0 (by decide)
          have x_BG_vu_24 := B3.over hF9 x_BG_vu_24 (by decide)
          have m_u_24 := FLD.over hF9 m_u_24 (by decide)
          have m_u_25 := FLD.over hF9 m_u_25 (by decide)
          have m_u_26 := FLD.over hF9 m_u_26 (by decide)
          have m_u_30 := FLD.over hF9 m_u_30 (by decide)
          have m_u_31 := FLD.over hF9 m_u_31 (by decide)
          have m_v_42 := FLD.over hF9 m_v_42 (by decide)
          have m_u_43 := FLD.over hF9 m_u_43 (by decide)
          have m_u_44 := FLD.over hF9 m_u_44 (by decide)
          have m_u_45 := FLD.over hF9 m_u_45 (by decide)
          refine lv_aload_n hx hb dX9_book_109 rfl (lv_at hl 1 rfl) ?_
          refine tg_mem (ci := 9) (C := RX9) (T := TX9) (N := 15) hx hb hts inX9 hown hK hw 7 m_u_43 rfl (by decide) (hts _ tw_353) (fun _ h9 => h9) dX9_book_110 ?_
          refine lv_iconst (v := 3) hx hb dX9_book_113 (by decide) ?_
          refine lv_aload_n hx hb dX9_book_114 rfl (lv_at hl 1 rfl) ?_
          refine tg_mem (ci := 9) (C := RX9) (T := TX9) (N := 15) hx hb hts inX9 hown hK hw 2 m_u_31 rfl (by decide) (hts _ tw_348) (fun _ h9 => h9) dX9_book_115 ?_
          refine tk_ir (va_runV (As := []) (rest := [.int 3, .ref vu_43]) ⟨hx, hb, hml, hown, hts⟩ (c_X8_whichAreNothing l D cy z H.size Ps ws hw.1 vu_31 h_vu_31) (cwV 0 hts (gV tw_565 tw_566 tw_567 tw_12 tw_568) rfl rfl rfl (by decide +kernel) ⟨Nat.le_of_ble_eq_true rfl, Nat.le_of_ble_eq_true rfl⟩) (tg_preV hw hK hSD hA (ci := 8) (q := (RX8, TX8, 13)) rfl h_vu_31 rfl) rfl rfl hl.1 rfl (lv_room (Nat.le_of_ble_eq_true rfl)) dX9_book_118 ⟨Nat.le_of_ble_eq_true rfl, Nat.le_of_ble_eq_true rfl⟩) hw hA (fun v_46  H locs hp_v_46 hw => ?_)
          have r_v_46 : RI v_46 (-2147483648) 2147483647 := hp_v_46.1
          refine tg_iast hx hb hK hw h_vu_43 rfl 3 3 rl_3 (by decide) r_v_46 (by exact fun _ _ _ => by decide) (fun _ _ _ _ _ => trivial) (by decide) dX9_book_121 (fun ws H locs hw hF9 hU9 => ?_)
          have x_JB_vu_25_vu_24 := JB.over hF9 x_JB_vu_25_vu_24 (by decide)
          have x_EQF_p0 := EQF.over hF9 x_EQF_p0 (by decide)
          have x_TLX_p0_0 := TLX.over hF9 x_TLX_p0_0 (by decide)
          have x_BG_vu_24 := B3.over hF9 x_BG_vu_24 (by decide)
          have m_u_24 := FLD.over hF9 m_u_24 (by decide)
          have m_u_25 := FLD.over hF9 m_u_25 (by decide)
          have m_u_26 := FLD.over hF9 m_u_26 (by decide)
          have m_u_30 := FLD.over hF9 m_u_30 (by decide)
          have m_u_31 := FLD.over hF9 m_u_31 (by decide)
          have m_v_42 := FLD.over hF9 m_v_42 (by decide)
          have m_u_43 := FLD.over hF9 m_u_43 (by decide)
          have m_u_44 := FLD.over hF9 m_u_44 (by decide)
          have m_u_45 := FLD.over hF9 m_u_45 (by decide)
          refine lv_iload_n hx hb dX9_book_122 rfl (lv_at hl 2 rfl) ?_
          refine lv_iconst (v := 1) hx hb dX9_book_123 (by decide) ?_
          refine lv_icmp_ne (tgt := 156) hx hb dX9_book_124 (by decide) (fun c_124 => ?_) (fun c_124 => ?_)
          · exact absurd (r_p1.eq.trans rl_1.eq.symm) ((ti_ne c_124))
          · refine lv_aload_n hx hb dX9_book_127 rfl (lv_at hl 1 rfl) ?_
            refine tg_get (ci := 9) (ts := ty_WP) (C := RX9) (T := TX9) (N := 15) hx hb hts inX9 hown hK hw h_p0 rfl rfl 3 (by decide) (hts _ tw_349) (fun _ h9 => h9) (ft := vR 27) rfl dX9_book_128 (fun u_47 hv_u_47 m_u_47 => ?_)
            obtain ⟨vu_47, rfl, h_vu_47⟩ := hv_u_47
            refine lv_aload_n hx hb dX9_book_131 rfl (lv_at hl 1 rfl) ?_
            refine tg_mem (ci := 9) (C := RX9) (T := TX9) (N := 15) hx hb hts inX9 hown hK hw 1 m_u_26 rfl (by decide) (hts _ tw_347) (fun _ h9 => h9) dX9_book_132 ?_
            refine tk_v (va_runV (As := [.ref vu_26]) (rest := []) ⟨hx, hb, hml, hown, hts⟩ (c_X1_prepare l D cy z H.size Ps ws hw.1 vu_47 vu_26 h_vu_47 h_vu_26) (cwV 1 hts (gV tw_606 tw_607 tw_608 tw_13 tw_609) rfl rfl rfl (by decide +kernel) ⟨Nat.le_of_ble_eq_true rfl, Nat.le_of_ble_eq_true rfl⟩) (tg_preV hw hK hSD hA (ci := 1) (q := (RX1, TX1, 3)) rfl h_vu_47 rfl) rfl rfl hl.1 rfl (lv_room (Nat.le_of_ble_eq_true rfl)) dX9_book_135 ⟨Nat.le_of_ble_eq_true rfl, Nat.le_of_ble_eq_true rfl⟩) hw hA ⟨by decide, by decide⟩ (fun ws H locs hp_v_48 hw hF9 => ?_)
            have m_u_24 := FLD.over hF9 m_u_24 (by decide)
            have m_u_25 := FLD.over hF9 m_u_25 (by decide)
            have m_u_26 := FLD.over hF9 m_u_26 (by decide)
            have m_u_30 := FLD.over hF9 m_u_30 (by decide)
            have m_u_31 := FLD.over hF9 m_u_31 (by decide)
            have m_v_42 := FLD.over hF9 m_v_42 (by decide)
            have m_u_43 := FLD.over hF9 m_u_43 (by decide)
            have m_u_44 := FLD.over hF9 m_u_44 (by decide)
            have m_u_47 := FLD.over hF9 m_u_47 (by decide)
            have x_JB_vu_25_vu_24 := JB.over hF9 x_JB_vu_25_vu_24 (by decide)
            have x_EQF_p0 := EQF.over hF9 x_EQF_p0 (by decide)
            have x_TLX_p0_0 := TLX.over hF9 x_TLX_p0_0 (by decide)
            have x_BG_vu_24 := B3.over hF9 x_BG_vu_24 (by decide)
            refine lv_aload_n hx hb dX9_book_138 rfl (lv_at hl 1 rfl) ?_
            refine tg_mem (ci := 9) (C := RX9) (T := TX9) (N := 15) hx hb hts inX9 hown hK hw 3 m_u_47 rfl (by decide) (hts _ tw_349) (fun _ h9 => h9) dX9_book_139 ?_
            refine tk_v (va_runV (As := []) (rest := []) ⟨hx, hb, hml, hown, hts⟩ (c_X1_keep l D cy z H.size Ps ws hw.1 vu_47 h_vu_47) (cwV 0 hts (gV tw_619 tw_620 tw_621 tw_13 tw_622) rfl rfl rfl (by decide +kernel) ⟨Nat.le_of_ble_eq_true rfl, Nat.le_of_ble_eq_true rfl⟩) (tg_preV hw hK hSD hA (ci := 1) (q := (RX1, TX1, 3)) rfl h_vu_47 rfl) rfl rfl hl.1 rfl (lv_room (Nat.le_of_ble_eq_true rfl)) dX9_book_142 ⟨Nat.le_of_ble_eq_true rfl, Nat.le_of_ble_eq_true rfl⟩) hw hA ⟨by decide, by decide⟩ (fun ws H locs hp_v_49 hw hF9 => ?_)
            have m_u_24 := FLD.over hF9 m_u_24 (by decide)
            have m_u_25 := FLD.over hF9 m_u_25 (by decide)
            have m_u_26 := FLD.over hF9 m_u_26 (by decide)
            have m_u_30 := FLD.over hF9 m_u_30 (by decide)
            have m_u_31 := FLD.over hF9 m_u_31 (by decide)
            have m_v_42 := FLD.over hF9 m_v_42 (by decide)
            have m_u_43 := FLD.over hF9 m_u_43 (by decide)
            have m_u_44 := FLD.over hF9 m_u_44 (by decide)
            have m_u_47 := FLD.over hF9 m_u_47 (by decide)
            have x_JB_vu_25_vu_24 := JB.over hF9 x_JB_vu_25_vu_24 (by decide)
            have x_EQF_p0 := EQF.over hF9 x_EQF_p0 (by decide)
            have x_TLX_p0_0 := TLX.over hF9 x_TLX_p0_0 (by decide)
            have x_BG_vu_24 := B3.over hF9 x_BG_vu_24 (by decide)
            refine lv_aload_n hx hb dX9_book_145 rfl (lv_at hl 1 rfl) ?_
            refine tg_mem (ci := 9) (C := RX9) (T := TX9) (N := 15) hx hb hts inX9 hown hK hw 1 m_u_26 rfl (by decide) (hts _ tw_347) (fun _ h9 => h9) dX9_book_146 ?_
            refine lv_aload_n hx hb dX9_book_149 rfl (lv_at hl 1 rfl) ?_
            refine tg_mem (ci := 9) (C := RX9) (T := TX9) (N := 15) hx hb hts inX9 hown hK hw 2 m_u_31 rfl (by decide) (hts _ tw_348) (fun _ h9 => h9) dX9_book_150 ?_
            refine tk_v (va_runV (As := [.ref vu_31]) (rest := []) ⟨hx, hb, hml, hown, hts⟩ (c_X8_takeFrom l D cy z H.size Ps ws hw.1 vu_26 vu_31 h_vu_26 h_vu_31) (cwV 1 hts (gV tw_521 tw_522 tw_523 tw_12 tw_524) rfl rfl rfl (by decide +kernel) ⟨Nat.le_of_ble_eq_true rfl, Nat.le_of_ble_eq_true rfl⟩) (tg_preV hw hK hSD hA (ci := 8) (q := (RX8, TX8, 13)) rfl h_vu_26 rfl) rfl rfl hl.1 rfl (lv_room (Nat.le_of_ble_eq_true rfl)) dX9_book_153 ⟨Nat.le_of_ble_eq_true rfl, Nat.le_of_ble_eq_true rfl⟩) hw hA ⟨by decide, by decide⟩ (fun ws H locs hp_v_50 hw hF9 => ?_)
            have m_u_24 := FLD.over hF9 m_u_24 (by decide)
            have m_u_25 := FLD.over hF9 m_u_25 (by decide)
            have m_u_26 := FLD.over hF9 m_u_26 (by decide)
            have m_u_30 := FLD.over hF9 m_u_30 (by decide)
            have m_u_31 := FLD.over hF9 m_u_31 (by decide)
            have m_v_42 := FLD.over hF9 m_v_42 (by decide)
            have m_u_43 := FLD.over hF9 m_u_43 (by decide)
            have m_u_44 := FLD.over hF9 m_u_44 (by decide)
            have m_u_47 := FLD.over hF9 m_u_47 (by decide)
            have x_JB_vu_25_vu_24 := JB.over hF9 x_JB_vu_25_vu_24 (by decide)
            have x_EQF_p0 := EQF.over hF9 x_EQF_p0 (by decide)
            have x_TLX_p0_0 := TLX.over hF9 x_TLX_p0_0 (by decide)
            have x_BG_vu_24 := B3.over hF9 x_BG_vu_24 (by decide)
            exact B156 v_33 vu_30 ws _ _ ls (r_p1.to (by decide)) r_v_33 r_vu_30 m_u_30 x_EQF_p0 x_TLX_p0_0 hw (lv_sub hl [1, 2, 0] rfl)
      · refine lv_bipush (v := (-2)) hx hb dX9_book_42 (by decide) ?_
        refine lv_aload_n hx hb dX9_book_44 rfl (lv_at hl 0 rfl) ?_
        refine tg_mem (ci := 9) (C := RX9) (T := TX9) (N := 15) hx hb hts inX9 hown hK hw 0 m_u_25 rfl (by decide) (hts _ tw_346) (fun _ h9 => h9) dX9_book_45 ?_
        refine tg_getN (ci := 7) (ts := ty_TAPE) (C := RX7) (T := TX7) (N := 12) hx hb hts inX7 hown hK hw h_vu_25 rfl rfl 11 (by decide) (hSD.nest tn_107) (fun _ h9 => h9) (ft := vI (-2147483648) 2147483647) rfl dX9_book_48 (fun u_51 hv_u_51 m_u_51 => ?_)
        obtain ⟨vu_51, rfl, r_vu_51⟩ := hv_u_51
        refine lv_isub hx hb dX9_book_51 (lv_topi (fun v_52 e_v_52 => ?_))
        have r_v_52 := ri_any v_52
        subst hQ
        exact W.iret (v := v_52) hx hb hr (fun t ht hW => ⟨⟨v_52, ws, rfl, ⟨⟨r_v_52.to (by decide), (fun h0 => trivial), (fun h0 => trivial), ⟨⟨fun _ => x_TLX_p0_0, fun h9 => absurd ⟨by have k1 := r_p1.1; omega, by have k1 := r_p1.2; omega⟩ h9⟩, trivial⟩, (fun _ => trivial), (fun _ => trivial)⟩, hw.1, hw.2.2.2.2.1⟩, by rw [ht]; exact hw.2.1, va_K.moved hW.alike hK, hw.2.2.1⟩, hw.2.2.2.1.F ht⟩) hw.2.2.2.1.2.2 dX9_book_52
    · have x_IMG0_p1 : ¬ (0 ≤ Int32.toInt p1 ∧ Int32.toInt p1 ≤ 1) := (fun h9 => by have k1 := ti_ne c_1; have k2 := ti_ne c_6; have k3 : Int32.toInt 0 = 0 := (by decide); have k4 : Int32.toInt 1 = 1 := (by decide); omega)
      refine lv_sipush (v := (-1000)) hx hb dX9_book_9 (by decide) ?_
      subst hQ
      exact W.iret (v := (-1000)) hx hb hr (fun t ht hW => ⟨⟨(-1000), w0, rfl, ⟨⟨rl_m1000.to (by decide), (fun _ => trivial), (fun h0 => trivial), ⟨⟨fun h9 => absurd h9 x_IMG0_p1, fun _ => x_TLX_p0_gh⟩, trivial⟩, (fun _ => trivial), (fun _ => trivial)⟩, hw.1, hw.2.2.2.2.1⟩, by rw [ht]; exact hw.2.1, va_K.moved hW.alike hK, hw.2.2.1⟩, hw.2.2.2.1.F ht⟩) hw.2.2.2.1.2.2 dX9_book_12
abbrev wr_X10_begin__8 : List (Nat × Nat) := [(10, 0), (10, 2), (10, 3), (10, 4), (10, 5), (10, 6), (10, 7), (10, 8), (10, 9), (10, 10), (10, 12)]
abbrev wa_X10_begin__8 : List Nat := []
set_option maxHeartbeats 4000000 in
set_option maxRecDepth 100000 in
theorem c_X10_begin__8 (l : Launch) (D : va_G) (cy : Nat → ClassId) (z : Nat → Nat) (sz : Nat) (Ps : PSI) (w0 : va_W) (hT : HT cy GG Ps w0) (p0 : Nat) (p1 : Int32) (h_p0 : (p0, 55) ∈ Ps) (r_p1 : RI p1 400 400) : Met l yX10_begin (Cond.code yX10_begin cX10_begin 2 none :: gT) ({ frames := 3, cells := 0, slots := 0, locals := 600 } : Room) (va_Pc [.ref p0, .int p1] (PRE D cy z w0 sz)) (va_Qv (fun (u : va_W) => ((∃ v9 : Int32, FLD u p0 10 2 (.int v9) ∧ RI v9 0 0) ∧ TLM u p0 (0) ∧ True) ∧ HT cy GG Ps u ∧ FR wr_X10_begin__8 wa_X10_begin__8 Ps w0 u) (BB D cy (va_A w0 sz) (fun (u : va_W) => u)) (va_A w0 sz)) 0 0 (va_A w0 sz) := by
  refine Met.ofW (cc := cX10_begin) (maxL := 2) (ret := none) (by decide) rfl ?_
  intro p e s m args below meth c s₁ B hml hv
  obtain ⟨rfl, hsz, hP, hK, hD0, hSD⟩ := hv
  have hx := B.exec
  have hb := B.bytes
  have hr := B.returns
  have hlocks := B.notSynchronized
  have hts : ∀ w ∈ gT, w.before _ s = true := fun w h => atoms_spec (ws := Cond.code yX10_begin cX10_begin 2 none :: gT) B.pre w (List.mem_cons_of_mem _ h)
  have hown : s.vm.findClass RX10 = some m.cls := findClass_of_methodNamed B.named
  subst hsz
  have hD := hD0.self (sz := s.heap.size)
  generalize hAe : va_A w0 s.heap.size = A at hD hSD ⊢
  have hA : ∀ q : Nat, s.heap.size ≤ q → A q := fun q h => by rw [← hAe]; exact Or.inr h
  have hl := lv_entry ([.ref p0, .int p1]) (n := 2) (Nat.le_of_ble_eq_true rfl)
  rw [lg_entry_eq]
  generalize (lg_sl ([.ref p0, .int p1]) ++ List.replicate (2 - (lg_sl ([.ref p0, .int p1])).length) Slot.unset).toArray = ls at hl ⊢
  have hl : lv_has ls 2 [(0, .ref p0), (1, .int p1)] := hl
  refine nameQ (fun Q hQ => ?_)
  have hw : WD D cy GG A s wr_X10_begin__8 wa_X10_begin__8 Ps w0 Ps w0 s.heap [] := ⟨hT, hP, hD, va_S.rf, FR.rf, hT.1, [], (List.append_nil _).symm⟩
  refine lv_aload_n hx hb dX10_begin_0 rfl (lv_at hl 0 rfl) ?_
  refine lv_iconst (v := 0) hx hb dX10_begin_1 (by decide) ?_
  refine tg_put (ci := 10) (ts := ty_MODEL) (v := .int 0) (ty := .int) (C := RX10) (T := TX10) (N := 49) hx hb hts inX10 tyX10 tyX10_ok nmX10 hown hK hw h_p0 rfl rfl 0 (by decide) (hts _ tw_1137) (fun _ h9 => h9) rfl (by decide +kernel) rfl rfl (ft := vI (-2147483648) 2147483647) rfl ⟨_, rfl, (rl_0.to (by decide))⟩ (by decide) dX10_begin_2 (fun ws H locs hw n_k_1 hF9 => ?_)
  refine lv_aload_n hx hb dX10_begin_5 rfl (lv_at hl 0 rfl) ?_
  refine lv_aload_n hx hb dX10_begin_6 rfl (lv_at hl 0 rfl) ?_
  refine tk_i (va_runV (As := []) (rest := [.ref p0]) ⟨hx, hb, hml, hown, hts⟩ (c_X10_take__3 l D cy z H.size Ps ws hw.1 p0 h_p0) (cwV 0 hts (gV tw_1294 tw_1296 ts_39 tw_15 tw_1297) rfl rfl rfl (by decide +kernel) ⟨Nat.le_of_ble_eq_true rfl, Nat.le_of_ble_eq_true rfl⟩) (tg_preV hw hK hSD hA (ci := 10) (q := (RX10, TX10, 49)) rfl h_p0 rfl) rfl rfl hl.1 rfl (lv_room (Nat.le_of_ble_eq_true rfl)) dX10_begin_7 ⟨Nat.le_of_ble_eq_true rfl, Nat.le_of_ble_eq_true rfl⟩) hw hA ⟨by decide, by decide⟩ (fun v_2 ws H locs hp_v_2 hw hF9 => ?_)
  have n_k_1 := FLD.over hF9 n_k_1 (by decide)
  have r_v_2 : RI v_2 0 940 := hp_v_2.1
  by_cases c9_v_2 : v_2 = 0
  · have r_v_2 : RI v_2 0 0 := by rw [c9_v_2]; exact rl_0
    obtain ⟨v_3, m_v_3, r_v_3⟩ := ((hp_v_2.2.1 c9_v_2).1)
    have x_TLM_p0_0 := ((hp_v_2.2.1 c9_v_2).2.1)
    refine tg_put (ci := 10) (ts := ty_MODEL) (v := .int v_2) (ty := .int) (C := RX10) (T := TX10) (N := 49) hx hb hts inX10 tyX10 tyX10_ok nmX10 hown hK hw h_p0 rfl rfl 3 (by decide) (hts _ tw_1140) (fun _ h9 => h9) rfl (by decide +kernel) rfl rfl (ft := vI 0 940) rfl ⟨_, rfl, (r_v_2.to (by decide))⟩ (by decide) dX10_begin_10 (fun ws H locs hw n_k_4 hF9 => ?_)
    have n_k_1 := FLD.over hF9 n_k_1 (by decide)
    have m_v_3 := FLD.over hF9 m_v_3 (by decide)
    have x_TLM_p0_0 := TLM.over hF9 x_TLM_p0_0 (by decide)
    refine lv_aload_n hx hb dX10_begin_13 rfl (lv_at hl 0 rfl) ?_
    refine lv_iload_n hx hb dX10_begin_14 rfl (lv_at hl 1 rfl) ?_
    refine tg_put (ci := 10) (ts := ty_MODEL) (v := .int p1) (ty := .int) (C := RX10) (T := TX10) (N := 49) hx hb hts inX10 tyX10 tyX10_ok nmX10 hown hK hw h_p0 rfl rfl 4 (by decide) (hts _ tw_1141) (fun _ h9 => h9) rfl (by decide +kernel) rfl rfl (ft := vI (-2147483648) 2147483647) rfl ⟨_, rfl, (r_p1.to (by decide))⟩ (by decide) dX10_begin_15 (fun ws H locs hw n_k_5 hF9 => ?_)
    have n_k_1 := FLD.over hF9 n_k_1 (by decide)
    have m_v_3 := FLD.over hF9 m_v_3 (by decide)
    have n_k_4 := FLD.over hF9 n_k_4 (by decide)
    have x_TLM_p0_0 := TLM.over hF9 x_TLM_p0_0 (by decide)
    refine lv_aload_n hx hb dX10_begin_18 rfl (lv_at hl 0 rfl) ?_
    refine lv_iconst (v := 0) hx hb dX10_begin_19 (by decide) ?_
    refine tg_put (ci := 10) (ts := ty_MODEL) (v := .int 0) (ty := .int) (C := RX10) (T := TX10) (N := 49) hx hb hts inX10 tyX10 tyX10_ok nmX10 hown hK hw h_p0 rfl rfl 10 (by decide) (hts _ tw_1147) (fun _ h9 => h9) rfl (by decide +kernel) rfl rfl (ft := vI (-2147483648) 2147483647) rfl ⟨_, rfl, (rl_0.to (by decide))⟩ (by decide) dX10_begin_20 (fun ws H locs hw n_k_6 hF9 => ?_)
    have n_k_1 := FLD.over hF9 n_k_1 (by decide)
    have m_v_3 := FLD.over hF9 m_v_3 (by decide)
    have n_k_4 := FLD.over hF9 n_k_4 (by decide)
    have n_k_5 := FLD.over hF9 n_k_5 (by decide)
    have x_TLM_p0_0 := TLM.over hF9 x_TLM_p0_0 (by decide)
    refine lv_aload_n hx hb dX10_begin_23 rfl (lv_at hl 0 rfl) ?_
    refine lv_iconst (v := 0) hx hb dX10_begin_24 (by decide) ?_
    refine tg_put (ci := 10) (ts := ty_MODEL) (v := .int 0) (ty := .int) (C := RX10) (T := TX10) (N := 49) hx hb hts inX10 tyX10 tyX10_ok nmX10 hown hK hw h_p0 rfl rfl 5 (by decide) (hts _ tw_1142) (fun _ h9 => h9) rfl (by decide +kernel) rfl rfl (ft := vI 0 940) rfl ⟨_, rfl, (rl_0.to (by decide))⟩ (by decide) dX10_begin_25 (fun ws H locs hw n_k_7 hF9 => ?_)
    have n_k_1 := FLD.over hF9 n_k_1 (by decide)
    have m_v_3 := FLD.over hF9 m_v_3 (by decide)
    have n_k_4 := FLD.over hF9 n_k_4 (by decide)
    have n_k_5 := FLD.over hF9 n_k_5 (by decide)
    have n_k_6 := FLD.over hF9 n_k_6 (by decide)
    have x_TLM_p0_0 := TLM.over hF9 x_TLM_p0_0 (by decide)
    refine lv_aload_n hx hb dX10_begin_28 rfl (lv_at hl 0 rfl) ?_
    refine tk_v (va_runV (As := []) (rest := []) ⟨hx, hb, hml, hown, hts⟩ (c_X10_go l D cy z H.size Ps ws hw.1 p0 h_p0) (cwV 0 hts (gV tw_1298 tw_1300 ts_40 tw_15 tw_1301) rfl rfl rfl (by decide +kernel) ⟨Nat.le_of_ble_eq_true rfl, Nat.le_of_ble_eq_true rfl⟩) (tg_preV hw hK hSD hA (ci := 10) (q := (RX10, TX10, 49)) rfl h_p0 rfl) rfl rfl hl.1 rfl (lv_room (Nat.le_of_ble_eq_true rfl)) dX10_begin_29 ⟨Nat.le_of_ble_eq_true rfl, Nat.le_of_ble_eq_true rfl⟩) hw hA ⟨by decide, by decide⟩ (fun ws H locs hp_v_8 hw hF9 => ?_)
    have n_k_1 := FLD.over hF9 n_k_1 (by decide)
    have m_v_3 := FLD.over hF9 m_v_3 (by decide)
    have n_k_4 := FLD.over hF9 n_k_4 (by decide)
    have n_k_5 := FLD.over hF9 n_k_5 (by decide)
    have n_k_6 := FLD.over hF9 n_k_6 (by decide)
    have x_TLM_p0_0 := TLM.over hF9 x_TLM_p0_0 (by decide)
    subst hQ
    exact W.vret hx hb hr (fun t ht hW => ⟨⟨ws, rfl, ⟨⟨⟨_, m_v_3, r_v_3⟩, x_TLM_p0_0, trivial⟩, hw.1, hw.2.2.2.2.1⟩, by rw [ht]; exact hw.2.1, va_K.moved hW.alike hK, hw.2.2.1⟩, hw.2.2.2.1.F ht⟩) hw.2.2.2.1.2.2 dX10_begin_32
  · have r_v_2 : RI v_2 1 940 := rc_neL r_v_2 rl_0 (ti_ne c9_v_2) (by decide)
    obtain ⟨v_9, m_v_9, r_v_9⟩ := ((hp_v_2.2.2 c9_v_2).1)
    have x_TLM_p0_0 := ((hp_v_2.2.2 c9_v_2).2.1)
    refine tg_put (ci := 10) (ts := ty_MODEL) (v := .int v_2) (ty := .int) (C := RX10) (T := TX10) (N := 49) hx hb hts inX10 tyX10 tyX10_ok nmX10 hown hK hw h_p0 rfl rfl 3 (by decide) (hts _ tw_1140) (fun _ h9 => h9) rfl (by decide +kernel) rfl rfl (ft := vI 0 940) rfl ⟨_, rfl, (r_v_2.to (by decide))⟩ (by decide) dX10_begin_10 (fun ws H locs hw n_k_10 hF9 => ?_)
    have n_k_1 := FLD.over hF9 n_k_1 (by decide)
    have m_v_9 := FLD.over hF9 m_v_9 (by decide)
    have x_TLM_p0_0 := TLM.over hF9 x_TLM_p0_0 (by decide)
    refine lv_aload_n hx hb dX10_begin_13 rfl (lv_at hl 0 rfl) ?_
    refine lv_iload_n hx hb dX10_begin_14 rfl (lv_at hl 1 rfl) ?_
    refine tg_put (ci := 10) (ts := ty_MODEL) (v := .int p1) (ty := .int) (C := RX10) (T := TX10) (N := 49) hx hb hts inX10 tyX10 tyX10_ok nmX10 hown hK hw h_p0 rfl rfl 4 (by decide) (hts _ tw_1141) (fun _ h9 => h9) rfl (by decide +kernel) rfl rfl (ft := vI (-2147483648) 2147483647) rfl ⟨_, rfl, (r_p1.to (by decide))⟩ (by decide) dX10_begin_15 (fun ws H locs hw n_k_11 hF9 => ?_)
    have n_k_1 := FLD.over hF9 n_k_1 (by decide)
    have m_v_9 := FLD.over hF9 m_v_9 (by decide)
    have n_k_10 := FLD.over hF9 n_k_10 (by decide)
    have x_TLM_p0_0 := TLM.over hF9 x_TLM_p0_0 (by decide)
    refine lv_aload_n hx hb dX10_begin_18 rfl (lv_at hl 0 rfl) ?_
    refine lv_iconst (v := 0) hx hb dX10_begin_19 (by decide) ?_
    refine tg_put (ci := 10) (ts := ty_MODEL) (v := .int 0) (ty := .int) (C := RX10) (T := TX10) (N := 49) hx hb hts inX10 tyX10 tyX10_ok nmX10 hown hK hw h_p0 rfl rfl 10 (by decide) (hts _ tw_1147) (fun _ h9 => h9) rfl (by decide +kernel) rfl rfl (ft := vI (-2147483648) 2147483647) rfl ⟨_, rfl, (rl_0.to (by decide))⟩ (by decide) dX10_begin_20 (fun ws H locs hw n_k_12 hF9 => ?_)
    have n_k_1 := FLD.over hF9 n_k_1 (by decide)
    have m_v_9 := FLD.over hF9 m_v_9 (by decide)
    have n_k_10 := FLD.over hF9 n_k_10 (by decide)
    have n_k_11 := FLD.over hF9 n_k_11 (by decide)
    have x_TLM_p0_0 := TLM.over hF9 x_TLM_p0_0 (by decide)
    refine lv_aload_n hx hb dX10_begin_23 rfl (lv_at hl 0 rfl) ?_
    refine lv_iconst (v := 0) hx hb dX10_begin_24 (by decide) ?_
    refine tg_put (ci := 10) (ts := ty_MODEL) (v := .int 0) (ty := .int) (C := RX10) (T := TX10) (N := 49) hx hb hts inX10 tyX10 tyX10_ok nmX10 hown hK hw h_p0 rfl rfl 5 (by decide) (hts _ tw_1142) (fun _ h9 => h9) rfl (by decide +kernel) rfl rfl (ft := vI 0 940) rfl ⟨_, rfl, (rl_0.to (by decide))⟩ (by decide) dX10_begin_25 (fun ws H locs hw n_k_13 hF9 => ?_)
    have n_k_1 := FLD.over hF9 n_k_1 (by decide)
    have m_v_9 := FLD.over hF9 m_v_9 (by decide)
    have n_k_10 := FLD.over hF9 n_k_10 (by decide)
    have n_k_11 := FLD.over hF9 n_k_11 (by decide)
    have n_k_12 := FLD.over hF9 n_k_12 (by decide)
    have x_TLM_p0_0 := TLM.over hF9 x_TLM_p0_0 (by decide)
    refine lv_aload_n hx hb dX10_begin_28 rfl (lv_at hl 0 rfl) ?_
    refine tk_v (va_runV (As := []) (rest := []) ⟨hx, hb, hml, hown, hts⟩ (c_X10_go l D cy z H.size Ps ws hw.1 p0 h_p0) (cwV 0 hts (gV tw_1298 tw_1300 ts_40 tw_15 tw_1301) rfl rfl rfl (by decide +kernel) ⟨Nat.le_of_ble_eq_true rfl, Nat.le_of_ble_eq_true rfl⟩) (tg_preV hw hK hSD hA (ci := 10) (q := (RX10, TX10, 49)) rfl h_p0 rfl) rfl rfl hl.1 rfl (lv_room (Nat.le_of_ble_eq_true rfl)) dX10_begin_29 ⟨Nat.le_of_ble_eq_true rfl, Nat.le_of_ble_eq_true rfl⟩) hw hA ⟨by decide, by decide⟩ (fun ws H locs hp_v_14 hw hF9 => ?_)
    have n_k_1 := FLD.over hF9 n_k_1 (by decide)
    have m_v_9 := FLD.over hF9 m_v_9 (by decide)
    have n_k_10 := FLD.over hF9 n_k_10 (by decide)
    have n_k_11 := FLD.over hF9 n_k_11 (by decide)
    have n_k_12 := FLD.over hF9 n_k_12 (by decide)
    have x_TLM_p0_0 := TLM.over hF9 x_TLM_p0_0 (by decide)
    subst hQ
    exact W.vret hx hb hr (fun t ht hW => ⟨⟨ws, rfl, ⟨⟨⟨_, m_v_9, r_v_9⟩, x_TLM_p0_0, trivial⟩, hw.1, hw.2.2.2.2.1⟩, by rw [ht]; exact hw.2.1, va_K.moved hW.alike hK, hw.2.2.1⟩, hw.2.2.2.1.F ht⟩) hw.2.2.2.1.2.2 dX10_begin_32
abbrev wr_X10_book__1 : List (Nat × Nat) := [(10, 0), (10, 2), (10, 3), (10, 4), (10, 5), (10, 6), (10, 7), (10, 8), (10, 9), (10, 10), (10, 11), (10, 12), (10, 13), (10, 25), (10, 42), (10, 43)]
abbrev wa_X10_book__1 : List Nat := [34, 37, 38, 46, 52, 53]
set_option maxHeartbeats 4000000 in
set_option maxRecDepth 100000 in
theorem c_X10_book__1 (l : Launch) (D : va_G) (cy : Nat → ClassId) (z : Nat → Nat) (sz : Nat) (Ps : PSI) (w0 : va_W) (hT : HT cy GG Ps w0) (p0 : Nat) (p1 : Int32) (gh : Int) (h_p0 : (p0, 55) ∈ Ps) (r_p1 : RI p1 (-2147483648) 2147483647) (x_TLM_p0_gh : TLM w0 p0 (gh)) : Met l yX10_book (Cond.code yX10_book cX10_book 4 (some .int) :: gT) ({ frames := 8, cells := 0, slots := 0, locals := 1600 } : Room) (va_Pc [.ref p0, .int p1] (PRE D cy z w0 sz)) (va_Qi (fun (r : Int32) (u : va_W) => (RI r (-2147483648) 2147483647 ∧ (r = 0 → True) ∧ (¬ r = 0 → True) ∧ (BKM u p0 p1 (gh) ∧ True) ∧ (r.toInt < 0 → True) ∧ (0 ≤ r.toInt → True)) ∧ HT cy GG Ps u ∧ FR wr_X10_book__1 wa_X10_book__1 Ps w0 u) (BB D cy (va_A w0 sz) (fun (u : va_W) => u)) (va_A w0 sz)) 0 0 (va_A w0 sz) := by
  refine Met.ofW (cc := cX10_book) (maxL := 4) (ret := (some .int)) (by decide) rfl ?_
  intro p e s m args below meth c s₁ B hml hv
  obtain ⟨rfl, hsz, hP, hK, hD0, hSD⟩ := hv
  have hx := B.exec
  have hb := B.bytes
  have hr := B.returns
  have hlocks := B.notSynchronized
  have hts : ∀ w ∈ gT, w.before _ s = true := fun w h => atoms_spec (ws := Cond.code yX10_book cX10_book 4 (some .int) :: gT) B.pre w (List.mem_cons_of_mem _ h)
  have hown : s.vm.findClass RX10 = some m.cls := findClass_of_methodNamed B.named
  subst hsz
  have hD := hD0.self (sz := s.heap.size)
  generalize hAe : va_A w0 s.heap.size = A at hD hSD ⊢
  have hA : ∀ q : Nat, s.heap.size ≤ q → A q := fun q h => by rw [← hAe]; exact Or.inr h
  have hl := lv_entry ([.ref p0, .int p1]) (n := 4) (Nat.le_of_ble_eq_true rfl)
  rw [lg_entry_eq]
  generalize (lg_sl ([.ref p0, .int p1]) ++ List.replicate (4 - (lg_sl ([.ref p0, .int p1])).length) Slot.unset).toArray = ls at hl ⊢
  have hl : lv_has ls 4 [(0, .ref p0), (1, .int p1)] := hl
  refine nameQ (fun Q hQ => ?_)
  have hw : WD D cy GG A s wr_X10_book__1 wa_X10_book__1 Ps w0 Ps w0 s.heap [] := ⟨hT, hP, hD, va_S.rf, FR.rf, hT.1, [], (List.append_nil _).symm⟩
  have B103 : ∀ (x2 : Int32) (x3 : Int32) (z0_2 : Int32) (z0_7 : Int32) (z0_42 : Int32) (ws : va_W) (H : Heap) (locs : List Loc) (ls : Array Slot), RI p1 0 1 → RI x2 0 40 → RI x3 0 61 → RI z0_2 0 0 → FLD ws p0 10 2 (.int z0_2) → RI z0_7 0 0 → FLD ws p0 10 7 (.int z0_7) → RI z0_42 0 40 → FLD ws p0 10 42 (.int z0_42) → (0 ≤ Int32.toInt p1 ∧ Int32.toInt p1 ≤ 1) → LNS Ps ws p0 → TLM ws p0 (0) → WD D cy GG A s wr_X10_book__1 wa_X10_book__1 Ps w0 Ps ws H locs → lv_has ls 4 [(0, .ref p0), (1, .int p1), (2, .int x2), (3, .int x3)] → W p l e (headSpec (Cond.code yX10_book cX10_book 4 (some .int) :: gT) ({ frames := 8, cells := 0, slots := 0, locals := 1600 } : Room)).room s m ([.ref p0, .int p1] : List Value).toArray below meth c H locs 0 0 Q (F0 m 103 ls []) := by
    intro x2 x3 z0_2 z0_7 z0_42 ws H locs ls r_p1 r_x2 r_x3 r_z0_2 m_z0_2 r_z0_7 m_z0_7 r_z0_42 m_z0_42 x_IMG1_p1 x_LNS_p0 x_TLM_p0_0 hw hl
    refine lv_aload_n hx hb dX10_book_103 rfl (lv_at hl 0 rfl) ?_
    refine tg_get (ci := 10) (ts := ty_MODEL) (C := RX10) (T := TX10) (N := 49) hx hb hts inX10 hown hK hw h_p0 rfl rfl 41 (by decide) (hts _ tw_1178) (fun _ h9 => h9) (ft := vR 53) rfl dX10_book_104 (fun u_1 hv_u_1 m_u_1 => ?_)
    obtain ⟨vu_1, rfl, h_vu_1⟩ := hv_u_1
    refine lv_iconst (v := 0) hx hb dX10_book_107 (by decide) ?_
    refine lv_iload_n hx hb dX10_book_108 rfl (lv_at hl 3 rfl) ?_
    refine tg_iast hx hb hK hw h_vu_1 rfl 0 0 rl_0 (by decide) r_x3 (by exact fun _ _ _ => by decide) (fun _ _ _ _ _ => trivial) (by decide) dX10_book_109 (fun ws H locs hw hF9 hU9 => ?_)
    have x_LNS_p0 := LNS.over hF9 x_LNS_p0 (by decide)
    have x_TLM_p0_0 := TLM.over hF9 x_TLM_p0_0 (by decide)
    have m_z0_2 := FLD.over hF9 m_z0_2 (by decide)
    have m_z0_7 := FLD.over hF9 m_z0_7 (by decide)
    have m_z0_42 := FLD.over hF9 m_z0_42 (by decide)
    have m_u_1 := FLD.over hF9 m_u_1 (by decide)
    refine lv_aload_n hx hb dX10_book_110 rfl (lv_at hl 0 rfl) ?_
    refine tg_mem (ci := 10) (C := RX10) (T := TX10) (N := 49) hx hb hts inX10 hown hK hw 41 m_u_1 rfl (by decide) (hts _ tw_1178) (fun _ h9 => h9) dX10_book_111 ?_
    refine lv_iconst (v := 1) hx hb dX10_book_114 (by decide) ?_
    refine lv_iload_n hx hb dX10_book_115 rfl (lv_at hl 2 rfl) ?_
    refine tg_iast hx hb hK hw h_vu_1 rfl 1 1 rl_1 (by decide) r_x2 (by exact fun _ _ _ => by decide) (fun _ _ _ _ _ => trivial) (by decide) dX10_book_116 (fun ws H locs hw hF9 hU9 => ?_)
    have x_LNS_p0 := LNS.over hF9 x_LNS_p0 (by decide)
    have x_TLM_p0_0 := TLM.over hF9 x_TLM_p0_0 (by decide)
    have m_z0_2 := FLD.over hF9 m_z0_2 (by decide)
    have m_z0_7 := FLD.over hF9 m_z0_7 (by decide)
    have m_z0_42 := FLD.over hF9 m_z0_42 (by decide)
    have m_u_1 := FLD.over hF9 m_u_1 (by decide)
    refine lv_aload_n hx hb dX10_book_117 rfl (lv_at hl 0 rfl) ?_
    refine tg_mem (ci := 10) (C := RX10) (T := TX10) (N := 49) hx hb hts inX10 hown hK hw 41 m_u_1 rfl (by decide) (hts _ tw_1178) (fun _ h9 => h9) dX10_book_118 ?_
    refine lv_iconst (v := 2) hx hb dX10_book_121 (by decide) ?_
    refine lv_aload_n hx hb dX10_book_122 rfl (lv_at hl 0 rfl) ?_
    refine tg_get (ci := 10) (ts := ty_MODEL) (C := RX10) (T := TX10) (N := 49) hx hb hts inX10 hown hK hw h_p0 rfl rfl 14 (by decide) (hts _ tw_1151) (fun _ h9 => h9) (ft := vR 34) rfl dX10_book_123 (fun u_2 hv_u_2 m_u_2 => ?_)
    obtain ⟨vu_2, rfl, h_vu_2⟩ := hv_u_2
    refine lv_bipush (v := 84) hx hb dX10_book_126 (by decide) ?_
    refine tg_iald (lo := (-2147483648)) (hi := 2147483647) hx hb hK hw h_vu_2 rfl 84 84 rl_84 (by decide) (by decide +kernel) dX10_book_128 (fun v_3 r_v_3 m_v_3 o_v_3 => ?_)
    have hw8 := hw
    refine tg_iast hx hb hK hw h_vu_1 rfl 2 2 rl_2 (by decide) r_v_3 (by exact fun _ _ _ => by decide) (fun _ _ _ _ _ => trivial) (by decide) dX10_book_129 (fun ws H locs hw hF9 hU9 => ?_)
    have m_v_3 := AEL.over hw8 hF9 h_vu_2 m_v_3 (by decide)
    have x_LNS_p0 := LNS.over hF9 x_LNS_p0 (by decide)
    have x_TLM_p0_0 := TLM.over hF9 x_TLM_p0_0 (by decide)
    have m_z0_2 := FLD.over hF9 m_z0_2 (by decide)
    have m_z0_7 := FLD.over hF9 m_z0_7 (by decide)
    have m_z0_42 := FLD.over hF9 m_z0_42 (by decide)
    have m_u_1 := FLD.over hF9 m_u_1 (by decide)
    have m_u_2 := FLD.over hF9 m_u_2 (by decide)
    refine lv_aload_n hx hb dX10_book_130 rfl (lv_at hl 0 rfl) ?_
    refine tg_mem (ci := 10) (C := RX10) (T := TX10) (N := 49) hx hb hts inX10 hown hK hw 41 m_u_1 rfl (by decide) (hts _ tw_1178) (fun _ h9 => h9) dX10_book_131 ?_
    refine lv_iconst (v := 3) hx hb dX10_book_134 (by decide) ?_
    refine lv_aload_n hx hb dX10_book_135 rfl (lv_at hl 0 rfl) ?_
    refine tk_ir (va_runV (As := []) (rest := [.int 3, .ref vu_1]) ⟨hx, hb, hml, hown, hts⟩ (c_X10_nothings l D cy z H.size Ps ws hw.1 p0 h_p0) (cwV 0 hts (gV tw_1485 tw_1487 ts_74 tw_15 tw_1488) rfl rfl rfl (by decide +kernel) ⟨Nat.le_of_ble_eq_true rfl, Nat.le_of_ble_eq_true rfl⟩) (tg_preV hw hK hSD hA (ci := 10) (q := (RX10, TX10, 49)) rfl h_p0 rfl) rfl rfl hl.1 rfl (lv_room (Nat.le_of_ble_eq_true rfl)) dX10_book_136 ⟨Nat.le_of_ble_eq_true rfl, Nat.le_of_ble_eq_true rfl⟩) hw hA (fun v_4  H locs hp_v_4 hw => ?_)
    have r_v_4 : RI v_4 (-2147483648) 2147483647 := hp_v_4.1
    have hw8 := hw
    refine tg_iast hx hb hK hw h_vu_1 rfl 3 3 rl_3 (by decide) r_v_4 (by exact fun _ _ _ => by decide) (fun _ _ _ _ _ => trivial) (by decide) dX10_book_139 (fun ws H locs hw hF9 hU9 => ?_)
    have m_v_3 := AEL.over hw8 hF9 h_vu_2 m_v_3 (by decide)
    have x_LNS_p0 := LNS.over hF9 x_LNS_p0 (by decide)
    have x_TLM_p0_0 := TLM.over hF9 x_TLM_p0_0 (by decide)
    have m_z0_2 := FLD.over hF9 m_z0_2 (by decide)
    have m_z0_7 := FLD.over hF9 m_z0_7 (by decide)
    have m_z0_42 := FLD.over hF9 m_z0_42 (by decide)
    have m_u_1 := FLD.over hF9 m_u_1 (by decide)
    have m_u_2 := FLD.over hF9 m_u_2 (by decide)
    refine lv_aload_n hx hb dX10_book_140 rfl (lv_at hl 0 rfl) ?_
    refine lv_iconst (v := 1) hx hb dX10_book_141 (by decide) ?_
    have hw8 := hw
    refine tg_put (ci := 10) (ts := ty_MODEL) (v := .int 1) (ty := .boolean) (C := RX10) (T := TX10) (N := 49) hx hb hts inX10 tyX10 tyX10_ok nmX10 hown hK hw h_p0 rfl rfl 43 (by decide) (hts _ tw_1180) (fun _ h9 => h9) rfl (by decide +kernel) rfl rfl (ft := vI 0 1) rfl ⟨_, rfl, (rl_1.to (by decide))⟩ (by decide) dX10_book_142 (fun ws H locs hw n_k_5 hF9 => ?_)
    have m_v_3 := AEL.over hw8 hF9 h_vu_2 m_v_3 (by decide)
    have m_z0_2 := FLD.over hF9 m_z0_2 (by decide)
    have m_z0_7 := FLD.over hF9 m_z0_7 (by decide)
    have m_z0_42 := FLD.over hF9 m_z0_42 (by decide)
    have m_u_1 := FLD.over hF9 m_u_1 (by decide)
    have m_u_2 := FLD.over hF9 m_u_2 (by decide)
    have x_LNS_p0 := LNS.over hF9 x_LNS_p0 (by decide)
    have x_TLM_p0_0 := TLM.over hF9 x_TLM_p0_0 (by decide)
    refine lv_aload_n hx hb dX10_book_145 rfl (lv_at hl 0 rfl) ?_
    refine lv_iload_n hx hb dX10_book_146 rfl (lv_at hl 1 rfl) ?_
    refine lv_iconst (v := 1) hx hb dX10_book_147 (by decide) ?_
    refine lv_icmp_ne (tgt := 159) hx hb dX10_book_148 (by decide) (fun c_148 => ?_) (fun c_148 => ?_)
    · have r_p1 : RI p1 0 0 := rc_neU r_p1 rl_1 (ti_ne c_148) (by decide)
      refine lv_iconst (v := 0) hx hb dX10_book_159 (by decide) ?_
      have hw8 := hw
      refine tk_v (va_runV (As := [.int 0]) (rest := []) ⟨hx, hb, hml, hown, hts⟩ (c_X10_stay l D cy z H.size Ps ws hw.1 p0 0 h_p0 (rl_0.to (by decide))) (cwV 1 hts (gV tw_1739 tw_1741 ts_110 tw_15 tw_1742) rfl rfl rfl (by decide +kernel) ⟨Nat.le_of_ble_eq_true rfl, Nat.le_of_ble_eq_true rfl⟩) (tg_preV hw hK hSD hA (ci := 10) (q := (RX10, TX10, 49)) rfl h_p0 rfl) rfl rfl hl.1 rfl (lv_room (Nat.le_of_ble_eq_true rfl)) dX10_book_160 ⟨Nat.le_of_ble_eq_true rfl, Nat.le_of_ble_eq_true rfl⟩) hw hA ⟨by decide, by decide⟩ (fun ws H locs hp_v_6 hw hF9 => ?_)
      have m_z0_2 := FLD.over hF9 m_z0_2 (by decide)
      have m_z0_7 := FLD.over hF9 m_z0_7 (by decide)
      have m_z0_42 := FLD.over hF9 m_z0_42 (by decide)
      have m_u_1 := FLD.over hF9 m_u_1 (by decide)
      have m_u_2 := FLD.over hF9 m_u_2 (by decide)
      have n_k_5 := FLD.over hF9 n_k_5 (by decide)
      have x_LNS_p0 := LNS.over hF9 x_LNS_p0 (by decide)
      have x_TLM_p0_0 := TLM.over hF9 x_TLM_p0_0 (by decide)
      refine lv_iload_n hx hb dX10_book_163 rfl (lv_at hl 3 rfl) ?_
      refine lv_if_ne (tgt := 171) hx hb dX10_book_164 (by decide) (fun c_164 => ?_) (fun c_164 => ?_)
      · have r_x3 : RI x3 1 61 := rc_neL r_x3 rl_0 (ti_ne c_164) (by decide)
        refine lv_iload_n hx hb dX10_book_171 rfl (lv_at hl 2 rfl) ?_
        subst hQ
        exact W.iret (v := x2) hx hb hr (fun t ht hW => ⟨⟨x2, ws, rfl, ⟨⟨r_x2.to (by decide), (fun h0 => trivial), (fun h0 => trivial), ⟨⟨fun _ => x_TLM_p0_0, fun h9 => absurd x_IMG1_p1 h9⟩, trivial⟩, (fun _ => trivial), (fun _ => trivial)⟩, hw.1, hw.2.2.2.2.1⟩, by rw [ht]; exact hw.2.1, va_K.moved hW.alike hK, hw.2.2.1⟩, hw.2.2.2.1.F ht⟩) hw.2.2.2.1.2.2 dX10_book_172
      · have r_x3 : RI x3 0 0 := rc_eq1 r_x3 rl_0 (ti_eq c_164) (by decide)
        refine lv_iconst (v := (-1)) hx hb dX10_book_167 (by decide) ?_
        refine lv_goto (tgt := 172) hx hb dX10_book_168 (by decide) ?_
        subst hQ
        exact W.iret (v := (-1)) hx hb hr (fun t ht hW => ⟨⟨(-1), ws, rfl, ⟨⟨rl_m1.to (by decide), (fun _ => trivial), (fun h0 => trivial), ⟨⟨fun _ => x_TLM_p0_0, fun h9 => absurd x_IMG1_p1 h9⟩, trivial⟩, (fun _ => trivial), (fun _ => trivial)⟩, hw.1, hw.2.2.2.2.1⟩, by rw [ht]; exact hw.2.1, va_K.moved hW.alike hK, hw.2.2.1⟩, hw.2.2.2.1.F ht⟩) hw.2.2.2.1.2.2 dX10_book_172
    · have r_p1 : RI p1 1 1 := rc_eq1 r_p1 rl_1 (ti_eq c_148) (by decide)
      refine lv_iload_n hx hb dX10_book_151 rfl (lv_at hl 2 rfl) ?_
      refine lv_if_le (tgt := 159) hx hb dX10_book_152 (by decide) (fun c_152 => ?_) (fun c_152 => ?_)
      · have r_x2 : RI x2 0 0 := rc_le1 r_x2 rl_0 (ti_le c_152) (by decide)
        refine lv_iconst (v := 0) hx hb dX10_book_159 (by decide) ?_
        have hw8 := hw
        refine tk_v (va_runV (As := [.int 0]) (rest := []) ⟨hx, hb, hml, hown, hts⟩ (c_X10_stay l D cy z H.size Ps ws hw.1 p0 0 h_p0 (rl_0.to (by decide))) (cwV 1 hts (gV tw_1739 tw_1741 ts_110 tw_15 tw_1742) rfl rfl rfl (by decide +kernel) ⟨Nat.le_of_ble_eq_true rfl, Nat.le_of_ble_eq_true rfl⟩) (tg_preV hw hK hSD hA (ci := 10) (q := (RX10, TX10, 49)) rfl h_p0 rfl) rfl rfl hl.1 rfl (lv_room (Nat.le_of_ble_eq_true rfl)) dX10_book_160 ⟨Nat.le_of_ble_eq_true rfl, Nat.le_of_ble_eq_true rfl⟩) hw hA ⟨by decide, by decide⟩ (fun ws H locs hp_v_7 hw hF9 => ?_)
        have m_z0_2 := FLD.over hF9 m_z0_2 (by decide)
        have m_z0_7 := FLD.over hF9 m_z0_7 (by decide)
        have m_z0_42 := FLD.over hF9 m_z0_42 (by decide)
        have m_u_1 := FLD.over hF9 m_u_1 (by decide)
        have m_u_2 := FLD.over hF9 m_u_2 (by decide)
        have n_k_5 := FLD.over hF9 n_k_5 (by decide)
        have x_LNS_p0 := LNS.over hF9 x_LNS_p0 (by decide)
        have x_TLM_p0_0 := TLM.over hF9 x_TLM_p0_0 (by decide)
        refine lv_iload_n hx hb dX10_book_163 rfl (lv_at hl 3 rfl) ?_
        refine lv_if_ne (tgt := 171) hx hb dX10_book_164 (by decide) (fun c_164 => ?_) (fun c_164 => ?_)
        · have r_x3 : RI x3 1 61 := rc_neL r_x3 rl_0 (ti_ne c_164) (by decide)
          refine lv_iload_n hx hb dX10_book_171 rfl (lv_at hl 2 rfl) ?_
          subst hQ
          exact W.iret (v := x2) hx hb hr (fun t ht hW => ⟨⟨x2, ws, rfl, ⟨⟨r_x2.to (by decide), (fun h0 => trivial), (fun _ => trivial), ⟨⟨fun _ => x_TLM_p0_0, fun h9 => absurd x_IMG1_p1 h9⟩, trivial⟩, (fun _ => trivial), (fun _ => trivial)⟩, hw.1, hw.2.2.2.2.1⟩, by rw [ht]; exact hw.2.1, va_K.moved hW.alike hK, hw.2.2.1⟩, hw.2.2.2.1.F ht⟩) hw.2.2.2.1.2.2 dX10_book_172
        · have r_x3 : RI x3 0 0 := rc_eq1 r_x3 rl_0 (ti_eq c_164) (by decide)
          refine lv_iconst (v := (-1)) hx hb dX10_book_167 (by decide) ?_
          refine lv_goto (tgt := 172) hx hb dX10_book_168 (by decide) ?_
          subst hQ
          exact W.iret (v := (-1)) hx hb hr (fun t ht hW => ⟨⟨(-1), ws, rfl, ⟨⟨rl_m1.to (by decide), (fun _ => trivial), (fun h0 => trivial), ⟨⟨fun _ => x_TLM_p0_0, fun h9 => absurd x_IMG1_p1 h9⟩, trivial⟩, (fun _ => trivial), (fun _ => trivial)⟩, hw.1, hw.2.2.2.2.1⟩, by rw [ht]; exact hw.2.1, va_K.moved hW.alike hK, hw.2.2.1⟩, hw.2.2.2.1.F ht⟩) hw.2.2.2.1.2.2 dX10_book_172
      · have r_x2 : RI x2 1 40 := rc_lt2 rl_0 r_x2 (ti_nle c_152) (by decide)
        refine lv_iconst (v := 1) hx hb dX10_book_155 (by decide) ?_
        refine lv_goto (tgt := 160) hx hb dX10_book_156 (by decide) ?_
        have hw8 := hw
        refine tk_v (va_runV (As := [.int 1]) (rest := []) ⟨hx, hb, hml, hown, hts⟩ (c_X10_stay l D cy z H.size Ps ws hw.1 p0 1 h_p0 (rl_1.to (by decide))) (cwV 1 hts (gV tw_1739 tw_1741 ts_110 tw_15 tw_1742) rfl rfl rfl (by decide +kernel) ⟨Nat.le_of_ble_eq_true rfl, Nat.le_of_ble_eq_true rfl⟩) (tg_preV hw hK hSD hA (ci := 10) (q := (RX10, TX10, 49)) rfl h_p0 rfl) rfl rfl hl.1 rfl (lv_room (Nat.le_of_ble_eq_true rfl)) dX10_book_160 ⟨Nat.le_of_ble_eq_true rfl, Nat.le_of_ble_eq_true rfl⟩) hw hA ⟨by decide, by decide⟩ (fun ws H locs hp_v_8 hw hF9 => ?_)
        have m_z0_2 := FLD.over hF9 m_z0_2 (by decide)
        have m_z0_7 := FLD.over hF9 m_z0_7 (by decide)
        have m_z0_42 := FLD.over hF9 m_z0_42 (by decide)
        have m_u_1 := FLD.over hF9 m_u_1 (by decide)
        have m_u_2 := FLD.over hF9 m_u_2 (by decide)
        have n_k_5 := FLD.over hF9 n_k_5 (by decide)
        have x_LNS_p0 := LNS.over hF9 x_LNS_p0 (by decide)
        have x_TLM_p0_0 := TLM.over hF9 x_TLM_p0_0 (by decide)
        refine lv_iload_n hx hb dX10_book_163 rfl (lv_at hl 3 rfl) ?_
        refine lv_if_ne (tgt := 171) hx hb dX10_book_164 (by decide) (fun c_164 => ?_) (fun c_164 => ?_)
        · have r_x3 : RI x3 1 61 := rc_neL r_x3 rl_0 (ti_ne c_164) (by decide)
          refine lv_iload_n hx hb dX10_book_171 rfl (lv_at hl 2 rfl) ?_
          subst hQ
          exact W.iret (v := x2) hx hb hr (fun t ht hW => ⟨⟨x2, ws, rfl, ⟨⟨r_x2.to (by decide), (fun _ => trivial), (fun h0 => trivial), ⟨⟨fun _ => x_TLM_p0_0, fun h9 => absurd x_IMG1_p1 h9⟩, trivial⟩, (fun _ => trivial), (fun _ => trivial)⟩, hw.1, hw.2.2.2.2.1⟩, by rw [ht]; exact hw.2.1, va_K.moved hW.alike hK, hw.2.2.1⟩, hw.2.2.2.1.F ht⟩) hw.2.2.2.1.2.2 dX10_book_172
        · have r_x3 : RI x3 0 0 := rc_eq1 r_x3 rl_0 (ti_eq c_164) (by decide)
          refine lv_iconst (v := (-1)) hx hb dX10_book_167 (by decide) ?_
          refine lv_goto (tgt := 172) hx hb dX10_book_168 (by decide) ?_
          subst hQ
          exact W.iret (v := (-1)) hx hb hr (fun t ht hW => ⟨⟨(-1), ws, rfl, ⟨⟨rl_m1.to (by decide), (fun _ => trivial), (fun h0 => trivial), ⟨⟨fun _ => x_TLM_p0_0, fun h9 => absurd x_IMG1_p1 h9⟩, trivial⟩, (fun _ => trivial), (fun _ => trivial)⟩, hw.1, hw.2.2.2.2.1⟩, by rw [ht]; exact hw.2.1, va_K.moved hW.alike hK, hw.2.2.1⟩, hw.2.2.2.1.F ht⟩) hw.2.2.2.1.2.2 dX10_book_172
  have B73 : ∀ (nf : Nat) (x2 : Int32) (x3 : Int32) (z0_2 : Int32) (z0_7 : Int32) (z0_42 : Int32) (ws : va_W) (H : Heap) (locs : List Loc) (ls : Array Slot), 2 * (41 - x2.toInt) + 1 - min x3.toInt 1 < (nf : Int) → RI p1 0 1 → RI x2 0 40 → RI x3 0 61 → RI z0_2 0 0 → FLD ws p0 10 2 (.int z0_2) → RI z0_7 0 0 → FLD ws p0 10 7 (.int z0_7) → RI z0_42 0 40 → FLD ws p0 10 42 (.int z0_42) → (0 ≤ Int32.toInt p1 ∧ Int32.toInt p1 ≤ 1) → LNS Ps ws p0 → TLM ws p0 (0) → WD D cy GG A s wr_X10_book__1 wa_X10_book__1 Ps w0 Ps ws H locs → lv_has ls 4 [(0, .ref p0), (1, .int p1), (2, .int x2), (3, .int x3)] → W p l e (headSpec (Cond.code yX10_book cX10_book 4 (some .int) :: gT) ({ frames := 8, cells := 0, slots := 0, locals := 1600 } : Room)).room s m ([.ref p0, .int p1] : List Value).toArray below meth c H locs 0 0 Q (F0 m 73 ls []) := by
    intro nf73
    induction nf73 with
    | zero =>
      intro x2 x3 z0_2 z0_7 z0_42 ws H locs ls hn73 r_p1 r_x2 r_x3 r_z0_2 m_z0_2 r_z0_7 m_z0_7 r_z0_42 m_z0_42 x_IMG1_p1 x_LNS_p0 x_TLM_p0_0 hw hl
      exact absurd hn73 (by have q0 := r_x2.1; have u0 := r_x2.2; have q1 := r_x3.1; have u1 := r_x3.2; omega)
    | succ nf73 ih73 =>
      intro x2 x3 z0_2 z0_7 z0_42 ws H locs ls hn73 r_p1 r_x2 r_x3 r_z0_2 m_z0_2 r_z0_7 m_z0_7 r_z0_42 m_z0_42 x_IMG1_p1 x_LNS_p0 x_TLM_p0_0 hw hl
      refine lv_iload_n hx hb dX10_book_73 rfl (lv_at hl 2 rfl) ?_
      refine lv_aload_n hx hb dX10_book_74 rfl (lv_at hl 0 rfl) ?_
      refine tg_mem (ci := 10) (C := RX10) (T := TX10) (N := 49) hx hb hts inX10 hown hK hw 42 m_z0_42 rfl (by decide) (hts _ tw_1179) (fun _ h9 => h9) dX10_book_75 ?_
      refine lv_icmp_ge (tgt := 103) hx hb dX10_book_78 (by decide) (fun c_78 => ?_) (fun c_78 => ?_)
      · exact B103 x2 x3 z0_2 z0_7 z0_42 ws _ _ ls r_p1 r_x2 r_x3 r_z0_2 m_z0_2 r_z0_7 m_z0_7 r_z0_42 m_z0_42 x_IMG1_p1 x_LNS_p0 x_TLM_p0_0 hw hl
      · have r_x2 : RI x2 0 39 := rc_lt1 r_x2 r_z0_42 (ti_nle c_78) (by decide)
        have r_z0_42 : RI z0_42 1 40 := rc_lt2 r_x2 r_z0_42 (ti_nle c_78) (by decide)
        refine lv_iload_n hx hb dX10_book_81 rfl (lv_at hl 3 rfl) ?_
        refine lv_if_ne (tgt := 103) hx hb dX10_book_82 (by decide) (fun c_82 => ?_) (fun c_82 => ?_)
        · have r_x3 : RI x3 1 61 := rc_neL r_x3 rl_0 (ti_ne c_82) (by decide)
          exact B103 x2 x3 z0_2 z0_7 z0_42 ws _ _ ls r_p1 (r_x2.to (by decide)) (r_x3.to (by decide)) r_z0_2 m_z0_2 r_z0_7 m_z0_7 (r_z0_42.to (by decide)) m_z0_42 x_IMG1_p1 x_LNS_p0 x_TLM_p0_0 hw hl
        · have r_x3 : RI x3 0 0 := rc_eq1 r_x3 rl_0 (ti_eq c_82) (by decide)
          refine lv_aload_n hx hb dX10_book_85 rfl (lv_at hl 0 rfl) ?_
          refine lv_iconst (v := 3) hx hb dX10_book_86 (by decide) ?_
          refine lv_iload_n hx hb dX10_book_87 rfl (lv_at hl 2 rfl) ?_
          refine lv_imul hx hb dX10_book_88 (lv_topi (fun v_9 e_v_9 => ?_))
          obtain ⟨t_v_9, r_v_9⟩ := tq_mul (lo := 0) (hi := 117) rl_3 r_x2 (by decide +kernel) e_v_9
          have t_v_9 : v_9.toInt = 3 * x2.toInt := t_v_9
          have x_GL_p0_v_9 : AX 40 52 (fun f => GLk f (Int32.toNatClampNeg v_9)) Ps ws p0 := LNS.gl (k := x2) hw x_LNS_p0 m_z0_42 r_x2.1 (ti_nle c_78) t_v_9
          refine tk_i (va_runV (As := [.int v_9]) (rest := []) ⟨hx, hb, hml, hown, hts⟩ (c_X10_goBy l D cy z H.size Ps ws hw.1 p0 v_9 h_p0 r_v_9 x_GL_p0_v_9) (cwV 1 hts (gV tw_1735 tw_1737 ts_109 tw_15 tw_1738) rfl rfl rfl (by decide +kernel) ⟨Nat.le_of_ble_eq_true rfl, Nat.le_of_ble_eq_true rfl⟩) (tg_preV hw hK hSD hA (ci := 10) (q := (RX10, TX10, 49)) rfl h_p0 rfl) rfl rfl hl.1 rfl (lv_room (Nat.le_of_ble_eq_true rfl)) dX10_book_89 ⟨Nat.le_of_ble_eq_true rfl, Nat.le_of_ble_eq_true rfl⟩) hw hA ⟨by decide, by decide⟩ (fun v_10 ws H locs hp_v_10 hw hF9 => ?_)
          have m_z0_2 := FLD.over hF9 m_z0_2 (by decide)
          have m_z0_7 := FLD.over hF9 m_z0_7 (by decide)
          have m_z0_42 := FLD.over hF9 m_z0_42 (by decide)
          have x_LNS_p0 := LNS.over hF9 x_LNS_p0 (by decide)
          have x_TLM_p0_0 := TLM.over hF9 x_TLM_p0_0 (by decide)
          have x_GL_p0_v_9 := AX.over hF9 x_GL_p0_v_9 (by decide)
          have r_v_10 : RI v_10 0 61 := hp_v_10.1
          refine lv_istore_n (lv' := [(3, .int v_10), (0, .ref p0), (1, .int p1), (2, .int x2)]) hx hb dX10_book_92 rfl hl (by decide) rfl (fun ls hl => ?_)
          refine lv_iload_n hx hb dX10_book_93 rfl (lv_at hl 0 rfl) ?_
          refine lv_if_ne (tgt := 73) hx hb dX10_book_94 (by decide) (fun c_94 => ?_) (fun c_94 => ?_)
          · have r_v_10 : RI v_10 1 61 := rc_neL r_v_10 rl_0 (ti_ne c_94) (by decide)
            exact ih73 x2 v_10 z0_2 z0_7 z0_42 ws _ _ ls (by have q0 := r_x2.1; have u0 := r_x2.2; have q1 := r_v_10.1; have u1 := r_v_10.2; have o1 := r_x3.1; have p1 := r_x3.2; omega) r_p1 (r_x2.to (by decide)) (r_v_10.to (by decide)) r_z0_2 m_z0_2 r_z0_7 m_z0_7 (r_z0_42.to (by decide)) m_z0_42 x_IMG1_p1 x_LNS_p0 x_TLM_p0_0 hw (lv_sub hl [1, 2, 3, 0] rfl)
          · have r_v_10 : RI v_10 0 0 := rc_eq1 r_v_10 rl_0 (ti_eq c_94) (by decide)
            obtain ⟨v_11, e_v_11⟩ : ∃ q9 : Int32, q9 = x2 + Int32.ofInt 1 := ⟨_, rfl⟩
            obtain ⟨t_v_11, r_v_11⟩ := tq_add (lo := 1) (hi := 40) r_x2 (show RI (Int32.ofInt 1) 1 1 by unfold RI; decide +kernel) (by decide +kernel) e_v_11
            have t_v_11 : v_11.toInt = x2.toInt + 1 := t_v_11
            refine lv_iinc (v := v_11) (lv' := [(2, .int v_11), (3, .int v_10), (0, .ref p0), (1, .int p1)]) hx hb dX10_book_97 hl (k := 3) rfl e_v_11.symm (by decide) rfl (fun ls hl => ?_)
            refine lv_goto (tgt := 73) hx hb dX10_book_100 (by decide) ?_
            exact ih73 v_11 v_10 z0_2 z0_7 z0_42 ws _ _ ls (by have q0 := r_v_11.1; have u0 := r_v_11.2; have q1 := r_v_10.1; have u1 := r_v_10.2; have o0 := r_x2.1; have p0 := r_x2.2; have o1 := r_x3.1; have p1 := r_x3.2; omega) r_p1 (r_v_11.to (by decide)) (r_v_10.to (by decide)) r_z0_2 m_z0_2 r_z0_7 m_z0_7 (r_z0_42.to (by decide)) m_z0_42 x_IMG1_p1 x_LNS_p0 x_TLM_p0_0 hw (lv_sub hl [2, 3, 0, 1] rfl)
  have B30 : ∀ (nf : Nat) (z0_2 : Int32) (z0_42 : Int32) (ws : va_W) (H : Heap) (locs : List Loc) (ls : Array Slot), 40 - z0_42.toInt < (nf : Int) → RI p1 0 1 → RI z0_2 0 0 → FLD ws p0 10 2 (.int z0_2) → RI z0_42 0 40 → FLD ws p0 10 42 (.int z0_42) → (0 ≤ Int32.toInt p1 ∧ Int32.toInt p1 ≤ 1) → TLM ws p0 (0) → LNS Ps ws p0 → WD D cy GG A s wr_X10_book__1 wa_X10_book__1 Ps w0 Ps ws H locs → lv_has ls 4 [(0, .ref p0), (1, .int p1)] → W p l e (headSpec (Cond.code yX10_book cX10_book 4 (some .int) :: gT) ({ frames := 8, cells := 0, slots := 0, locals := 1600 } : Room)).room s m ([.ref p0, .int p1] : List Value).toArray below meth c H locs 0 0 Q (F0 m 30 ls []) := by
    intro nf30
    induction nf30 with
    | zero =>
      intro z0_2 z0_42 ws H locs ls hn30 r_p1 r_z0_2 m_z0_2 r_z0_42 m_z0_42 x_IMG1_p1 x_TLM_p0_0 x_LNS_p0 hw hl
      exact absurd hn30 (by have q0 := r_z0_42.1; have u0 := r_z0_42.2; omega)
    | succ nf30 ih30 =>
      intro z0_2 z0_42 ws H locs ls hn30 r_p1 r_z0_2 m_z0_2 r_z0_42 m_z0_42 x_IMG1_p1 x_TLM_p0_0 x_LNS_p0 hw hl
      refine lv_aload_n hx hb dX10_book_30 rfl (lv_at hl 0 rfl) ?_
      refine tg_get (ci := 10) (ts := ty_MODEL) (C := RX10) (T := TX10) (N := 49) hx hb hts inX10 hown hK hw h_p0 rfl rfl 7 (by decide) (hts _ tw_1144) (fun _ h9 => h9) (ft := vI (-2147483648) 2147483647) rfl dX10_book_31 (fun u_12 hv_u_12 m_u_12 => ?_)
      obtain ⟨vu_12, rfl, r_vu_12⟩ := hv_u_12
      refine lv_if_eq (tgt := 65) hx hb dX10_book_34 (by decide) (fun c_34 => ?_) (fun c_34 => ?_)
      · have r_vu_12 : RI vu_12 0 0 := rc_eq1 r_vu_12 rl_0 (ti_eq c_34) (by decide)
        refine lv_aload_n hx hb dX10_book_65 rfl (lv_at hl 0 rfl) ?_
        refine tk_v (va_runV (As := []) (rest := []) ⟨hx, hb, hml, hown, hts⟩ (c_X10_layAside l D cy z H.size Ps ws hw.1 p0 h_p0) (cwV 0 hts (gV tw_1583 tw_1585 ts_88 tw_15 tw_1586) rfl rfl rfl (by decide +kernel) ⟨Nat.le_of_ble_eq_true rfl, Nat.le_of_ble_eq_true rfl⟩) (tg_preV hw hK hSD hA (ci := 10) (q := (RX10, TX10, 49)) rfl h_p0 rfl) rfl rfl hl.1 rfl (lv_room (Nat.le_of_ble_eq_true rfl)) dX10_book_66 ⟨Nat.le_of_ble_eq_true rfl, Nat.le_of_ble_eq_true rfl⟩) hw hA ⟨by decide, by decide⟩ (fun ws H locs hp_v_13 hw hF9 => ?_)
        have m_z0_2 := FLD.over hF9 m_z0_2 (by decide)
        have m_z0_42 := FLD.over hF9 m_z0_42 (by decide)
        have m_u_12 := FLD.over hF9 m_u_12 (by decide)
        have x_TLM_p0_0 := TLM.over hF9 x_TLM_p0_0 (by decide)
        have x_LNS_p0 := LNS.over hF9 x_LNS_p0 (by decide)
        refine lv_iconst (v := 0) hx hb dX10_book_69 (by decide) ?_
        refine lv_istore_n (lv' := [(2, .int 0), (0, .ref p0), (1, .int p1)]) hx hb dX10_book_70 rfl hl (by decide) rfl (fun ls hl => ?_)
        refine lv_iconst (v := 0) hx hb dX10_book_71 (by decide) ?_
        refine lv_istore_n (lv' := [(3, .int 0), (2, .int 0), (0, .ref p0), (1, .int p1)]) hx hb dX10_book_72 rfl hl (by decide) rfl (fun ls hl => ?_)
        exact B73 4294967298 0 0 z0_2 vu_12 z0_42 ws _ _ ls (by have q0 := rl_0.1; have u0 := rl_0.2; have q1 := rl_0.1; have u1 := rl_0.2; omega) r_p1 (rl_0.to (by decide)) (rl_0.to (by decide)) r_z0_2 m_z0_2 r_vu_12 m_u_12 r_z0_42 m_z0_42 x_IMG1_p1 x_LNS_p0 x_TLM_p0_0 hw (lv_sub hl [2, 3, 1, 0] rfl)
      · refine lv_aload_n hx hb dX10_book_37 rfl (lv_at hl 0 rfl) ?_
        refine tk_i (va_runV (As := []) (rest := []) ⟨hx, hb, hml, hown, hts⟩ (c_X10_readBookLine l D cy z H.size Ps ws hw.1 p0 h_p0 x_LNS_p0) (cwV 0 hts (gV tw_1711 tw_1713 ts_103 tw_15 tw_1714) rfl rfl rfl (by decide +kernel) ⟨Nat.le_of_ble_eq_true rfl, Nat.le_of_ble_eq_true rfl⟩) (tg_preV hw hK hSD hA (ci := 10) (q := (RX10, TX10, 49)) rfl h_p0 rfl) rfl rfl hl.1 rfl (lv_room (Nat.le_of_ble_eq_true rfl)) dX10_book_38 ⟨Nat.le_of_ble_eq_true rfl, Nat.le_of_ble_eq_true rfl⟩) hw hA ⟨by decide, by decide⟩ (fun v_14 ws H locs hp_v_14 hw hF9 => ?_)
        have m_z0_2 := FLD.over hF9 m_z0_2 (by decide)
        have m_z0_42 := FLD.over hF9 m_z0_42 (by decide)
        have x_TLM_p0_0 := TLM.over hF9 x_TLM_p0_0 (by decide)
        have r_v_14 : RI v_14 0 1 := hp_v_14.1
        by_cases c9_v_14 : v_14 = 0
        · have r_v_14 : RI v_14 0 0 := by rw [c9_v_14]; exact rl_0
          refine lv_if_ne (tgt := 52) hx hb dX10_book_41 (by decide) (fun c_41 => ?_) (fun c_41 => ?_)
          · exact absurd (r_v_14.eq.trans rl_0.eq.symm) ((ti_ne c_41))
          · refine lv_bipush (v := (-2)) hx hb dX10_book_44 (by decide) ?_
            refine lv_aload_n hx hb dX10_book_46 rfl (lv_at hl 0 rfl) ?_
            refine tg_get (ci := 10) (ts := ty_MODEL) (C := RX10) (T := TX10) (N := 49) hx hb hts inX10 hown hK hw h_p0 rfl rfl 11 (by decide) (hts _ tw_1148) (fun _ h9 => h9) (ft := vI (-2147483648) 2147483647) rfl dX10_book_47 (fun u_15 hv_u_15 m_u_15 => ?_)
            obtain ⟨vu_15, rfl, r_vu_15⟩ := hv_u_15
            refine lv_isub hx hb dX10_book_50 (lv_topi (fun v_16 e_v_16 => ?_))
            have r_v_16 := ri_any v_16
            subst hQ
            exact W.iret (v := v_16) hx hb hr (fun t ht hW => ⟨⟨v_16, ws, rfl, ⟨⟨r_v_16.to (by decide), (fun h0 => trivial), (fun h0 => trivial), ⟨⟨fun _ => x_TLM_p0_0, fun h9 => absurd x_IMG1_p1 h9⟩, trivial⟩, (fun _ => trivial), (fun _ => trivial)⟩, hw.1, hw.2.2.2.2.1⟩, by rw [ht]; exact hw.2.1, va_K.moved hW.alike hK, hw.2.2.1⟩, hw.2.2.2.1.F ht⟩) hw.2.2.2.1.2.2 dX10_book_51
        · have r_v_14 : RI v_14 1 1 := rc_neL r_v_14 rl_0 (ti_ne c9_v_14) (by decide)
          obtain ⟨v_17, m_v_17, r_v_17⟩ := ((hp_v_14.2.2 c9_v_14).1)
          have e_v_17 : v_17 = z0_42 := by have q9 := FLD.inj hw.2.2.1 m_v_17 m_z0_42; cases q9; rfl
          rw [e_v_17] at r_v_17
          have x_LNG_p0 := ((hp_v_14.2.2 c9_v_14).2.1)
          refine lv_if_ne (tgt := 52) hx hb dX10_book_41 (by decide) (fun c_41 => ?_) (fun c_41 => ?_)
          · refine lv_aload_n hx hb dX10_book_52 rfl (lv_at hl 0 rfl) ?_
            refine lv_dup hx hb dX10_book_53 rfl ?_
            refine tg_mem (ci := 10) (C := RX10) (T := TX10) (N := 49) hx hb hts inX10 hown hK hw 42 m_z0_42 rfl (by decide) (hts _ tw_1179) (fun _ h9 => h9) dX10_book_54 ?_
            refine lv_iconst (v := 1) hx hb dX10_book_57 (by decide) ?_
            refine lv_iadd hx hb dX10_book_58 (lv_topi (fun v_18 e_v_18 => ?_))
            obtain ⟨t_v_18, r_v_18⟩ := tq_add (lo := 1) (hi := 40) r_v_17 rl_1 (by decide +kernel) e_v_18
            have t_v_18 : v_18.toInt = z0_42.toInt + 1 := t_v_18
            have x_LA := LNG.get hw x_LNG_p0 m_z0_42
            refine tg_put (ci := 10) (ts := ty_MODEL) (v := .int v_18) (ty := .int) (C := RX10) (T := TX10) (N := 49) hx hb hts inX10 tyX10 tyX10_ok nmX10 hown hK hw h_p0 rfl rfl 42 (by decide) (hts _ tw_1179) (fun _ h9 => h9) rfl (by decide +kernel) rfl rfl (ft := vI 0 40) rfl ⟨_, rfl, (r_v_18.to (by decide))⟩ (by decide) dX10_book_59 (fun ws H locs hw n_k_19 hF9 => ?_)
            have m_z0_2 := FLD.over hF9 m_z0_2 (by decide)
            have x_TLM_p0_0 := TLM.over hF9 x_TLM_p0_0 (by decide)
            have x_LA := AX.over hF9 x_LA (by decide)
            have x_LNS_p0 : LNS Ps ws p0 := ⟨_, n_k_19, AX.imp x_LA (fun f9 h9 => fun j9 q9 => h9 j9 (by have k1 := t_v_18; omega))⟩
            refine lv_goto (tgt := 30) hx hb dX10_book_62 (by decide) ?_
            exact ih30 z0_2 v_18 ws _ _ ls (by have q0 := r_v_18.1; have u0 := r_v_18.2; have o0 := r_v_17.1; have p0 := r_v_17.2; omega) r_p1 r_z0_2 m_z0_2 (r_v_18.to (by decide)) n_k_19 x_IMG1_p1 x_TLM_p0_0 x_LNS_p0 hw hl
          · have r_v_14 : RI v_14 1 0 := rc_eq1 r_v_14 rl_0 (ti_eq c_41) (by decide)
            exact (r_v_14.no (by decide)).elim
  refine lv_aload_n hx hb dX10_book_0 rfl (lv_at hl 0 rfl) ?_
  refine lv_iconst (v := 0) hx hb dX10_book_1 (by decide) ?_
  refine tg_put (ci := 10) (ts := ty_MODEL) (v := .int 0) (ty := .int) (C := RX10) (T := TX10) (N := 49) hx hb hts inX10 tyX10 tyX10_ok nmX10 hown hK hw h_p0 rfl rfl 0 (by decide) (hts _ tw_1137) (fun _ h9 => h9) rfl (by decide +kernel) rfl rfl (ft := vI (-2147483648) 2147483647) rfl ⟨_, rfl, (rl_0.to (by decide))⟩ (by decide) dX10_book_2 (fun ws H locs hw n_k_20 hF9 => ?_)
  have x_TLM_p0_gh := TLM.over hF9 x_TLM_p0_gh (by decide)
  refine lv_iload_n hx hb dX10_book_5 rfl (lv_at hl 1 rfl) ?_
  refine lv_iconst (v := 0) hx hb dX10_book_6 (by decide) ?_
  refine lv_iconst (v := 1) hx hb dX10_book_7 (by decide) ?_
  refine tk_ir (va_runS (As := [.int p1, .int 0, .int 1]) (rest := []) ⟨hx, hb, hml, hown, hts⟩ (c_X10_isIn__12 l D cy z H.size Ps ws hw.1 p1 0 1 r_p1 rl_0 rl_1) (va_cwS 3 hts (gS tw_1359 tw_1360 tw_15 tw_1361) rfl rfl rfl (by decide +kernel) ⟨Nat.le_of_ble_eq_true rfl, Nat.le_of_ble_eq_true rfl⟩) (tg_preS hw hK hSD hA) rfl rfl hl.1 rfl (lv_room (Nat.le_of_ble_eq_true rfl)) dX10_book_8 ⟨Nat.le_of_ble_eq_true rfl, Nat.le_of_ble_eq_true rfl⟩) hw hA (fun v_21  H locs hp_v_21 hw => ?_)
  have r_v_21 : RI v_21 0 1 := hp_v_21.1
  by_cases c9_v_21 : v_21 = 0
  · have r_v_21 : RI v_21 0 0 := by rw [c9_v_21]; exact rl_0
    have x_IMG0_p1 := ((hp_v_21.2.1 c9_v_21).1)
    refine lv_if_ne (tgt := 18) hx hb dX10_book_11 (by decide) (fun c_11 => ?_) (fun c_11 => ?_)
    · exact absurd (r_v_21.eq.trans rl_0.eq.symm) ((ti_ne c_11))
    · refine lv_sipush (v := (-1000)) hx hb dX10_book_14 (by decide) ?_
      subst hQ
      exact W.iret (v := (-1000)) hx hb hr (fun t ht hW => ⟨⟨(-1000), ws, rfl, ⟨⟨rl_m1000.to (by decide), (fun _ => trivial), (fun h0 => trivial), ⟨⟨fun h9 => absurd h9 x_IMG0_p1, fun _ => x_TLM_p0_gh⟩, trivial⟩, (fun _ => trivial), (fun _ => trivial)⟩, hw.1, hw.2.2.2.2.1⟩, by rw [ht]; exact hw.2.1, va_K.moved hW.alike hK, hw.2.2.1⟩, hw.2.2.2.1.F ht⟩) hw.2.2.2.1.2.2 dX10_book_17
  · have r_v_21 : RI v_21 1 1 := rc_neL r_v_21 rl_0 (ti_ne c9_v_21) (by decide)
    have r_p1 : RI p1 0 1 := ((hp_v_21.2.2 c9_v_21).1)
    have x_IMG1_p1 := ((hp_v_21.2.2 c9_v_21).2.1)
    refine lv_if_ne (tgt := 18) hx hb dX10_book_11 (by decide) (fun c_11 => ?_) (fun c_11 => ?_)
    · refine lv_aload_n hx hb dX10_book_18 rfl (lv_at hl 0 rfl) ?_
      refine lv_sipush (v := 400) hx hb dX10_book_19 (by decide) ?_
      refine tk_v (va_runV (As := [.int 400]) (rest := []) ⟨hx, hb, hml, hown, hts⟩ (c_X10_begin__8 l D cy z H.size Ps ws hw.1 p0 400 h_p0 rl_400) (cwV 1 hts (gV tw_1290 tw_1292 ts_38 tw_15 tw_1293) rfl rfl rfl (by decide +kernel) ⟨Nat.le_of_ble_eq_true rfl, Nat.le_of_ble_eq_true rfl⟩) (tg_preV hw hK hSD hA (ci := 10) (q := (RX10, TX10, 49)) rfl h_p0 rfl) rfl rfl hl.1 rfl (lv_room (Nat.le_of_ble_eq_true rfl)) dX10_book_22 ⟨Nat.le_of_ble_eq_true rfl, Nat.le_of_ble_eq_true rfl⟩) hw hA ⟨by decide, by decide⟩ (fun ws H locs hp_v_22 hw hF9 => ?_)
      obtain ⟨v_23, m_v_23, r_v_23⟩ := (hp_v_22.1)
      have x_TLM_p0_0 := (hp_v_22.2.1)
      have x_TLM_p0_0 : TLM ws p0 (0) := by obtain ⟨v9, a9, b9⟩ := x_TLM_p0_0; exact ⟨v9, a9, (by omega)⟩
      refine lv_aload_n hx hb dX10_book_25 rfl (lv_at hl 0 rfl) ?_
      refine lv_iconst (v := 0) hx hb dX10_book_26 (by decide) ?_
      refine tg_put (ci := 10) (ts := ty_MODEL) (v := .int 0) (ty := .int) (C := RX10) (T := TX10) (N := 49) hx hb hts inX10 tyX10 tyX10_ok nmX10 hown hK hw h_p0 rfl rfl 42 (by decide) (hts _ tw_1179) (fun _ h9 => h9) rfl (by decide +kernel) rfl rfl (ft := vI 0 40) rfl ⟨_, rfl, (rl_0.to (by decide))⟩ (by decide) dX10_book_27 (fun ws H locs hw n_k_24 hF9 => ?_)
      have m_v_23 := FLD.over hF9 m_v_23 (by decide)
      have x_TLM_p0_0 := TLM.over hF9 x_TLM_p0_0 (by decide)
      have x_LNS_p0 : LNS Ps ws p0 := ⟨_, n_k_24, AX.imp (lx_true hw h_p0) (fun f9 _ => fun j9 q9 => absurd q9 (by rw [Int32.toInt_zero]; omega))⟩
      exact B30 4294967298 v_23 0 ws _ _ ls (by have q0 := rl_0.1; have u0 := rl_0.2; omega) r_p1 r_v_23 m_v_23 (rl_0.to (by decide)) n_k_24 x_IMG1_p1 x_TLM_p0_0 x_LNS_p0 hw hl
    · have r_v_21 : RI v_21 1 0 := rc_eq1 r_v_21 rl_0 (ti_eq c_11) (by decide)
      exact (r_v_21.no (by decide)).elim
