/-! the lines of a book, in the reference -/
def GLk (f : Nat → Int32) (j : Nat) : Prop := (0 ≤ (f j).toInt ∧ (f j).toInt ≤ 6) ∧ ((f j).toInt = 6 ∨ (f (j + 1)).toInt ≤ 7) ∧ (f (j + 2)).toInt ≤ 5
def OLp (f : Nat → Int32) (a : Int32) : Prop := ∀ k : Nat, 3 * (k : Int) < a.toInt → GLk f (3 * k)
theorem OL_upd {f : Nat → Int32} {a v : Int32} {j : Nat} (h : OLp f a) (ha : ∃ n : Int, a.toInt = 3 * n) (hj : a.toInt ≤ j) : OLp (upd f j v) a := by
  intro k hk
  obtain ⟨n, hn⟩ := ha
  have e : ∀ i, i ≠ j → upd f j v i = f i := fun i hi => pk_un hi
  unfold GLk
  rw [e (3 * k) (by omega), e (3 * k + 1) (by omega), e (3 * k + 2) (by omega)]
  exact h k hk
def LNS (Ps : PSI) (ws : va_W) (m : Nat) : Prop := ∃ n : Int32, FLD ws m 10 42 (.int n) ∧ AX 40 52 (fun f => ∀ k : Nat, (k : Int) < n.toInt → GLk f (3 * k)) Ps ws m
theorem LNS.over {wr : List (Nat × Nat)} {wa : List Nat} {Ps : PSI} {ws ws' : va_W} {m : Nat} (h : FR wr wa Ps ws ws') (x : LNS Ps ws m) (hn : (10, 42) ∉ wr ∧ (10, 40) ∉ wr ∧ 52 ∉ wa) : LNS Ps ws' m := by
  obtain ⟨n, h1, h2⟩ := x
  exact ⟨n, FLD.over h h1 hn.1, AX.over h h2 hn.2⟩
def LNG (Ps : PSI) (ws : va_W) (m : Nat) : Prop := ∃ n : Int32, FLD ws m 10 42 (.int n) ∧ AX 40 52 (fun f => ∀ k : Nat, (k : Int) < n.toInt + 1 → GLk f (3 * k)) Ps ws m
theorem LNG.over {wr : List (Nat × Nat)} {wa : List Nat} {Ps : PSI} {ws ws' : va_W} {m : Nat} (h : FR wr wa Ps ws ws') (x : LNG Ps ws m) (hn : (10, 42) ∉ wr ∧ (10, 40) ∉ wr ∧ 52 ∉ wa) : LNG Ps ws' m := by
  obtain ⟨n, h1, h2⟩ := x
  exact ⟨n, FLD.over h h1 hn.1, AX.over h h2 hn.2⟩
section FACTS9
variable {s : State} {H : Heap} {locs : List Loc} {D : va_G} {cy : Nat → ClassId} {A : Nat → Prop} {ws w0 : va_W} {G : Nat → Nat → CTy} {Ps P0 : PSI} {wr : List (Nat × Nat)} {wa : List Nat} {m : Nat} {n a : Int32}
theorem LNS.ol (hw : WD D cy G A s wr wa P0 w0 Ps ws H locs) (x : LNS Ps ws m) (hn : FLD ws m 10 42 (.int n)) (e : a.toInt = 3 * n.toInt) : AX 40 52 (fun f => OLp f a) Ps ws m := by
  obtain ⟨n', h1, h2⟩ := x
  cases FLD.inj hw.2.2.1 h1 hn
  exact AX.imp h2 (fun f h k hk => h k (by omega))
theorem LNG.mk (hn : FLD ws m 10 42 (.int n)) (e : a.toInt = 3 * n.toInt) (h0 : 0 ≤ n.toInt) (x : AX 40 52 (fun f => OLp f a ∧ GLk f a.toNatClampNeg) Ps ws m) : LNG Ps ws m := by
  refine ⟨n, hn, AX.imp x (fun f h k hk => ?_)⟩
  by_cases c : 3 * (k : Int) < a.toInt
  · exact h.1 k c
  · have e0 : a.toNatClampNeg = a.toInt.toNat := rfl
    rw [show 3 * k = a.toNatClampNeg by omega]
    exact h.2
theorem LNS.gl (hw : WD D cy G A s wr wa P0 w0 Ps ws H locs) (x : LNS Ps ws m) (hn : FLD ws m 10 42 (.int n)) {k : Int32} (h0 : 0 ≤ k.toInt) (hk : k.toInt < n.toInt) (e : a.toInt = 3 * k.toInt) : AX 40 52 (fun f => GLk f a.toNatClampNeg) Ps ws m := by
  obtain ⟨n', h1, h2⟩ := x
  cases FLD.inj hw.2.2.1 h1 hn
  refine AX.imp h2 (fun f h => ?_)
  have e0 : a.toNatClampNeg = a.toInt.toNat := rfl
  have := h k.toInt.toNat (by omega)
  rw [show 3 * k.toInt.toNat = a.toNatClampNeg by omega] at this
  exact this
theorem LNG.get (hw : WD D cy G A s wr wa P0 w0 Ps ws H locs) (x : LNG Ps ws m) (hn : FLD ws m 10 42 (.int n)) : AX 40 52 (fun f => ∀ k : Nat, (k : Int) < n.toInt + 1 → GLk f (3 * k)) Ps ws m := by
  obtain ⟨n', h1, h2⟩ := x
  cases FLD.inj hw.2.2.1 h1 hn
  exact h2
end FACTS9
def WRD (ws : va_W) (m : Nat) (v : Int) : Prop := ∃ w : Int64, FLD ws m 10 12 (.long w) ∧ w.toInt = v
theorem WRD.over {wr : List (Nat × Nat)} {wa : List Nat} {Ps : PSI} {ws ws' : va_W} {m : Nat} {v : Int} (h : FR wr wa Ps ws ws') (x : WRD ws m v) (hn : (10, 12) ∉ wr) : WRD ws' m v := by
  obtain ⟨w, h1, h2⟩ := x
  exact ⟨w, FLD.over h h1 hn, h2⟩
theorem WRD.no {s : State} {H : Heap} {locs : List Loc} {D : va_G} {cy : Nat → ClassId} {A : Nat → Prop} {ws w0 : va_W} {G : Nat → Nat → CTy} {Ps P0 : PSI} {wr : List (Nat × Nat)} {wa : List Nat} {m : Nat} {u v : Int} (hw : WD D cy G A s wr wa P0 w0 Ps ws H locs) (x : WRD ws m u) (y : WRD ws m v) (h : u ≠ v) : False := by
  obtain ⟨w, h1, h2⟩ := x
  obtain ⟨w', h3, h4⟩ := y
  cases FLD.inj hw.2.2.1 h1 h3
  exact h (h2.symm.trans h4)
abbrev wr_X10_why__6 : List (Nat × Nat) := []
abbrev wa_X10_why__6 : List Nat := []
set_option maxHeartbeats 4000000 in
set_option maxRecDepth 100000 in
theorem c_X10_why__6 (l : Launch) (D : va_G) (cy : Nat → ClassId) (z : Nat → Nat) (sz : Nat) (Ps : PSI) (w0 : va_W) (hT : HT cy GG Ps w0) (p0 : Nat) (p1 : Int32) (p2 : Int32) (p3 : Int32) (h_p0 : (p0, 55) ∈ Ps) (r_p1 : RI p1 1 1) (r_p2 : RI p2 0 7) (r_p3 : RI p3 0 5) : Met l yX10_why (Cond.code yX10_why cX10_why 4 (some .int) :: gT) ({ frames := 0, cells := 0, slots := 0, locals := 200 } : Room) (va_Pc [.ref p0, .int p1, .int p2, .int p3] (PRE D cy z w0 sz)) (va_Qi (fun (r : Int32) (u : Unit) => RI r 0 1 ∧ (r = 0 → True) ∧ (¬ r = 0 → True)) (BB D cy (va_A w0 sz) (fun (u : Unit) => w0)) (va_A w0 sz)) 0 0 (va_A w0 sz) := by
  refine Met.ofW (cc := cX10_why) (maxL := 4) (ret := (some .int)) (by decide) rfl ?_
  intro p e s m args below meth c s₁ B hml hv
  obtain ⟨rfl, hsz, hP, hK, hD0, hSD⟩ := hv
  have hx := B.exec
  have hb := B.bytes
  have hr := B.returns
  have hlocks := B.notSynchronized
  have hts : ∀ w ∈ gT, w.before _ s = true := fun w h => atoms_spec (ws := Cond.code yX10_why cX10_why 4 (some .int) :: gT) B.pre w (List.mem_cons_of_mem _ h)
  have hown : s.vm.findClass RX10 = some m.cls := findClass_of_methodNamed B.named
  subst hsz
  have hD := hD0.self (sz := s.heap.size)
  generalize hAe : va_A w0 s.heap.size = A at hD hSD ⊢
  have hA : ∀ q : Nat, s.heap.size ≤ q → A q := fun q h => by rw [← hAe]; exact Or.inr h
  have hl := lv_entry ([.ref p0, .int p1, .int p2, .int p3]) (n := 4) (Nat.le_of_ble_eq_true rfl)
  rw [lg_entry_eq]
  generalize (lg_sl ([.ref p0, .int p1, .int p2, .int p3]) ++ List.replicate (4 - (lg_sl ([.ref p0, .int p1, .int p2, .int p3])).length) Slot.unset).toArray = ls at hl ⊢
  have hl : lv_has ls 4 [(0, .ref p0), (1, .int p1), (2, .int p2), (3, .int p3)] := hl
  refine nameQ (fun Q hQ => ?_)
  have hw : WD D cy GG A s wr_X10_why__6 wa_X10_why__6 Ps w0 Ps w0 s.heap [] := ⟨hT, hP, hD, va_S.rf, FR.rf, hT.1, [], (List.append_nil _).symm⟩
  refine lv_iload_n hx hb dX10_why_0 rfl (lv_at hl 1 rfl) ?_
  have w_1 := r_p1
  by_cases cl_1 : p1.toInt < 0 ∨ 4 < p1.toInt
  · refine lv_tableOut (tgt := 146) hx hb dX10_why_1 cl_1 (by decide) ?_
    exact absurd cl_1 (by unfold RI at w_1; omega)
  · have e_1 : p1.toInt = 0 ∨ p1.toInt = 1 ∨ p1.toInt = 2 ∨ p1.toInt = 3 ∨ p1.toInt = 4 := by omega
    rcases e_1 with h_1 | h_1 | h_1 | h_1 | h_1
    · exact absurd h_1 (by unfold RI at w_1; omega)
    · refine lv_tableIn (tgt := 55) (off := 54) hx hb dX10_why_1 (by omega) (by omega) (by rw [h_1]; rfl) (by decide) ?_
      have r_p1 : RI p1 1 1 := ⟨by omega, by omega⟩
      refine lv_aload_n hx hb dX10_why_55 rfl (lv_at hl 0 rfl) ?_
      refine tg_get (ci := 10) (ts := ty_MODEL) (C := RX10) (T := TX10) (N := 49) hx hb hts inX10 hown hK hw h_p0 rfl rfl 14 (by decide) (hts _ tw_1151) (fun _ h9 => h9) (ft := vR 34) rfl dX10_why_56 (fun u_1 hv_u_1 m_u_1 => ?_)
      obtain ⟨vu_1, rfl, h_vu_1⟩ := hv_u_1
      refine lv_bipush (v := 112) hx hb dX10_why_59 (by decide) ?_
      refine lv_iload_n hx hb dX10_why_61 rfl (lv_at hl 2 rfl) ?_
      refine lv_iadd hx hb dX10_why_62 (lv_topi (fun v_2 e_v_2 => ?_))
      obtain ⟨t_v_2, r_v_2⟩ := tq_add (lo := 112) (hi := 119) rl_112 r_p2 (by decide +kernel) e_v_2
      have t_v_2 : v_2.toInt = 112 + p2.toInt := t_v_2
      refine tg_iald (lo := (-1)) (hi := 5) hx hb hK hw h_vu_1 rfl 112 119 r_v_2 (by decide) (by decide +kernel) dX10_why_63 (fun v_3 r_v_3 m_v_3 o_v_3 => ?_)
      refine lv_iconst (v := (-1)) hx hb dX10_why_64 (by decide) ?_
      refine lv_icmp_ne (tgt := 72) hx hb dX10_why_65 (by decide) (fun c_65 => ?_) (fun c_65 => ?_)
      · have r_v_3 : RI v_3 0 5 := rc_neL r_v_3 rl_m1 (ti_ne c_65) (by decide)
        refine lv_iconst (v := 0) hx hb dX10_why_72 (by decide) ?_
        subst hQ
        exact W.iret (v := 0) hx hb hr (fun t ht hW => ⟨⟨0, (), rfl, ⟨rl_0.to (by decide), (fun h0 => trivial), (fun _ => trivial)⟩, by rw [ht]; exact hw.2.1, va_K.moved hW.alike hK, hw.2.2.1⟩, hw.2.2.2.1.F ht⟩) hw.2.2.2.1.2.2 dX10_why_73
      · have r_v_3 : RI v_3 (-1) (-1) := rc_eq1 r_v_3 rl_m1 (ti_eq c_65) (by decide)
        refine lv_iconst (v := 1) hx hb dX10_why_68 (by decide) ?_
        refine lv_goto (tgt := 73) hx hb dX10_why_69 (by decide) ?_
        subst hQ
        exact W.iret (v := 1) hx hb hr (fun t ht hW => ⟨⟨1, (), rfl, ⟨rl_1.to (by decide), (fun _ => trivial), (fun h0 => trivial)⟩, by rw [ht]; exact hw.2.1, va_K.moved hW.alike hK, hw.2.2.1⟩, hw.2.2.2.1.F ht⟩) hw.2.2.2.1.2.2 dX10_why_73
    · exact absurd h_1 (by unfold RI at w_1; omega)
    · exact absurd h_1 (by unfold RI at w_1; omega)
    · exact absurd h_1 (by unfold RI at w_1; omega)
abbrev wr_X10_live__6 : List (Nat × Nat) := []
abbrev wa_X10_live__6 : List Nat := [34]
set_option maxHeartbeats 4000000 in
set_option maxRecDepth 100000 in
theorem c_X10_live__6 (l : Launch) (D : va_G) (cy : Nat → ClassId) (z : Nat → Nat) (sz : Nat) (Ps : PSI) (w0 : va_W) (hT : HT cy GG Ps w0) (p0 : Nat) (p1 : Int32) (p2 : Int32) (p3 : Int32) (h_p0 : (p0, 55) ∈ Ps) (r_p1 : RI p1 1 1) (r_p2 : RI p2 0 7) (r_p3 : RI p3 0 5) : Met l yX10_live (Cond.code yX10_live cX10_live 4 none :: gT) ({ frames := 0, cells := 0, slots := 0, locals := 200 } : Room) (va_Pc [.ref p0, .int p1, .int p2, .int p3] (PRE D cy z w0 sz)) (va_Qv (fun (u : va_W) => (True) ∧ HT cy GG Ps u ∧ FR wr_X10_live__6 wa_X10_live__6 Ps w0 u) (BB D cy (va_A w0 sz) (fun (u : va_W) => u)) (va_A w0 sz)) 0 0 (va_A w0 sz) := by
  refine Met.ofW (cc := cX10_live) (maxL := 4) (ret := none) (by decide) rfl ?_
  intro p e s m args below meth c s₁ B hml hv
  obtain ⟨rfl, hsz, hP, hK, hD0, hSD⟩ := hv
  have hx := B.exec
  have hb := B.bytes
  have hr := B.returns
  have hlocks := B.notSynchronized
  have hts : ∀ w ∈ gT, w.before _ s = true := fun w h => atoms_spec (ws := Cond.code yX10_live cX10_live 4 none :: gT) B.pre w (List.mem_cons_of_mem _ h)
  have hown : s.vm.findClass RX10 = some m.cls := findClass_of_methodNamed B.named
  subst hsz
  have hD := hD0.self (sz := s.heap.size)
  generalize hAe : va_A w0 s.heap.size = A at hD hSD ⊢
  have hA : ∀ q : Nat, s.heap.size ≤ q → A q := fun q h => by rw [← hAe]; exact Or.inr h
  have hl := lv_entry ([.ref p0, .int p1, .int p2, .int p3]) (n := 4) (Nat.le_of_ble_eq_true rfl)
  rw [lg_entry_eq]
  generalize (lg_sl ([.ref p0, .int p1, .int p2, .int p3]) ++ List.replicate (4 - (lg_sl ([.ref p0, .int p1, .int p2, .int p3])).length) Slot.unset).toArray = ls at hl ⊢
  have hl : lv_has ls 4 [(0, .ref p0), (1, .int p1), (2, .int p2), (3, .int p3)] := hl
  refine nameQ (fun Q hQ => ?_)
  have hw : WD D cy GG A s wr_X10_live__6 wa_X10_live__6 Ps w0 Ps w0 s.heap [] := ⟨hT, hP, hD, va_S.rf, FR.rf, hT.1, [], (List.append_nil _).symm⟩
  refine lv_iload_n hx hb dX10_live_0 rfl (lv_at hl 1 rfl) ?_
  have w_1 := r_p1
  by_cases cl_1 : p1.toInt < 0 ∨ 4 < p1.toInt
  · refine lv_tableOut (tgt := 90) hx hb dX10_live_1 cl_1 (by decide) ?_
    exact absurd cl_1 (by unfold RI at w_1; omega)
  · have e_1 : p1.toInt = 0 ∨ p1.toInt = 1 ∨ p1.toInt = 2 ∨ p1.toInt = 3 ∨ p1.toInt = 4 := by omega
    rcases e_1 with h_1 | h_1 | h_1 | h_1 | h_1
    · exact absurd h_1 (by unfold RI at w_1; omega)
    · refine lv_tableIn (tgt := 47) (off := 46) hx hb dX10_live_1 (by omega) (by omega) (by rw [h_1]; rfl) (by decide) ?_
      have r_p1 : RI p1 1 1 := ⟨by omega, by omega⟩
      refine lv_aload_n hx hb dX10_live_47 rfl (lv_at hl 0 rfl) ?_
      refine tg_get (ci := 10) (ts := ty_MODEL) (C := RX10) (T := TX10) (N := 49) hx hb hts inX10 hown hK hw h_p0 rfl rfl 14 (by decide) (hts _ tw_1151) (fun _ h9 => h9) (ft := vR 34) rfl dX10_live_48 (fun u_1 hv_u_1 m_u_1 => ?_)
      obtain ⟨vu_1, rfl, h_vu_1⟩ := hv_u_1
      refine lv_bipush (v := 112) hx hb dX10_live_51 (by decide) ?_
      refine lv_iload_n hx hb dX10_live_53 rfl (lv_at hl 2 rfl) ?_
      refine lv_iadd hx hb dX10_live_54 (lv_topi (fun v_2 e_v_2 => ?_))
      obtain ⟨t_v_2, r_v_2⟩ := tq_add (lo := 112) (hi := 119) rl_112 r_p2 (by decide +kernel) e_v_2
      have t_v_2 : v_2.toInt = 112 + p2.toInt := t_v_2
      refine lv_iconst (v := (-1)) hx hb dX10_live_55 (by decide) ?_
      refine tg_iast hx hb hK hw h_vu_1 rfl 112 119 r_v_2 (by decide) rl_m1 (by decide +kernel) (RN_upd (by decide) (by decide)) (by decide) dX10_live_56 (fun ws H locs hw hF9 hU9 => ?_)
      subst hQ
      exact W.vret hx hb hr (fun t ht hW => ⟨⟨ws, rfl, ⟨trivial, hw.1, hw.2.2.2.2.1⟩, by rw [ht]; exact hw.2.1, va_K.moved hW.alike hK, hw.2.2.1⟩, hw.2.2.2.1.F ht⟩) hw.2.2.2.1.2.2 dX10_live_57
    · exact absurd h_1 (by unfold RI at w_1; omega)
    · exact absurd h_1 (by unfold RI at w_1; omega)
    · exact absurd h_1 (by unfold RI at w_1; omega)
abbrev wr_X10_why__7 : List (Nat × Nat) := []
abbrev wa_X10_why__7 : List Nat := []
set_option maxHeartbeats 4000000 in
set_option maxRecDepth 100000 in
theorem c_X10_why__7 (l : Launch) (D : va_G) (cy : Nat → ClassId) (z : Nat → Nat) (sz : Nat) (Ps : PSI) (w0 : va_W) (hT : HT cy GG Ps w0) (p0 : Nat) (p1 : Int32) (p2 : Int32) (p3 : Int32) (h_p0 : (p0, 55) ∈ Ps) (r_p1 : RI p1 4 4) (r_p2 : RI p2 0 7) (r_p3 : RI p3 0 5) : Met l yX10_why (Cond.code yX10_why cX10_why 4 (some .int) :: gT) ({ frames := 3, cells := 0, slots := 0, locals := 600 } : Room) (va_Pc [.ref p0, .int p1, .int p2, .int p3] (PRE D cy z w0 sz)) (va_Qi (fun (r : Int32) (u : Unit) => RI r 0 1 ∧ (r = 0 → True) ∧ (¬ r = 0 → True)) (BB D cy (va_A w0 sz) (fun (u : Unit) => w0)) (va_A w0 sz)) 0 0 (va_A w0 sz) := by
  refine Met.ofW (cc := cX10_why) (maxL := 4) (ret := (some .int)) (by decide) rfl ?_
  intro p e s m args below meth c s₁ B hml hv
  obtain ⟨rfl, hsz, hP, hK, hD0, hSD⟩ := hv
  have hx := B.exec
  have hb := B.bytes
  have hr := B.returns
  have hlocks := B.notSynchronized
  have hts : ∀ w ∈ gT, w.before _ s = true := fun w h => atoms_spec (ws := Cond.code yX10_why cX10_why 4 (some .int) :: gT) B.pre w (List.mem_cons_of_mem _ h)
  have hown : s.vm.findClass RX10 = some m.cls := findClass_of_methodNamed B.named
  subst hsz
  have hD := hD0.self (sz := s.heap.size)
  generalize hAe : va_A w0 s.heap.size = A at hD hSD ⊢
  have hA : ∀ q : Nat, s.heap.size ≤ q → A q := fun q h => by rw [← hAe]; exact Or.inr h
  have hl := lv_entry ([.ref p0, .int p1, .int p2, .int p3]) (n := 4) (Nat.le_of_ble_eq_true rfl)
  rw [lg_entry_eq]
  generalize (lg_sl ([.ref p0, .int p1, .int p2, .int p3]) ++ List.replicate (4 - (lg_sl ([.ref p0, .int p1, .int p2, .int p3])).length) Slot.unset).toArray = ls at hl ⊢
  have hl : lv_has ls 4 [(0, .ref p0), (1, .int p1), (2, .int p2), (3, .int p3)] := hl
  refine nameQ (fun Q hQ => ?_)
  have hw : WD D cy GG A s wr_X10_why__7 wa_X10_why__7 Ps w0 Ps w0 s.heap [] := ⟨hT, hP, hD, va_S.rf, FR.rf, hT.1, [], (List.append_nil _).symm⟩
  refine lv_iload_n hx hb dX10_why_0 rfl (lv_at hl 1 rfl) ?_
  have w_1 := r_p1
  by_cases cl_1 : p1.toInt < 0 ∨ 4 < p1.toInt
  · refine lv_tableOut (tgt := 146) hx hb dX10_why_1 cl_1 (by decide) ?_
    exact absurd cl_1 (by unfold RI at w_1; omega)
  · have e_1 : p1.toInt = 0 ∨ p1.toInt = 1 ∨ p1.toInt = 2 ∨ p1.toInt = 3 ∨ p1.toInt = 4 := by omega
    rcases e_1 with h_1 | h_1 | h_1 | h_1 | h_1
    · exact absurd h_1 (by unfold RI at w_1; omega)
    · exact absurd h_1 (by unfold RI at w_1; omega)
    · exact absurd h_1 (by unfold RI at w_1; omega)
    · exact absurd h_1 (by unfold RI at w_1; omega)
    · refine lv_tableIn (tgt := 132) (off := 131) hx hb dX10_why_1 (by omega) (by omega) (by rw [h_1]; rfl) (by decide) ?_
      have r_p1 : RI p1 4 4 := ⟨by omega, by omega⟩
      refine lv_aload_n hx hb dX10_why_132 rfl (lv_at hl 0 rfl) ?_
      refine lv_iload_n hx hb dX10_why_133 rfl (lv_at hl 2 rfl) ?_
      refine tk_ir (va_runV (As := [.int p2]) (rest := []) ⟨hx, hb, hml, hown, hts⟩ (c_X10_isOpen l D cy z s.heap.size Ps w0 hw.1 p0 p2 h_p0 (r_p2.to (by decide))) (cwV 1 hts (gV tw_1457 tw_1459 ts_71 tw_15 tw_1460) rfl rfl rfl (by decide +kernel) ⟨Nat.le_of_ble_eq_true rfl, Nat.le_of_ble_eq_true rfl⟩) (tg_preV hw hK hSD hA (ci := 10) (q := (RX10, TX10, 49)) rfl h_p0 rfl) rfl rfl hl.1 rfl (lv_room (Nat.le_of_ble_eq_true rfl)) dX10_why_134 ⟨Nat.le_of_ble_eq_true rfl, Nat.le_of_ble_eq_true rfl⟩) hw hA (fun v_1  H locs hp_v_1 hw => ?_)
      have r_v_1 : RI v_1 0 1 := hp_v_1.1
      refine lv_if_eq (tgt := 144) hx hb dX10_why_137 (by decide) (fun c_137 => ?_) (fun c_137 => ?_)
      · have r_v_1 : RI v_1 0 0 := rc_eq1 r_v_1 rl_0 (ti_eq c_137) (by decide)
        refine lv_iconst (v := 0) hx hb dX10_why_144 (by decide) ?_
        subst hQ
        exact W.iret (v := 0) hx hb hr (fun t ht hW => ⟨⟨0, (), rfl, ⟨rl_0.to (by decide), (fun h0 => trivial), (fun _ => trivial)⟩, by rw [ht]; exact hw.2.1, va_K.moved hW.alike hK, hw.2.2.1⟩, hw.2.2.2.1.F ht⟩) hw.2.2.2.1.2.2 dX10_why_145
      · have r_v_1 : RI v_1 1 1 := rc_neL r_v_1 rl_0 (ti_ne c_137) (by decide)
        refine lv_iconst (v := 1) hx hb dX10_why_140 (by decide) ?_
        refine lv_goto (tgt := 145) hx hb dX10_why_141 (by decide) ?_
        subst hQ
        exact W.iret (v := 1) hx hb hr (fun t ht hW => ⟨⟨1, (), rfl, ⟨rl_1.to (by decide), (fun _ => trivial), (fun h0 => trivial)⟩, by rw [ht]; exact hw.2.1, va_K.moved hW.alike hK, hw.2.2.1⟩, hw.2.2.2.1.F ht⟩) hw.2.2.2.1.2.2 dX10_why_145
abbrev wr_X10_live__7 : List (Nat × Nat) := []
abbrev wa_X10_live__7 : List Nat := [34]
set_option maxHeartbeats 4000000 in
set_option maxRecDepth 100000 in
theorem c_X10_live__7 (l : Launch) (D : va_G) (cy : Nat → ClassId) (z : Nat → Nat) (sz : Nat) (Ps : PSI) (w0 : va_W) (hT : HT cy GG Ps w0) (p0 : Nat) (p1 : Int32) (p2 : Int32) (p3 : Int32) (h_p0 : (p0, 55) ∈ Ps) (r_p1 : RI p1 4 4) (r_p2 : RI p2 0 7) (r_p3 : RI p3 0 5) : Met l yX10_live (Cond.code yX10_live cX10_live 4 none :: gT) ({ frames := 0, cells := 0, slots := 0, locals := 200 } : Room) (va_Pc [.ref p0, .int p1, .int p2, .int p3] (PRE D cy z w0 sz)) (va_Qv (fun (u : va_W) => (True) ∧ HT cy GG Ps u ∧ FR wr_X10_live__7 wa_X10_live__7 Ps w0 u) (BB D cy (va_A w0 sz) (fun (u : va_W) => u)) (va_A w0 sz)) 0 0 (va_A w0 sz) := by
  refine Met.ofW (cc := cX10_live) (maxL := 4) (ret := none) (by decide) rfl ?_
  intro p e s m args below meth c s₁ B hml hv
  obtain ⟨rfl, hsz, hP, hK, hD0, hSD⟩ := hv
  have hx := B.exec
  have hb := B.bytes
  have hr := B.returns
  have hlocks := B.notSynchronized
  have hts : ∀ w ∈ gT, w.before _ s = true := fun w h => atoms_spec (ws := Cond.code yX10_live cX10_live 4 none :: gT) B.pre w (List.mem_cons_of_mem _ h)
  have hown : s.vm.findClass RX10 = some m.cls := findClass_of_methodNamed B.named
  subst hsz
  have hD := hD0.self (sz := s.heap.size)
  generalize hAe : va_A w0 s.heap.size = A at hD hSD ⊢
  have hA : ∀ q : Nat, s.heap.size ≤ q → A q := fun q h => by rw [← hAe]; exact Or.inr h
  have hl := lv_entry ([.ref p0, .int p1, .int p2, .int p3]) (n := 4) (Nat.le_of_ble_eq_true rfl)
  rw [lg_entry_eq]
  generalize (lg_sl ([.ref p0, .int p1, .int p2, .int p3]) ++ List.replicate (4 - (lg_sl ([.ref p0, .int p1, .int p2, .int p3])).length) Slot.unset).toArray = ls at hl ⊢
  have hl : lv_has ls 4 [(0, .ref p0), (1, .int p1), (2, .int p2), (3, .int p3)] := hl
  refine nameQ (fun Q hQ => ?_)
  have hw : WD D cy GG A s wr_X10_live__7 wa_X10_live__7 Ps w0 Ps w0 s.heap [] := ⟨hT, hP, hD, va_S.rf, FR.rf, hT.1, [], (List.append_nil _).symm⟩
  refine lv_iload_n hx hb dX10_live_0 rfl (lv_at hl 1 rfl) ?_
  have w_1 := r_p1
  by_cases cl_1 : p1.toInt < 0 ∨ 4 < p1.toInt
  · refine lv_tableOut (tgt := 90) hx hb dX10_live_1 cl_1 (by decide) ?_
    exact absurd cl_1 (by unfold RI at w_1; omega)
  · have e_1 : p1.toInt = 0 ∨ p1.toInt = 1 ∨ p1.toInt = 2 ∨ p1.toInt = 3 ∨ p1.toInt = 4 := by omega
    rcases e_1 with h_1 | h_1 | h_1 | h_1 | h_1
    · exact absurd h_1 (by unfold RI at w_1; omega)
    · exact absurd h_1 (by unfold RI at w_1; omega)
    · exact absurd h_1 (by unfold RI at w_1; omega)
    · exact absurd h_1 (by unfold RI at w_1; omega)
    · refine lv_tableIn (tgt := 76) (off := 75) hx hb dX10_live_1 (by omega) (by omega) (by rw [h_1]; rfl) (by decide) ?_
      have r_p1 : RI p1 4 4 := ⟨by omega, by omega⟩
      refine lv_aload_n hx hb dX10_live_76 rfl (lv_at hl 0 rfl) ?_
      refine tg_get (ci := 10) (ts := ty_MODEL) (C := RX10) (T := TX10) (N := 49) hx hb hts inX10 hown hK hw h_p0 rfl rfl 14 (by decide) (hts _ tw_1151) (fun _ h9 => h9) (ft := vR 34) rfl dX10_live_77 (fun u_1 hv_u_1 m_u_1 => ?_)
      obtain ⟨vu_1, rfl, h_vu_1⟩ := hv_u_1
      refine lv_bipush (v := 85) hx hb dX10_live_80 (by decide) ?_
      refine lv_dup2_11 hx hb dX10_live_82 rfl rfl ?_
      refine tg_iald (lo := (-2147483648)) (hi := 2147483647) hx hb hK hw h_vu_1 rfl 85 85 rl_85 (by decide) (by decide +kernel) dX10_live_83 (fun v_2 r_v_2 m_v_2 o_v_2 => ?_)
      refine lv_iconst (v := 1) hx hb dX10_live_84 (by decide) ?_
      refine lv_iload_n hx hb dX10_live_85 rfl (lv_at hl 2 rfl) ?_
      refine lv_ishl hx hb dX10_live_86 (lv_topi (fun v_3 e_v_3 => ?_))
      have r_v_3 : RI v_3 1 256 := by rw [e_v_3]; exact ri_shl1 (r_p2.to (c := 0) (d := 7) (by decide)) (by decide)
      refine lv_ior hx hb dX10_live_87 (lv_topi (fun v_4 e_v_4 => ?_))
      have r_v_4 := ri_any v_4
      refine tg_iast hx hb hK hw h_vu_1 rfl 85 85 rl_85 (by decide) r_v_4 (by decide +kernel) (RN_upd (by decide) (by decide)) (by decide) dX10_live_88 (fun ws H locs hw hF9 hU9 => ?_)
      subst hQ
      exact W.vret hx hb hr (fun t ht hW => ⟨⟨ws, rfl, ⟨trivial, hw.1, hw.2.2.2.2.1⟩, by rw [ht]; exact hw.2.1, va_K.moved hW.alike hK, hw.2.2.1⟩, hw.2.2.2.1.F ht⟩) hw.2.2.2.1.2.2 dX10_live_89
abbrev wr_X10_why__8 : List (Nat × Nat) := []
abbrev wa_X10_why__8 : List Nat := []
set_option maxHeartbeats 4000000 in
set_option maxRecDepth 100000 in
theorem c_X10_why__8 (l : Launch) (D : va_G) (cy : Nat → ClassId) (z : Nat → Nat) (sz : Nat) (Ps : PSI) (w0 : va_W) (hT : HT cy GG Ps w0) (p0 : Nat) (p1 : Int32) (p2 : Int32) (p3 : Int32) (h_p0 : (p0, 55) ∈ Ps) (r_p1 : RI p1 5 5) (r_p2 : RI p2 0 7) (r_p3 : RI p3 0 5) : Met l yX10_why (Cond.code yX10_why cX10_why 4 (some .int) :: gT) ({ frames := 3, cells := 0, slots := 0, locals := 600 } : Room) (va_Pc [.ref p0, .int p1, .int p2, .int p3] (PRE D cy z w0 sz)) (va_Qi (fun (r : Int32) (u : Unit) => RI r 0 2 ∧ (r = 0 → True) ∧ (¬ r = 0 → True)) (BB D cy (va_A w0 sz) (fun (u : Unit) => w0)) (va_A w0 sz)) 0 0 (va_A w0 sz) := by
  refine Met.ofW (cc := cX10_why) (maxL := 4) (ret := (some .int)) (by decide) rfl ?_
  intro p e s m args below meth c s₁ B hml hv
  obtain ⟨rfl, hsz, hP, hK, hD0, hSD⟩ := hv
  have hx := B.exec
  have hb := B.bytes
  have hr := B.returns
  have hlocks := B.notSynchronized
  have hts : ∀ w ∈ gT, w.before _ s = true := fun w h => atoms_spec (ws := Cond.code yX10_why cX10_why 4 (some .int) :: gT) B.pre w (List.mem_cons_of_mem _ h)
  have hown : s.vm.findClass RX10 = some m.cls := findClass_of_methodNamed B.named
  subst hsz
  have hD := hD0.self (sz := s.heap.size)
  generalize hAe : va_A w0 s.heap.size = A at hD hSD ⊢
  have hA : ∀ q : Nat, s.heap.size ≤ q → A q := fun q h => by rw [← hAe]; exact Or.inr h
  have hl := lv_entry ([.ref p0, .int p1, .int p2, .int p3]) (n := 4) (Nat.le_of_ble_eq_true rfl)
  rw [lg_entry_eq]
  generalize (lg_sl ([.ref p0, .int p1, .int p2, .int p3]) ++ List.replicate (4 - (lg_sl ([.ref p0, .int p1, .int p2, .int p3])).length) Slot.unset).toArray = ls at hl ⊢
  have hl : lv_has ls 4 [(0, .ref p0), (1, .int p1), (2, .int p2), (3, .int p3)] := hl
  refine nameQ (fun Q hQ => ?_)
  have hw : WD D cy GG A s wr_X10_why__8 wa_X10_why__8 Ps w0 Ps w0 s.heap [] := ⟨hT, hP, hD, va_S.rf, FR.rf, hT.1, [], (List.append_nil _).symm⟩
  refine lv_iload_n hx hb dX10_why_0 rfl (lv_at hl 1 rfl) ?_
  have w_1 := r_p1
  by_cases cl_1 : p1.toInt < 0 ∨ 4 < p1.toInt
  · refine lv_tableOut (tgt := 146) hx hb dX10_why_1 cl_1 (by decide) ?_
    refine lv_aload_n hx hb dX10_why_146 rfl (lv_at hl 0 rfl) ?_
    refine lv_iload_n hx hb dX10_why_147 rfl (lv_at hl 2 rfl) ?_
    refine tk_ir (va_runV (As := [.int p2]) (rest := []) ⟨hx, hb, hml, hown, hts⟩ (c_X10_isOpen l D cy z s.heap.size Ps w0 hw.1 p0 p2 h_p0 (r_p2.to (by decide))) (cwV 1 hts (gV tw_1457 tw_1459 ts_71 tw_15 tw_1460) rfl rfl rfl (by decide +kernel) ⟨Nat.le_of_ble_eq_true rfl, Nat.le_of_ble_eq_true rfl⟩) (tg_preV hw hK hSD hA (ci := 10) (q := (RX10, TX10, 49)) rfl h_p0 rfl) rfl rfl hl.1 rfl (lv_room (Nat.le_of_ble_eq_true rfl)) dX10_why_148 ⟨Nat.le_of_ble_eq_true rfl, Nat.le_of_ble_eq_true rfl⟩) hw hA (fun v_1  H locs hp_v_1 hw => ?_)
    have r_v_1 : RI v_1 0 1 := hp_v_1.1
    refine lv_if_eq (tgt := 158) hx hb dX10_why_151 (by decide) (fun c_151 => ?_) (fun c_151 => ?_)
    · have r_v_1 : RI v_1 0 0 := rc_eq1 r_v_1 rl_0 (ti_eq c_151) (by decide)
      refine lv_aload_n hx hb dX10_why_158 rfl (lv_at hl 0 rfl) ?_
      refine tg_get (ci := 10) (ts := ty_MODEL) (C := RX10) (T := TX10) (N := 49) hx hb hts inX10 hown hK hw h_p0 rfl rfl 14 (by decide) (hts _ tw_1151) (fun _ h9 => h9) (ft := vR 34) rfl dX10_why_159 (fun u_2 hv_u_2 m_u_2 => ?_)
      obtain ⟨vu_2, rfl, h_vu_2⟩ := hv_u_2
      refine lv_bipush (v := 86) hx hb dX10_why_162 (by decide) ?_
      refine lv_iload_n hx hb dX10_why_164 rfl (lv_at hl 2 rfl) ?_
      refine lv_iadd hx hb dX10_why_165 (lv_topi (fun v_3 e_v_3 => ?_))
      obtain ⟨t_v_3, r_v_3⟩ := tq_add (lo := 86) (hi := 93) rl_86 r_p2 (by decide +kernel) e_v_3
      have t_v_3 : v_3.toInt = 86 + p2.toInt := t_v_3
      refine tg_iald (lo := (-2147483648)) (hi := 2147483647) hx hb hK hw h_vu_2 rfl 86 93 r_v_3 (by decide) (by decide +kernel) dX10_why_166 (fun v_4 r_v_4 m_v_4 o_v_4 => ?_)
      refine lv_iload_n hx hb dX10_why_167 rfl (lv_at hl 3 rfl) ?_
      refine lv_icmp_ne (tgt := 175) hx hb dX10_why_168 (by decide) (fun c_168 => ?_) (fun c_168 => ?_)
      · refine lv_iconst (v := 0) hx hb dX10_why_175 (by decide) ?_
        subst hQ
        exact W.iret (v := 0) hx hb hr (fun t ht hW => ⟨⟨0, (), rfl, ⟨rl_0.to (by decide), (fun h0 => trivial), (fun _ => trivial)⟩, by rw [ht]; exact hw.2.1, va_K.moved hW.alike hK, hw.2.2.1⟩, hw.2.2.2.1.F ht⟩) hw.2.2.2.1.2.2 dX10_why_176
      · have r_v_4 : RI v_4 0 5 := rc_eq1 r_v_4 r_p3 (ti_eq c_168) (by decide)
        refine lv_iconst (v := 2) hx hb dX10_why_171 (by decide) ?_
        refine lv_goto (tgt := 176) hx hb dX10_why_172 (by decide) ?_
        subst hQ
        exact W.iret (v := 2) hx hb hr (fun t ht hW => ⟨⟨2, (), rfl, ⟨rl_2.to (by decide), (fun _ => trivial), (fun h0 => trivial)⟩, by rw [ht]; exact hw.2.1, va_K.moved hW.alike hK, hw.2.2.1⟩, hw.2.2.2.1.F ht⟩) hw.2.2.2.1.2.2 dX10_why_176
    · have r_v_1 : RI v_1 1 1 := rc_neL r_v_1 rl_0 (ti_ne c_151) (by decide)
      refine lv_iconst (v := 1) hx hb dX10_why_154 (by decide) ?_
      refine lv_goto (tgt := 176) hx hb dX10_why_155 (by decide) ?_
      subst hQ
      exact W.iret (v := 1) hx hb hr (fun t ht hW => ⟨⟨1, (), rfl, ⟨rl_1.to (by decide), (fun _ => trivial), (fun h0 => trivial)⟩, by rw [ht]; exact hw.2.1, va_K.moved hW.alike hK, hw.2.2.1⟩, hw.2.2.2.1.F ht⟩) hw.2.2.2.1.2.2 dX10_why_176
  · have e_1 : p1.toInt = 0 ∨ p1.toInt = 1 ∨ p1.toInt = 2 ∨ p1.toInt = 3 ∨ p1.toInt = 4 := by omega
    rcases e_1 with h_1 | h_1 | h_1 | h_1 | h_1
    · exact absurd h_1 (by unfold RI at w_1; omega)
    · exact absurd h_1 (by unfold RI at w_1; omega)
    · exact absurd h_1 (by unfold RI at w_1; omega)
    · exact absurd h_1 (by unfold RI at w_1; omega)
    · exact absurd h_1 (by unfold RI at w_1; omega)
abbrev wr_X10_live__8 : List (Nat × Nat) := []
abbrev wa_X10_live__8 : List Nat := [34]
set_option maxHeartbeats 4000000 in
set_option maxRecDepth 100000 in
theorem c_X10_live__8 (l : Launch) (D : va_G) (cy : Nat → ClassId) (z : Nat → Nat) (sz : Nat) (Ps : PSI) (w0 : va_W) (hT : HT cy GG Ps w0) (p0 : Nat) (p1 : Int32) (p2 : Int32) (p3 : Int32) (h_p0 : (p0, 55) ∈ Ps) (r_p1 : RI p1 5 5) (r_p2 : RI p2 0 7) (r_p3 : RI p3 0 5) : Met l yX10_live (Cond.code yX10_live cX10_live 4 none :: gT) ({ frames := 0, cells := 0, slots := 0, locals := 200 } : Room) (va_Pc [.ref p0, .int p1, .int p2, .int p3] (PRE D cy z w0 sz)) (va_Qv (fun (u : va_W) => (True) ∧ HT cy GG Ps u ∧ FR wr_X10_live__8 wa_X10_live__8 Ps w0 u) (BB D cy (va_A w0 sz) (fun (u : va_W) => u)) (va_A w0 sz)) 0 0 (va_A w0 sz) := by
  refine Met.ofW (cc := cX10_live) (maxL := 4) (ret := none) (by decide) rfl ?_
  intro p e s m args below meth c s₁ B hml hv
  obtain ⟨rfl, hsz, hP, hK, hD0, hSD⟩ := hv
  have hx := B.exec
  have hb := B.bytes
  have hr := B.returns
  have hlocks := B.notSynchronized
  have hts : ∀ w ∈ gT, w.before _ s = true := fun w h => atoms_spec (ws := Cond.code yX10_live cX10_live 4 none :: gT) B.pre w (List.mem_cons_of_mem _ h)
  have hown : s.vm.findClass RX10 = some m.cls := findClass_of_methodNamed B.named
  subst hsz
  have hD := hD0.self (sz := s.heap.size)
  generalize hAe : va_A w0 s.heap.size = A at hD hSD ⊢
  have hA : ∀ q : Nat, s.heap.size ≤ q → A q := fun q h => by rw [← hAe]; exact Or.inr h
  have hl := lv_entry ([.ref p0, .int p1, .int p2, .int p3]) (n := 4) (Nat.le_of_ble_eq_true rfl)
  rw [lg_entry_eq]
  generalize (lg_sl ([.ref p0, .int p1, .int p2, .int p3]) ++ List.replicate (4 - (lg_sl ([.ref p0, .int p1, .int p2, .int p3])).length) Slot.unset).toArray = ls at hl ⊢
  have hl : lv_has ls 4 [(0, .ref p0), (1, .int p1), (2, .int p2), (3, .int p3)] := hl
  refine nameQ (fun Q hQ => ?_)
  have hw : WD D cy GG A s wr_X10_live__8 wa_X10_live__8 Ps w0 Ps w0 s.heap [] := ⟨hT, hP, hD, va_S.rf, FR.rf, hT.1, [], (List.append_nil _).symm⟩
  refine lv_iload_n hx hb dX10_live_0 rfl (lv_at hl 1 rfl) ?_
  have w_1 := r_p1
  by_cases cl_1 : p1.toInt < 0 ∨ 4 < p1.toInt
  · refine lv_tableOut (tgt := 90) hx hb dX10_live_1 cl_1 (by decide) ?_
    refine lv_aload_n hx hb dX10_live_90 rfl (lv_at hl 0 rfl) ?_
    refine tg_get (ci := 10) (ts := ty_MODEL) (C := RX10) (T := TX10) (N := 49) hx hb hts inX10 hown hK hw h_p0 rfl rfl 14 (by decide) (hts _ tw_1151) (fun _ h9 => h9) (ft := vR 34) rfl dX10_live_91 (fun u_1 hv_u_1 m_u_1 => ?_)
    obtain ⟨vu_1, rfl, h_vu_1⟩ := hv_u_1
    refine lv_bipush (v := 86) hx hb dX10_live_94 (by decide) ?_
    refine lv_iload_n hx hb dX10_live_96 rfl (lv_at hl 2 rfl) ?_
    refine lv_iadd hx hb dX10_live_97 (lv_topi (fun v_2 e_v_2 => ?_))
    obtain ⟨t_v_2, r_v_2⟩ := tq_add (lo := 86) (hi := 93) rl_86 r_p2 (by decide +kernel) e_v_2
    have t_v_2 : v_2.toInt = 86 + p2.toInt := t_v_2
    refine lv_iload_n hx hb dX10_live_98 rfl (lv_at hl 3 rfl) ?_
    refine tg_iast hx hb hK hw h_vu_1 rfl 86 93 r_v_2 (by decide) r_p3 (by decide +kernel) (RN_upd (by decide) (by decide)) (by decide) dX10_live_99 (fun ws H locs hw hF9 hU9 => ?_)
    subst hQ
    exact W.vret hx hb hr (fun t ht hW => ⟨⟨ws, rfl, ⟨trivial, hw.1, hw.2.2.2.2.1⟩, by rw [ht]; exact hw.2.1, va_K.moved hW.alike hK, hw.2.2.1⟩, hw.2.2.2.1.F ht⟩) hw.2.2.2.1.2.2 dX10_live_100
  · have e_1 : p1.toInt = 0 ∨ p1.toInt = 1 ∨ p1.toInt = 2 ∨ p1.toInt = 3 ∨ p1.toInt = 4 := by omega
    rcases e_1 with h_1 | h_1 | h_1 | h_1 | h_1
    · exact absurd h_1 (by unfold RI at w_1; omega)
    · exact absurd h_1 (by unfold RI at w_1; omega)
    · exact absurd h_1 (by unfold RI at w_1; omega)
    · exact absurd h_1 (by unfold RI at w_1; omega)
    · exact absurd h_1 (by unfold RI at w_1; omega)
abbrev wr_X10_goBy : List (Nat × Nat) := []
abbrev wa_X10_goBy : List Nat := [34, 46]
set_option maxHeartbeats 4000000 in
set_option maxRecDepth 100000 in
theorem c_X10_goBy (l : Launch) (D : va_G) (cy : Nat → ClassId) (z : Nat → Nat) (sz : Nat) (Ps : PSI) (w0 : va_W) (hT : HT cy GG Ps w0) (p0 : Nat) (p1 : Int32) (h_p0 : (p0, 55) ∈ Ps) (r_p1 : RI p1 0 117) (x_GL_p0_p1 : AX 40 52 (fun f => GLk f (Int32.toNatClampNeg p1)) Ps w0 p0) : Met l yX10_goBy (Cond.code yX10_goBy cX10_goBy 4 (some .int) :: gT) ({ frames := 6, cells := 0, slots := 0, locals := 1200 } : Room) (va_Pc [.ref p0, .int p1] (PRE D cy z w0 sz)) (va_Qi (fun (r : Int32) (u : va_W) => (RI r 0 61 ∧ (r = 0 → True) ∧ (¬ r = 0 → True)) ∧ HT cy GG Ps u ∧ FR wr_X10_goBy wa_X10_goBy Ps w0 u) (BB D cy (va_A w0 sz) (fun (u : va_W) => u)) (va_A w0 sz)) 0 0 (va_A w0 sz) := by
  refine Met.ofW (cc := cX10_goBy) (maxL := 4) (ret := (some .int)) (by decide) rfl ?_
  intro p e s m args below meth c s₁ B hml hv
  obtain ⟨rfl, hsz, hP, hK, hD0, hSD⟩ := hv
  have hx := B.exec
  have hb := B.bytes
  have hr := B.returns
  have hlocks := B.notSynchronized
  have hts : ∀ w ∈ gT, w.before _ s = true := fun w h => atoms_spec (ws := Cond.code yX10_goBy cX10_goBy 4 (some .int) :: gT) B.pre w (List.mem_cons_of_mem _ h)
  have hown : s.vm.findClass RX10 = some m.cls := findClass_of_methodNamed B.named
  subst hsz
  have hD := hD0.self (sz := s.heap.size)
  generalize hAe : va_A w0 s.heap.size = A at hD hSD ⊢
  have hA : ∀ q : Nat, s.heap.size ≤ q → A q := fun q h => by rw [← hAe]; exact Or.inr h
  have hl := lv_entry ([.ref p0, .int p1]) (n := 4) (Nat.le_of_ble_eq_true rfl)
  rw [lg_entry_eq]
  generalize (lg_sl ([.ref p0, .int p1]) ++ List.replicate (4 - (lg_sl ([.ref p0, .int p1])).length) Slot.unset).toArray = ls at hl ⊢
  have hl : lv_has ls 4 [(0, .ref p0), (1, .int p1)] := hl
  refine nameQ (fun Q hQ => ?_)
  have hw : WD D cy GG A s wr_X10_goBy wa_X10_goBy Ps w0 Ps w0 s.heap [] := ⟨hT, hP, hD, va_S.rf, FR.rf, hT.1, [], (List.append_nil _).symm⟩
  refine lv_aload_n hx hb dX10_goBy_0 rfl (lv_at hl 0 rfl) ?_
  refine tg_get (ci := 10) (ts := ty_MODEL) (C := RX10) (T := TX10) (N := 49) hx hb hts inX10 hown hK hw h_p0 rfl rfl 40 (by decide) (hts _ tw_1177) (fun _ h9 => h9) (ft := vR 52) rfl dX10_goBy_1 (fun u_1 hv_u_1 m_u_1 => ?_)
  obtain ⟨vu_1, rfl, h_vu_1⟩ := hv_u_1
  refine lv_iload_n hx hb dX10_goBy_4 rfl (lv_at hl 1 rfl) ?_
  refine lv_iconst (v := 1) hx hb dX10_goBy_5 (by decide) ?_
  refine lv_iadd hx hb dX10_goBy_6 (lv_topi (fun v_2 e_v_2 => ?_))
  obtain ⟨t_v_2, r_v_2⟩ := tq_add (lo := 1) (hi := 118) r_p1 rl_1 (by decide +kernel) e_v_2
  have t_v_2 : v_2.toInt = p1.toInt + 1 := t_v_2
  refine tg_iald (lo := 0) (hi := 60) hx hb hK hw h_vu_1 rfl 1 118 r_v_2 (by decide) (by exact fun _ _ _ => ⟨Int.le_refl _, Int.le_refl _⟩) dX10_goBy_7 (fun v_3 r_v_3 m_v_3 o_v_3 => ?_)
  refine lv_istore_n (lv' := [(2, .int v_3), (0, .ref p0), (1, .int p1)]) hx hb dX10_goBy_8 rfl hl (by decide) rfl (fun ls hl => ?_)
  refine lv_aload_n hx hb dX10_goBy_9 rfl (lv_at hl 1 rfl) ?_
  refine tg_mem (ci := 10) (C := RX10) (T := TX10) (N := 49) hx hb hts inX10 hown hK hw 40 m_u_1 rfl (by decide) (hts _ tw_1177) (fun _ h9 => h9) dX10_goBy_10 ?_
  refine lv_iload_n hx hb dX10_goBy_13 rfl (lv_at hl 2 rfl) ?_
  refine tg_iald (lo := 0) (hi := 60) hx hb hK hw h_vu_1 rfl 0 117 r_p1 (by decide) (by exact fun _ _ _ => ⟨Int.le_refl _, Int.le_refl _⟩) dX10_goBy_14 (fun v_4 r_v_4 m_v_4 o_v_4 => ?_)
  refine lv_bipush (v := 6) hx hb dX10_goBy_15 (by decide) ?_
  refine lv_icmp_ne (tgt := 46) hx hb dX10_goBy_17 (by decide) (fun c_17 => ?_) (fun c_17 => ?_)
  · have g_gl : (0 ≤ v_4.toInt ∧ v_4.toInt ≤ 6) ∧ (v_4.toInt = 6 ∨ v_3.toInt ≤ 7) := by obtain ⟨_, f9, e8, e7, q9⟩ := x_GL_p0_p1; cases FLD.inj hw.2.2.1 e8 m_u_1; have t9 := ARR.ael hw.2.2.1 e7 m_v_4; have x9 := ARR.ael hw.2.2.1 e7 m_v_3; rw [show Int32.toNatClampNeg v_2 = Int32.toNatClampNeg p1 + 1 from (by have k1 := r_v_2.cl (by decide); have k2 := r_p1.cl (by decide); omega)] at x9; have q8 := q9.1; have q7 := q9.2.1; rw [t9] at q8 q7; rw [x9] at q7; exact ⟨q8, q7⟩
    have n_9 := ti_ne c_17
    have n_8 : (6 : Int32).toInt = 6 := by decide
    have r_v_3 : RI v_3 0 7 := ⟨r_v_3.1, by omega⟩
    rcases (show v_4.toInt = 0 ∨ v_4.toInt = 1 ∨ v_4.toInt = 2 ∨ v_4.toInt = 3 ∨ v_4.toInt = 4 ∨ v_4.toInt = 5 by omega) with h_9 | h_9 | h_9 | h_9 | h_9 | h_9
    · have r_v_4 : RI v_4 0 0 := ⟨by omega, by omega⟩
      refine lv_aload_n hx hb dX10_goBy_46 rfl (lv_at hl 1 rfl) ?_
      refine lv_aload_n hx hb dX10_goBy_47 rfl (lv_at hl 1 rfl) ?_
      refine tg_mem (ci := 10) (C := RX10) (T := TX10) (N := 49) hx hb hts inX10 hown hK hw 40 m_u_1 rfl (by decide) (hts _ tw_1177) (fun _ h9 => h9) dX10_goBy_48 ?_
      refine lv_iload_n hx hb dX10_goBy_51 rfl (lv_at hl 2 rfl) ?_
      refine tg_imem hx hb hK hw h_vu_1 rfl r_p1 (by decide) m_v_4 dX10_goBy_52 ?_
      refine lv_iload_n hx hb dX10_goBy_53 rfl (lv_at hl 0 rfl) ?_
      refine lv_aload_n hx hb dX10_goBy_54 rfl (lv_at hl 1 rfl) ?_
      refine tg_mem (ci := 10) (C := RX10) (T := TX10) (N := 49) hx hb hts inX10 hown hK hw 40 m_u_1 rfl (by decide) (hts _ tw_1177) (fun _ h9 => h9) dX10_goBy_55 ?_
      refine lv_iload_n hx hb dX10_goBy_58 rfl (lv_at hl 2 rfl) ?_
      refine lv_iconst (v := 2) hx hb dX10_goBy_59 (by decide) ?_
      refine lv_iadd hx hb dX10_goBy_60 (lv_topi (fun v_6 e_v_6 => ?_))
      obtain ⟨t_v_6, r_v_6⟩ := tq_add (lo := 2) (hi := 119) r_p1 rl_2 (by decide +kernel) e_v_6
      have t_v_6 : v_6.toInt = p1.toInt + 2 := t_v_6
      refine tg_iald (lo := 0) (hi := 60) hx hb hK hw h_vu_1 rfl 2 119 r_v_6 (by decide) (by exact fun _ _ _ => ⟨Int.le_refl _, Int.le_refl _⟩) dX10_goBy_61 (fun v_7 r_v_7 m_v_7 o_v_7 => ?_)
      have r_v_7 : RI v_7 0 5 := ⟨r_v_7.1, by obtain ⟨_, f9, e8, e7, q9⟩ := x_GL_p0_p1; cases FLD.inj hw.2.2.1 e8 m_u_1; have x9 := ARR.ael hw.2.2.1 e7 m_v_7; rw [show Int32.toNatClampNeg v_6 = Int32.toNatClampNeg p1 + 2 from (by have k1 := r_v_6.cl (by decide); have k2 := r_p1.cl (by decide); omega)] at x9; have q8 := q9.2.2; rw [x9] at q8; exact q8⟩
      refine tk_ir (va_runV (As := [.int v_4, .int v_3, .int v_7]) (rest := []) ⟨hx, hb, hml, hown, hts⟩ (c_X10_why__3 l D cy z s.heap.size Ps w0 hw.1 p0 v_4 v_3 v_7 h_p0 r_v_4 r_v_3 r_v_7) (cwV 3 hts (gV tw_1501 tw_1503 ts_77 tw_15 tw_1504) rfl rfl rfl (by decide +kernel) ⟨Nat.le_of_ble_eq_true rfl, Nat.le_of_ble_eq_true rfl⟩) (tg_preV hw hK hSD hA (ci := 10) (q := (RX10, TX10, 49)) rfl h_p0 rfl) rfl rfl hl.1 rfl (lv_room (Nat.le_of_ble_eq_true rfl)) dX10_goBy_62 ⟨Nat.le_of_ble_eq_true rfl, Nat.le_of_ble_eq_true rfl⟩) hw hA (fun v_8  H locs hp_v_8 hw => ?_)
      have r_v_8 : RI v_8 0 1 := hp_v_8.1
      refine lv_istore_n (lv' := [(3, .int v_8), (2, .int v_3), (0, .ref p0), (1, .int p1)]) hx hb dX10_goBy_65 rfl hl (by decide) rfl (fun ls hl => ?_)
      refine lv_iload_n hx hb dX10_goBy_66 rfl (lv_at hl 0 rfl) ?_
      refine lv_if_eq (tgt := 82) hx hb dX10_goBy_67 (by decide) (fun c_67 => ?_) (fun c_67 => ?_)
      · have r_v_8 : RI v_8 0 0 := rc_eq1 r_v_8 rl_0 (ti_eq c_67) (by decide)
        refine lv_aload_n hx hb dX10_goBy_82 rfl (lv_at hl 2 rfl) ?_
        refine lv_aload_n hx hb dX10_goBy_83 rfl (lv_at hl 2 rfl) ?_
        refine tg_mem (ci := 10) (C := RX10) (T := TX10) (N := 49) hx hb hts inX10 hown hK hw 40 m_u_1 rfl (by decide) (hts _ tw_1177) (fun _ h9 => h9) dX10_goBy_84 ?_
        refine lv_iload_n hx hb dX10_goBy_87 rfl (lv_at hl 3 rfl) ?_
        refine tg_imem hx hb hK hw h_vu_1 rfl r_p1 (by decide) m_v_4 dX10_goBy_88 ?_
        refine lv_iload_n hx hb dX10_goBy_89 rfl (lv_at hl 1 rfl) ?_
        refine lv_aload_n hx hb dX10_goBy_90 rfl (lv_at hl 2 rfl) ?_
        refine tg_mem (ci := 10) (C := RX10) (T := TX10) (N := 49) hx hb hts inX10 hown hK hw 40 m_u_1 rfl (by decide) (hts _ tw_1177) (fun _ h9 => h9) dX10_goBy_91 ?_
        refine lv_iload_n hx hb dX10_goBy_94 rfl (lv_at hl 3 rfl) ?_
        refine lv_iconst (v := 2) hx hb dX10_goBy_95 (by decide) ?_
        refine lv_iadd hx hb dX10_goBy_96 (lv_topi (fun v_10 e_v_10 => ?_))
        obtain ⟨t_v_10, r_v_10⟩ := tq_add (lo := 2) (hi := 119) r_p1 rl_2 (by decide +kernel) e_v_10
        have t_v_10 : v_10.toInt = p1.toInt + 2 := t_v_10
        refine tg_iald (lo := 0) (hi := 60) hx hb hK hw h_vu_1 rfl 2 119 r_v_10 (by decide) (by exact fun _ _ _ => ⟨Int.le_refl _, Int.le_refl _⟩) dX10_goBy_97 (fun v_11 r_v_11 m_v_11 o_v_11 => ?_)
        have r_v_11 : RI v_11 0 5 := ⟨r_v_11.1, by obtain ⟨_, f9, e8, e7, q9⟩ := x_GL_p0_p1; cases FLD.inj hw.2.2.1 e8 m_u_1; have x9 := ARR.ael hw.2.2.1 e7 m_v_11; rw [show Int32.toNatClampNeg v_10 = Int32.toNatClampNeg p1 + 2 from (by have k1 := r_v_10.cl (by decide); have k2 := r_p1.cl (by decide); omega)] at x9; have q8 := q9.2.2; rw [x9] at q8; exact q8⟩
        have hw8 := hw
        refine tk_v (va_runV (As := [.int v_4, .int v_3, .int v_11]) (rest := []) ⟨hx, hb, hml, hown, hts⟩ (c_X10_live__3 l D cy z H.size Ps w0 hw.1 p0 v_4 v_3 v_11 h_p0 r_v_4 r_v_3 r_v_11) (cwV 3 hts (gV tw_1509 tw_1511 ts_79 tw_15 tw_1512) rfl rfl rfl (by decide +kernel) ⟨Nat.le_of_ble_eq_true rfl, Nat.le_of_ble_eq_true rfl⟩) (tg_preV hw hK hSD hA (ci := 10) (q := (RX10, TX10, 49)) rfl h_p0 rfl) rfl rfl hl.1 rfl (lv_room (Nat.le_of_ble_eq_true rfl)) dX10_goBy_98 ⟨Nat.le_of_ble_eq_true rfl, Nat.le_of_ble_eq_true rfl⟩) hw hA ⟨by decide, by decide⟩ (fun ws H locs hp_v_12 hw hF9 => ?_)
        have m_v_3 := AEL.over hw8 hF9 h_vu_1 m_v_3 (by decide)
        have m_v_4 := AEL.over hw8 hF9 h_vu_1 m_v_4 (by decide)
        have m_v_7 := AEL.over hw8 hF9 h_vu_1 m_v_7 (by decide)
        have m_v_11 := AEL.over hw8 hF9 h_vu_1 m_v_11 (by decide)
        have m_u_1 := FLD.over hF9 m_u_1 (by decide)
        have x_GL_p0_p1 := AX.over hF9 x_GL_p0_p1 (by decide)
        refine lv_iconst (v := 0) hx hb dX10_goBy_101 (by decide) ?_
        subst hQ
        exact W.iret (v := 0) hx hb hr (fun t ht hW => ⟨⟨0, ws, rfl, ⟨⟨rl_0.to (by decide), (fun h0 => trivial), (fun _ => trivial)⟩, hw.1, hw.2.2.2.2.1⟩, by rw [ht]; exact hw.2.1, va_K.moved hW.alike hK, hw.2.2.1⟩, hw.2.2.2.1.F ht⟩) hw.2.2.2.1.2.2 dX10_goBy_102
      · have r_v_8 : RI v_8 1 1 := rc_neL r_v_8 rl_0 (ti_ne c_67) (by decide)
        refine lv_bipush (v := 10) hx hb dX10_goBy_70 (by decide) ?_
        refine lv_aload_n hx hb dX10_goBy_72 rfl (lv_at hl 2 rfl) ?_
        refine tg_mem (ci := 10) (C := RX10) (T := TX10) (N := 49) hx hb hts inX10 hown hK hw 40 m_u_1 rfl (by decide) (hts _ tw_1177) (fun _ h9 => h9) dX10_goBy_73 ?_
        refine lv_iload_n hx hb dX10_goBy_76 rfl (lv_at hl 3 rfl) ?_
        refine tg_imem hx hb hK hw h_vu_1 rfl r_p1 (by decide) m_v_4 dX10_goBy_77 ?_
        refine lv_imul hx hb dX10_goBy_78 (lv_topi (fun v_14 e_v_14 => ?_))
        obtain ⟨t_v_14, r_v_14⟩ := tq_mul (lo := 0) (hi := 0) rl_10 r_v_4 (by decide +kernel) e_v_14
        have t_v_14 : v_14.toInt = 10 * v_4.toInt := t_v_14
        refine lv_iload_n hx hb dX10_goBy_79 rfl (lv_at hl 0 rfl) ?_
        refine lv_iadd hx hb dX10_goBy_80 (lv_topi (fun v_15 e_v_15 => ?_))
        obtain ⟨t_v_15, r_v_15⟩ := tq_add (lo := 1) (hi := 1) r_v_14 r_v_8 (by decide +kernel) e_v_15
        subst hQ
        exact W.iret (v := v_15) hx hb hr (fun t ht hW => ⟨⟨v_15, w0, rfl, ⟨⟨r_v_15.to (by decide), (fun _ => trivial), (fun h0 => trivial)⟩, hw.1, hw.2.2.2.2.1⟩, by rw [ht]; exact hw.2.1, va_K.moved hW.alike hK, hw.2.2.1⟩, hw.2.2.2.1.F ht⟩) hw.2.2.2.1.2.2 dX10_goBy_81
    · have r_v_4 : RI v_4 1 1 := ⟨by omega, by omega⟩
      refine lv_aload_n hx hb dX10_goBy_46 rfl (lv_at hl 1 rfl) ?_
      refine lv_aload_n hx hb dX10_goBy_47 rfl (lv_at hl 1 rfl) ?_
      refine tg_mem (ci := 10) (C := RX10) (T := TX10) (N := 49) hx hb hts inX10 hown hK hw 40 m_u_1 rfl (by decide) (hts _ tw_1177) (fun _ h9 => h9) dX10_goBy_48 ?_
      refine lv_iload_n hx hb dX10_goBy_51 rfl (lv_at hl 2 rfl) ?_
      refine tg_imem hx hb hK hw h_vu_1 rfl r_p1 (by decide) m_v_4 dX10_goBy_52 ?_
      refine lv_iload_n hx hb dX10_goBy_53 rfl (lv_at hl 0 rfl) ?_
      refine lv_aload_n hx hb dX10_goBy_54 rfl (lv_at hl 1 rfl) ?_
      refine tg_mem (ci := 10) (C := RX10) (T := TX10) (N := 49) hx hb hts inX10 hown hK hw 40 m_u_1 rfl (by decide) (hts _ tw_1177) (fun _ h9 => h9) dX10_goBy_55 ?_
      refine lv_iload_n hx hb dX10_goBy_58 rfl (lv_at hl 2 rfl) ?_
      refine lv_iconst (v := 2) hx hb dX10_goBy_59 (by decide) ?_
      refine lv_iadd hx hb dX10_goBy_60 (lv_topi (fun v_17 e_v_17 => ?_))
      obtain ⟨t_v_17, r_v_17⟩ := tq_add (lo := 2) (hi := 119) r_p1 rl_2 (by decide +kernel) e_v_17
      have t_v_17 : v_17.toInt = p1.toInt + 2 := t_v_17
      refine tg_iald (lo := 0) (hi := 60) hx hb hK hw h_vu_1 rfl 2 119 r_v_17 (by decide) (by exact fun _ _ _ => ⟨Int.le_refl _, Int.le_refl _⟩) dX10_goBy_61 (fun v_18 r_v_18 m_v_18 o_v_18 => ?_)
      have r_v_18 : RI v_18 0 5 := ⟨r_v_18.1, by obtain ⟨_, f9, e8, e7, q9⟩ := x_GL_p0_p1; cases FLD.inj hw.2.2.1 e8 m_u_1; have x9 := ARR.ael hw.2.2.1 e7 m_v_18; rw [show Int32.toNatClampNeg v_17 = Int32.toNatClampNeg p1 + 2 from (by have k1 := r_v_17.cl (by decide); have k2 := r_p1.cl (by decide); omega)] at x9; have q8 := q9.2.2; rw [x9] at q8; exact q8⟩
      refine tk_ir (va_runV (As := [.int v_4, .int v_3, .int v_18]) (rest := []) ⟨hx, hb, hml, hown, hts⟩ (c_X10_why__6 l D cy z s.heap.size Ps w0 hw.1 p0 v_4 v_3 v_18 h_p0 r_v_4 r_v_3 r_v_18) (cwV 3 hts (gV tw_1501 tw_1503 ts_77 tw_15 tw_1504) rfl rfl rfl (by decide +kernel) ⟨Nat.le_of_ble_eq_true rfl, Nat.le_of_ble_eq_true rfl⟩) (tg_preV hw hK hSD hA (ci := 10) (q := (RX10, TX10, 49)) rfl h_p0 rfl) rfl rfl hl.1 rfl (lv_room (Nat.le_of_ble_eq_true rfl)) dX10_goBy_62 ⟨Nat.le_of_ble_eq_true rfl, Nat.le_of_ble_eq_true rfl⟩) hw hA (fun v_19  H locs hp_v_19 hw => ?_)
      have r_v_19 : RI v_19 0 1 := hp_v_19.1
      refine lv_istore_n (lv' := [(3, .int v_19), (2, .int v_3), (0, .ref p0), (1, .int p1)]) hx hb dX10_goBy_65 rfl hl (by decide) rfl (fun ls hl => ?_)
      refine lv_iload_n hx hb dX10_goBy_66 rfl (lv_at hl 0 rfl) ?_
      refine lv_if_eq (tgt := 82) hx hb dX10_goBy_67 (by decide) (fun c_67 => ?_) (fun c_67 => ?_)
      · have r_v_19 : RI v_19 0 0 := rc_eq1 r_v_19 rl_0 (ti_eq c_67) (by decide)
        refine lv_aload_n hx hb dX10_goBy_82 rfl (lv_at hl 2 rfl) ?_
        refine lv_aload_n hx hb dX10_goBy_83 rfl (lv_at hl 2 rfl) ?_
        refine tg_mem (ci := 10) (C := RX10) (T := TX10) (N := 49) hx hb hts inX10 hown hK hw 40 m_u_1 rfl (by decide) (hts _ tw_1177) (fun _ h9 => h9) dX10_goBy_84 ?_
        refine lv_iload_n hx hb dX10_goBy_87 rfl (lv_at hl 3 rfl) ?_
        refine tg_imem hx hb hK hw h_vu_1 rfl r_p1 (by decide) m_v_4 dX10_goBy_88 ?_
        refine lv_iload_n hx hb dX10_goBy_89 rfl (lv_at hl 1 rfl) ?_
        refine lv_aload_n hx hb dX10_goBy_90 rfl (lv_at hl 2 rfl) ?_
        refine tg_mem (ci := 10) (C := RX10) (T := TX10) (N := 49) hx hb hts inX10 hown hK hw 40 m_u_1 rfl (by decide) (hts _ tw_1177) (fun _ h9 => h9) dX10_goBy_91 ?_
        refine lv_iload_n hx hb dX10_goBy_94 rfl (lv_at hl 3 rfl) ?_
        refine lv_iconst (v := 2) hx hb dX10_goBy_95 (by decide) ?_
        refine lv_iadd hx hb dX10_goBy_96 (lv_topi (fun v_21 e_v_21 => ?_))
        obtain ⟨t_v_21, r_v_21⟩ := tq_add (lo := 2) (hi := 119) r_p1 rl_2 (by decide +kernel) e_v_21
        have t_v_21 : v_21.toInt = p1.toInt + 2 := t_v_21
        refine tg_iald (lo := 0) (hi := 60) hx hb hK hw h_vu_1 rfl 2 119 r_v_21 (by decide) (by exact fun _ _ _ => ⟨Int.le_refl _, Int.le_refl _⟩) dX10_goBy_97 (fun v_22 r_v_22 m_v_22 o_v_22 => ?_)
        have r_v_22 : RI v_22 0 5 := ⟨r_v_22.1, by obtain ⟨_, f9, e8, e7, q9⟩ := x_GL_p0_p1; cases FLD.inj hw.2.2.1 e8 m_u_1; have x9 := ARR.ael hw.2.2.1 e7 m_v_22; rw [show Int32.toNatClampNeg v_21 = Int32.toNatClampNeg p1 + 2 from (by have k1 := r_v_21.cl (by decide); have k2 := r_p1.cl (by decide); omega)] at x9; have q8 := q9.2.2; rw [x9] at q8; exact q8⟩
        have hw8 := hw
        refine tk_v (va_runV (As := [.int v_4, .int v_3, .int v_22]) (rest := []) ⟨hx, hb, hml, hown, hts⟩ (c_X10_live__6 l D cy z H.size Ps w0 hw.1 p0 v_4 v_3 v_22 h_p0 r_v_4 r_v_3 r_v_22) (cwV 3 hts (gV tw_1509 tw_1511 ts_79 tw_15 tw_1512) rfl rfl rfl (by decide +kernel) ⟨Nat.le_of_ble_eq_true rfl, Nat.le_of_ble_eq_true rfl⟩) (tg_preV hw hK hSD hA (ci := 10) (q := (RX10, TX10, 49)) rfl h_p0 rfl) rfl rfl hl.1 rfl (lv_room (Nat.le_of_ble_eq_true rfl)) dX10_goBy_98 ⟨Nat.le_of_ble_eq_true rfl, Nat.le_of_ble_eq_true rfl⟩) hw hA ⟨by decide, by decide⟩ (fun ws H locs hp_v_23 hw hF9 => ?_)
        have m_v_3 := AEL.over hw8 hF9 h_vu_1 m_v_3 (by decide)
        have m_v_4 := AEL.over hw8 hF9 h_vu_1 m_v_4 (by decide)
        have m_v_18 := AEL.over hw8 hF9 h_vu_1 m_v_18 (by decide)
        have m_v_22 := AEL.over hw8 hF9 h_vu_1 m_v_22 (by decide)
        have m_u_1 := FLD.over hF9 m_u_1 (by decide)
        have x_GL_p0_p1 := AX.over hF9 x_GL_p0_p1 (by decide)
        refine lv_iconst (v := 0) hx hb dX10_goBy_101 (by decide) ?_
        subst hQ
        exact W.iret (v := 0) hx hb hr (fun t ht hW => ⟨⟨0, ws, rfl, ⟨⟨rl_0.to (by decide), (fun h0 => trivial), (fun _ => trivial)⟩, hw.1, hw.2.2.2.2.1⟩, by rw [ht]; exact hw.2.1, va_K.moved hW.alike hK, hw.2.2.1⟩, hw.2.2.2.1.F ht⟩) hw.2.2.2.1.2.2 dX10_goBy_102
      · have r_v_19 : RI v_19 1 1 := rc_neL r_v_19 rl_0 (ti_ne c_67) (by decide)
        refine lv_bipush (v := 10) hx hb dX10_goBy_70 (by decide) ?_
        refine lv_aload_n hx hb dX10_goBy_72 rfl (lv_at hl 2 rfl) ?_
        refine tg_mem (ci := 10) (C := RX10) (T := TX10) (N := 49) hx hb hts inX10 hown hK hw 40 m_u_1 rfl (by decide) (hts _ tw_1177) (fun _ h9 => h9) dX10_goBy_73 ?_
        refine lv_iload_n hx hb dX10_goBy_76 rfl (lv_at hl 3 rfl) ?_
        refine tg_imem hx hb hK hw h_vu_1 rfl r_p1 (by decide) m_v_4 dX10_goBy_77 ?_
        refine lv_imul hx hb dX10_goBy_78 (lv_topi (fun v_25 e_v_25 => ?_))
        obtain ⟨t_v_25, r_v_25⟩ := tq_mul (lo := 10) (hi := 10) rl_10 r_v_4 (by decide +kernel) e_v_25
        have t_v_25 : v_25.toInt = 10 * v_4.toInt := t_v_25
        refine lv_iload_n hx hb dX10_goBy_79 rfl (lv_at hl 0 rfl) ?_
        refine lv_iadd hx hb dX10_goBy_80 (lv_topi (fun v_26 e_v_26 => ?_))
        obtain ⟨t_v_26, r_v_26⟩ := tq_add (lo := 11) (hi := 11) r_v_25 r_v_19 (by decide +kernel) e_v_26
        subst hQ
        exact W.iret (v := v_26) hx hb hr (fun t ht hW => ⟨⟨v_26, w0, rfl, ⟨⟨r_v_26.to (by decide), (fun _ => trivial), (fun h0 => trivial)⟩, hw.1, hw.2.2.2.2.1⟩, by rw [ht]; exact hw.2.1, va_K.moved hW.alike hK, hw.2.2.1⟩, hw.2.2.2.1.F ht⟩) hw.2.2.2.1.2.2 dX10_goBy_81
    · have r_v_4 : RI v_4 2 2 := ⟨by omega, by omega⟩
      refine lv_aload_n hx hb dX10_goBy_46 rfl (lv_at hl 1 rfl) ?_
      refine lv_aload_n hx hb dX10_goBy_47 rfl (lv_at hl 1 rfl) ?_
      refine tg_mem (ci := 10) (C := RX10) (T := TX10) (N := 49) hx hb hts inX10 hown hK hw 40 m_u_1 rfl (by decide) (hts _ tw_1177) (fun _ h9 => h9) dX10_goBy_48 ?_
      refine lv_iload_n hx hb dX10_goBy_51 rfl (lv_at hl 2 rfl) ?_
      refine tg_imem hx hb hK hw h_vu_1 rfl r_p1 (by decide) m_v_4 dX10_goBy_52 ?_
      refine lv_iload_n hx hb dX10_goBy_53 rfl (lv_at hl 0 rfl) ?_
      refine lv_aload_n hx hb dX10_goBy_54 rfl (lv_at hl 1 rfl) ?_
      refine tg_mem (ci := 10) (C := RX10) (T := TX10) (N := 49) hx hb hts inX10 hown hK hw 40 m_u_1 rfl (by decide) (hts _ tw_1177) (fun _ h9 => h9) dX10_goBy_55 ?_
      refine lv_iload_n hx hb dX10_goBy_58 rfl (lv_at hl 2 rfl) ?_
      refine lv_iconst (v := 2) hx hb dX10_goBy_59 (by decide) ?_
      refine lv_iadd hx hb dX10_goBy_60 (lv_topi (fun v_28 e_v_28 => ?_))
      obtain ⟨t_v_28, r_v_28⟩ := tq_add (lo := 2) (hi := 119) r_p1 rl_2 (by decide +kernel) e_v_28
      have t_v_28 : v_28.toInt = p1.toInt + 2 := t_v_28
      refine tg_iald (lo := 0) (hi := 60) hx hb hK hw h_vu_1 rfl 2 119 r_v_28 (by decide) (by exact fun _ _ _ => ⟨Int.le_refl _, Int.le_refl _⟩) dX10_goBy_61 (fun v_29 r_v_29 m_v_29 o_v_29 => ?_)
      have r_v_29 : RI v_29 0 5 := ⟨r_v_29.1, by obtain ⟨_, f9, e8, e7, q9⟩ := x_GL_p0_p1; cases FLD.inj hw.2.2.1 e8 m_u_1; have x9 := ARR.ael hw.2.2.1 e7 m_v_29; rw [show Int32.toNatClampNeg v_28 = Int32.toNatClampNeg p1 + 2 from (by have k1 := r_v_28.cl (by decide); have k2 := r_p1.cl (by decide); omega)] at x9; have q8 := q9.2.2; rw [x9] at q8; exact q8⟩
      refine tk_ir (va_runV (As := [.int v_4, .int v_3, .int v_29]) (rest := []) ⟨hx, hb, hml, hown, hts⟩ (c_X10_why__5 l D cy z s.heap.size Ps w0 hw.1 p0 v_4 v_3 v_29 h_p0 r_v_4 r_v_3 r_v_29) (cwV 3 hts (gV tw_1501 tw_1503 ts_77 tw_15 tw_1504) rfl rfl rfl (by decide +kernel) ⟨Nat.le_of_ble_eq_true rfl, Nat.le_of_ble_eq_true rfl⟩) (tg_preV hw hK hSD hA (ci := 10) (q := (RX10, TX10, 49)) rfl h_p0 rfl) rfl rfl hl.1 rfl (lv_room (Nat.le_of_ble_eq_true rfl)) dX10_goBy_62 ⟨Nat.le_of_ble_eq_true rfl, Nat.le_of_ble_eq_true rfl⟩) hw hA (fun v_30  H locs hp_v_30 hw => ?_)
      have r_v_30 : RI v_30 0 1 := hp_v_30.1
      refine lv_istore_n (lv' := [(3, .int v_30), (2, .int v_3), (0, .ref p0), (1, .int p1)]) hx hb dX10_goBy_65 rfl hl (by decide) rfl (fun ls hl => ?_)
      refine lv_iload_n hx hb dX10_goBy_66 rfl (lv_at hl 0 rfl) ?_
      refine lv_if_eq (tgt := 82) hx hb dX10_goBy_67 (by decide) (fun c_67 => ?_) (fun c_67 => ?_)
      · have r_v_30 : RI v_30 0 0 := rc_eq1 r_v_30 rl_0 (ti_eq c_67) (by decide)
        refine lv_aload_n hx hb dX10_goBy_82 rfl (lv_at hl 2 rfl) ?_
        refine lv_aload_n hx hb dX10_goBy_83 rfl (lv_at hl 2 rfl) ?_
        refine tg_mem (ci := 10) (C := RX10) (T := TX10) (N := 49) hx hb hts inX10 hown hK hw 40 m_u_1 rfl (by decide) (hts _ tw_1177) (fun _ h9 => h9) dX10_goBy_84 ?_
        refine lv_iload_n hx hb dX10_goBy_87 rfl (lv_at hl 3 rfl) ?_
        refine tg_imem hx hb hK hw h_vu_1 rfl r_p1 (by decide) m_v_4 dX10_goBy_88 ?_
        refine lv_iload_n hx hb dX10_goBy_89 rfl (lv_at hl 1 rfl) ?_
        refine lv_aload_n hx hb dX10_goBy_90 rfl (lv_at hl 2 rfl) ?_
        refine tg_mem (ci := 10) (C := RX10) (T := TX10) (N := 49) hx hb hts inX10 hown hK hw 40 m_u_1 rfl (by decide) (hts _ tw_1177) (fun _ h9 => h9) dX10_goBy_91 ?_
        refine lv_iload_n hx hb dX10_goBy_94 rfl (lv_at hl 3 rfl) ?_
        refine lv_iconst (v := 2) hx hb dX10_goBy_95 (by decide) ?_
        refine lv_iadd hx hb dX10_goBy_96 (lv_topi (fun v_32 e_v_32 => ?_))
        obtain ⟨t_v_32, r_v_32⟩ := tq_add (lo := 2) (hi := 119) r_p1 rl_2 (by decide +kernel) e_v_32
        have t_v_32 : v_32.toInt = p1.toInt + 2 := t_v_32
        refine tg_iald (lo := 0) (hi := 60) hx hb hK hw h_vu_1 rfl 2 119 r_v_32 (by decide) (by exact fun _ _ _ => ⟨Int.le_refl _, Int.le_refl _⟩) dX10_goBy_97 (fun v_33 r_v_33 m_v_33 o_v_33 => ?_)
        have r_v_33 : RI v_33 0 5 := ⟨r_v_33.1, by obtain ⟨_, f9, e8, e7, q9⟩ := x_GL_p0_p1; cases FLD.inj hw.2.2.1 e8 m_u_1; have x9 := ARR.ael hw.2.2.1 e7 m_v_33; rw [show Int32.toNatClampNeg v_32 = Int32.toNatClampNeg p1 + 2 from (by have k1 := r_v_32.cl (by decide); have k2 := r_p1.cl (by decide); omega)] at x9; have q8 := q9.2.2; rw [x9] at q8; exact q8⟩
        have hw8 := hw
        refine tk_v (va_runV (As := [.int v_4, .int v_3, .int v_33]) (rest := []) ⟨hx, hb, hml, hown, hts⟩ (c_X10_live__5 l D cy z H.size Ps w0 hw.1 p0 v_4 v_3 v_33 h_p0 r_v_4 r_v_3 r_v_33) (cwV 3 hts (gV tw_1509 tw_1511 ts_79 tw_15 tw_1512) rfl rfl rfl (by decide +kernel) ⟨Nat.le_of_ble_eq_true rfl, Nat.le_of_ble_eq_true rfl⟩) (tg_preV hw hK hSD hA (ci := 10) (q := (RX10, TX10, 49)) rfl h_p0 rfl) rfl rfl hl.1 rfl (lv_room (Nat.le_of_ble_eq_true rfl)) dX10_goBy_98 ⟨Nat.le_of_ble_eq_true rfl, Nat.le_of_ble_eq_true rfl⟩) hw hA ⟨by decide, by decide⟩ (fun ws H locs hp_v_34 hw hF9 => ?_)
        have m_v_3 := AEL.over hw8 hF9 h_vu_1 m_v_3 (by decide)
        have m_v_4 := AEL.over hw8 hF9 h_vu_1 m_v_4 (by decide)
        have m_v_29 := AEL.over hw8 hF9 h_vu_1 m_v_29 (by decide)
        have m_v_33 := AEL.over hw8 hF9 h_vu_1 m_v_33 (by decide)
        have m_u_1 := FLD.over hF9 m_u_1 (by decide)
        have x_GL_p0_p1 := AX.over hF9 x_GL_p0_p1 (by decide)
        refine lv_iconst (v := 0) hx hb dX10_goBy_101 (by decide) ?_
        subst hQ
        exact W.iret (v := 0) hx hb hr (fun t ht hW => ⟨⟨0, ws, rfl, ⟨⟨rl_0.to (by decide), (fun h0 => trivial), (fun _ => trivial)⟩, hw.1, hw.2.2.2.2.1⟩, by rw [ht]; exact hw.2.1, va_K.moved hW.alike hK, hw.2.2.1⟩, hw.2.2.2.1.F ht⟩) hw.2.2.2.1.2.2 dX10_goBy_102
      · have r_v_30 : RI v_30 1 1 := rc_neL r_v_30 rl_0 (ti_ne c_67) (by decide)
        refine lv_bipush (v := 10) hx hb dX10_goBy_70 (by decide) ?_
        refine lv_aload_n hx hb dX10_goBy_72 rfl (lv_at hl 2 rfl) ?_
        refine tg_mem (ci := 10) (C := RX10) (T := TX10) (N := 49) hx hb hts inX10 hown hK hw 40 m_u_1 rfl (by decide) (hts _ tw_1177) (fun _ h9 => h9) dX10_goBy_73 ?_
        refine lv_iload_n hx hb dX10_goBy_76 rfl (lv_at hl 3 rfl) ?_
        refine tg_imem hx hb hK hw h_vu_1 rfl r_p1 (by decide) m_v_4 dX10_goBy_77 ?_
        refine lv_imul hx hb dX10_goBy_78 (lv_topi (fun v_36 e_v_36 => ?_))
        obtain ⟨t_v_36, r_v_36⟩ := tq_mul (lo := 20) (hi := 20) rl_10 r_v_4 (by decide +kernel) e_v_36
        have t_v_36 : v_36.toInt = 10 * v_4.toInt := t_v_36
        refine lv_iload_n hx hb dX10_goBy_79 rfl (lv_at hl 0 rfl) ?_
        refine lv_iadd hx hb dX10_goBy_80 (lv_topi (fun v_37 e_v_37 => ?_))
        obtain ⟨t_v_37, r_v_37⟩ := tq_add (lo := 21) (hi := 21) r_v_36 r_v_30 (by decide +kernel) e_v_37
        subst hQ
        exact W.iret (v := v_37) hx hb hr (fun t ht hW => ⟨⟨v_37, w0, rfl, ⟨⟨r_v_37.to (by decide), (fun _ => trivial), (fun h0 => trivial)⟩, hw.1, hw.2.2.2.2.1⟩, by rw [ht]; exact hw.2.1, va_K.moved hW.alike hK, hw.2.2.1⟩, hw.2.2.2.1.F ht⟩) hw.2.2.2.1.2.2 dX10_goBy_81
    · have r_v_4 : RI v_4 3 3 := ⟨by omega, by omega⟩
      refine lv_aload_n hx hb dX10_goBy_46 rfl (lv_at hl 1 rfl) ?_
      refine lv_aload_n hx hb dX10_goBy_47 rfl (lv_at hl 1 rfl) ?_
      refine tg_mem (ci := 10) (C := RX10) (T := TX10) (N := 49) hx hb hts inX10 hown hK hw 40 m_u_1 rfl (by decide) (hts _ tw_1177) (fun _ h9 => h9) dX10_goBy_48 ?_
      refine lv_iload_n hx hb dX10_goBy_51 rfl (lv_at hl 2 rfl) ?_
      refine tg_imem hx hb hK hw h_vu_1 rfl r_p1 (by decide) m_v_4 dX10_goBy_52 ?_
      refine lv_iload_n hx hb dX10_goBy_53 rfl (lv_at hl 0 rfl) ?_
      refine lv_aload_n hx hb dX10_goBy_54 rfl (lv_at hl 1 rfl) ?_
      refine tg_mem (ci := 10) (C := RX10) (T := TX10) (N := 49) hx hb hts inX10 hown hK hw 40 m_u_1 rfl (by decide) (hts _ tw_1177) (fun _ h9 => h9) dX10_goBy_55 ?_
      refine lv_iload_n hx hb dX10_goBy_58 rfl (lv_at hl 2 rfl) ?_
      refine lv_iconst (v := 2) hx hb dX10_goBy_59 (by decide) ?_
      refine lv_iadd hx hb dX10_goBy_60 (lv_topi (fun v_39 e_v_39 => ?_))
      obtain ⟨t_v_39, r_v_39⟩ := tq_add (lo := 2) (hi := 119) r_p1 rl_2 (by decide +kernel) e_v_39
      have t_v_39 : v_39.toInt = p1.toInt + 2 := t_v_39
      refine tg_iald (lo := 0) (hi := 60) hx hb hK hw h_vu_1 rfl 2 119 r_v_39 (by decide) (by exact fun _ _ _ => ⟨Int.le_refl _, Int.le_refl _⟩) dX10_goBy_61 (fun v_40 r_v_40 m_v_40 o_v_40 => ?_)
      have r_v_40 : RI v_40 0 5 := ⟨r_v_40.1, by obtain ⟨_, f9, e8, e7, q9⟩ := x_GL_p0_p1; cases FLD.inj hw.2.2.1 e8 m_u_1; have x9 := ARR.ael hw.2.2.1 e7 m_v_40; rw [show Int32.toNatClampNeg v_39 = Int32.toNatClampNeg p1 + 2 from (by have k1 := r_v_39.cl (by decide); have k2 := r_p1.cl (by decide); omega)] at x9; have q8 := q9.2.2; rw [x9] at q8; exact q8⟩
      refine tk_ir (va_runV (As := [.int v_4, .int v_3, .int v_40]) (rest := []) ⟨hx, hb, hml, hown, hts⟩ (c_X10_why__1 l D cy z s.heap.size Ps w0 hw.1 p0 v_4 v_3 v_40 h_p0 r_v_4 r_v_3 r_v_40) (cwV 3 hts (gV tw_1501 tw_1503 ts_77 tw_15 tw_1504) rfl rfl rfl (by decide +kernel) ⟨Nat.le_of_ble_eq_true rfl, Nat.le_of_ble_eq_true rfl⟩) (tg_preV hw hK hSD hA (ci := 10) (q := (RX10, TX10, 49)) rfl h_p0 rfl) rfl rfl hl.1 rfl (lv_room (Nat.le_of_ble_eq_true rfl)) dX10_goBy_62 ⟨Nat.le_of_ble_eq_true rfl, Nat.le_of_ble_eq_true rfl⟩) hw hA (fun v_41  H locs hp_v_41 hw => ?_)
      have r_v_41 : RI v_41 0 2 := hp_v_41.1
      by_cases c9_v_41 : v_41 = 0
      · have r_v_41 : RI v_41 0 0 := by rw [c9_v_41]; exact rl_0
        have x_SITOK_p0_v_3 := ((hp_v_41.2.1 c9_v_41).1)
        refine lv_istore_n (lv' := [(3, .int v_41), (2, .int v_3), (0, .ref p0), (1, .int p1)]) hx hb dX10_goBy_65 rfl hl (by decide) rfl (fun ls hl => ?_)
        refine lv_iload_n hx hb dX10_goBy_66 rfl (lv_at hl 0 rfl) ?_
        refine lv_if_eq (tgt := 82) hx hb dX10_goBy_67 (by decide) (fun c_67 => ?_) (fun c_67 => ?_)
        · refine lv_aload_n hx hb dX10_goBy_82 rfl (lv_at hl 2 rfl) ?_
          refine lv_aload_n hx hb dX10_goBy_83 rfl (lv_at hl 2 rfl) ?_
          refine tg_mem (ci := 10) (C := RX10) (T := TX10) (N := 49) hx hb hts inX10 hown hK hw 40 m_u_1 rfl (by decide) (hts _ tw_1177) (fun _ h9 => h9) dX10_goBy_84 ?_
          refine lv_iload_n hx hb dX10_goBy_87 rfl (lv_at hl 3 rfl) ?_
          refine tg_imem hx hb hK hw h_vu_1 rfl r_p1 (by decide) m_v_4 dX10_goBy_88 ?_
          refine lv_iload_n hx hb dX10_goBy_89 rfl (lv_at hl 1 rfl) ?_
          refine lv_aload_n hx hb dX10_goBy_90 rfl (lv_at hl 2 rfl) ?_
          refine tg_mem (ci := 10) (C := RX10) (T := TX10) (N := 49) hx hb hts inX10 hown hK hw 40 m_u_1 rfl (by decide) (hts _ tw_1177) (fun _ h9 => h9) dX10_goBy_91 ?_
          refine lv_iload_n hx hb dX10_goBy_94 rfl (lv_at hl 3 rfl) ?_
          refine lv_iconst (v := 2) hx hb dX10_goBy_95 (by decide) ?_
          refine lv_iadd hx hb dX10_goBy_96 (lv_topi (fun v_43 e_v_43 => ?_))
          obtain ⟨t_v_43, r_v_43⟩ := tq_add (lo := 2) (hi := 119) r_p1 rl_2 (by decide +kernel) e_v_43
          have t_v_43 : v_43.toInt = p1.toInt + 2 := t_v_43
          refine tg_iald (lo := 0) (hi := 60) hx hb hK hw h_vu_1 rfl 2 119 r_v_43 (by decide) (by exact fun _ _ _ => ⟨Int.le_refl _, Int.le_refl _⟩) dX10_goBy_97 (fun v_44 r_v_44 m_v_44 o_v_44 => ?_)
          have r_v_44 : RI v_44 0 5 := ⟨r_v_44.1, by obtain ⟨_, f9, e8, e7, q9⟩ := x_GL_p0_p1; cases FLD.inj hw.2.2.1 e8 m_u_1; have x9 := ARR.ael hw.2.2.1 e7 m_v_44; rw [show Int32.toNatClampNeg v_43 = Int32.toNatClampNeg p1 + 2 from (by have k1 := r_v_43.cl (by decide); have k2 := r_p1.cl (by decide); omega)] at x9; have q8 := q9.2.2; rw [x9] at q8; exact q8⟩
          have hw8 := hw
          refine tk_v (va_runV (As := [.int v_4, .int v_3, .int v_44]) (rest := []) ⟨hx, hb, hml, hown, hts⟩ (c_X10_live__1 l D cy z H.size Ps w0 hw.1 p0 v_4 v_3 v_44 h_p0 r_v_4 r_v_3 r_v_44 x_SITOK_p0_v_3) (cwV 3 hts (gV tw_1509 tw_1511 ts_79 tw_15 tw_1512) rfl rfl rfl (by decide +kernel) ⟨Nat.le_of_ble_eq_true rfl, Nat.le_of_ble_eq_true rfl⟩) (tg_preV hw hK hSD hA (ci := 10) (q := (RX10, TX10, 49)) rfl h_p0 rfl) rfl rfl hl.1 rfl (lv_room (Nat.le_of_ble_eq_true rfl)) dX10_goBy_98 ⟨Nat.le_of_ble_eq_true rfl, Nat.le_of_ble_eq_true rfl⟩) hw hA ⟨by decide, by decide⟩ (fun ws H locs hp_v_45 hw hF9 => ?_)
          have m_v_3 := AEL.over hw8 hF9 h_vu_1 m_v_3 (by decide)
          have m_v_4 := AEL.over hw8 hF9 h_vu_1 m_v_4 (by decide)
          have m_v_40 := AEL.over hw8 hF9 h_vu_1 m_v_40 (by decide)
          have m_v_44 := AEL.over hw8 hF9 h_vu_1 m_v_44 (by decide)
          have m_u_1 := FLD.over hF9 m_u_1 (by decide)
          have x_GL_p0_p1 := AX.over hF9 x_GL_p0_p1 (by decide)
          refine lv_iconst (v := 0) hx hb dX10_goBy_101 (by decide) ?_
          subst hQ
          exact W.iret (v := 0) hx hb hr (fun t ht hW => ⟨⟨0, ws, rfl, ⟨⟨rl_0.to (by decide), (fun h0 => trivial), (fun _ => trivial)⟩, hw.1, hw.2.2.2.2.1⟩, by rw [ht]; exact hw.2.1, va_K.moved hW.alike hK, hw.2.2.1⟩, hw.2.2.2.1.F ht⟩) hw.2.2.2.1.2.2 dX10_goBy_102
        · exact absurd (r_v_41.eq.trans rl_0.eq.symm) ((ti_ne c_67))
      · have r_v_41 : RI v_41 1 2 := rc_neL r_v_41 rl_0 (ti_ne c9_v_41) (by decide)
        refine lv_istore_n (lv' := [(3, .int v_41), (2, .int v_3), (0, .ref p0), (1, .int p1)]) hx hb dX10_goBy_65 rfl hl (by decide) rfl (fun ls hl => ?_)
        refine lv_iload_n hx hb dX10_goBy_66 rfl (lv_at hl 0 rfl) ?_
        refine lv_if_eq (tgt := 82) hx hb dX10_goBy_67 (by decide) (fun c_67 => ?_) (fun c_67 => ?_)
        · have r_v_41 : RI v_41 1 0 := rc_eq1 r_v_41 rl_0 (ti_eq c_67) (by decide)
          exact (r_v_41.no (by decide)).elim
        · refine lv_bipush (v := 10) hx hb dX10_goBy_70 (by decide) ?_
          refine lv_aload_n hx hb dX10_goBy_72 rfl (lv_at hl 2 rfl) ?_
          refine tg_mem (ci := 10) (C := RX10) (T := TX10) (N := 49) hx hb hts inX10 hown hK hw 40 m_u_1 rfl (by decide) (hts _ tw_1177) (fun _ h9 => h9) dX10_goBy_73 ?_
          refine lv_iload_n hx hb dX10_goBy_76 rfl (lv_at hl 3 rfl) ?_
          refine tg_imem hx hb hK hw h_vu_1 rfl r_p1 (by decide) m_v_4 dX10_goBy_77 ?_
          refine lv_imul hx hb dX10_goBy_78 (lv_topi (fun v_47 e_v_47 => ?_))
          obtain ⟨t_v_47, r_v_47⟩ := tq_mul (lo := 30) (hi := 30) rl_10 r_v_4 (by decide +kernel) e_v_47
          have t_v_47 : v_47.toInt = 10 * v_4.toInt := t_v_47
          refine lv_iload_n hx hb dX10_goBy_79 rfl (lv_at hl 0 rfl) ?_
          refine lv_iadd hx hb dX10_goBy_80 (lv_topi (fun v_48 e_v_48 => ?_))
          obtain ⟨t_v_48, r_v_48⟩ := tq_add (lo := 31) (hi := 32) r_v_47 r_v_41 (by decide +kernel) e_v_48
          subst hQ
          exact W.iret (v := v_48) hx hb hr (fun t ht hW => ⟨⟨v_48, w0, rfl, ⟨⟨r_v_48.to (by decide), (fun _ => trivial), (fun h0 => trivial)⟩, hw.1, hw.2.2.2.2.1⟩, by rw [ht]; exact hw.2.1, va_K.moved hW.alike hK, hw.2.2.1⟩, hw.2.2.2.1.F ht⟩) hw.2.2.2.1.2.2 dX10_goBy_81
    · have r_v_4 : RI v_4 4 4 := ⟨by omega, by omega⟩
      refine lv_aload_n hx hb dX10_goBy_46 rfl (lv_at hl 1 rfl) ?_
      refine lv_aload_n hx hb dX10_goBy_47 rfl (lv_at hl 1 rfl) ?_
      refine tg_mem (ci := 10) (C := RX10) (T := TX10) (N := 49) hx hb hts inX10 hown hK hw 40 m_u_1 rfl (by decide) (hts _ tw_1177) (fun _ h9 => h9) dX10_goBy_48 ?_
      refine lv_iload_n hx hb dX10_goBy_51 rfl (lv_at hl 2 rfl) ?_
      refine tg_imem hx hb hK hw h_vu_1 rfl r_p1 (by decide) m_v_4 dX10_goBy_52 ?_
      refine lv_iload_n hx hb dX10_goBy_53 rfl (lv_at hl 0 rfl) ?_
      refine lv_aload_n hx hb dX10_goBy_54 rfl (lv_at hl 1 rfl) ?_
      refine tg_mem (ci := 10) (C := RX10) (T := TX10) (N := 49) hx hb hts inX10 hown hK hw 40 m_u_1 rfl (by decide) (hts _ tw_1177) (fun _ h9 => h9) dX10_goBy_55 ?_
      refine lv_iload_n hx hb dX10_goBy_58 rfl (lv_at hl 2 rfl) ?_
      refine lv_iconst (v := 2) hx hb dX10_goBy_59 (by decide) ?_
      refine lv_iadd hx hb dX10_goBy_60 (lv_topi (fun v_50 e_v_50 => ?_))
      obtain ⟨t_v_50, r_v_50⟩ := tq_add (lo := 2) (hi := 119) r_p1 rl_2 (by decide +kernel) e_v_50
      have t_v_50 : v_50.toInt = p1.toInt + 2 := t_v_50
      refine tg_iald (lo := 0) (hi := 60) hx hb hK hw h_vu_1 rfl 2 119 r_v_50 (by decide) (by exact fun _ _ _ => ⟨Int.le_refl _, Int.le_refl _⟩) dX10_goBy_61 (fun v_51 r_v_51 m_v_51 o_v_51 => ?_)
      have r_v_51 : RI v_51 0 5 := ⟨r_v_51.1, by obtain ⟨_, f9, e8, e7, q9⟩ := x_GL_p0_p1; cases FLD.inj hw.2.2.1 e8 m_u_1; have x9 := ARR.ael hw.2.2.1 e7 m_v_51; rw [show Int32.toNatClampNeg v_50 = Int32.toNatClampNeg p1 + 2 from (by have k1 := r_v_50.cl (by decide); have k2 := r_p1.cl (by decide); omega)] at x9; have q8 := q9.2.2; rw [x9] at q8; exact q8⟩
      refine tk_ir (va_runV (As := [.int v_4, .int v_3, .int v_51]) (rest := []) ⟨hx, hb, hml, hown, hts⟩ (c_X10_why__7 l D cy z s.heap.size Ps w0 hw.1 p0 v_4 v_3 v_51 h_p0 r_v_4 r_v_3 r_v_51) (cwV 3 hts (gV tw_1501 tw_1503 ts_77 tw_15 tw_1504) rfl rfl rfl (by decide +kernel) ⟨Nat.le_of_ble_eq_true rfl, Nat.le_of_ble_eq_true rfl⟩) (tg_preV hw hK hSD hA (ci := 10) (q := (RX10, TX10, 49)) rfl h_p0 rfl) rfl rfl hl.1 rfl (lv_room (Nat.le_of_ble_eq_true rfl)) dX10_goBy_62 ⟨Nat.le_of_ble_eq_true rfl, Nat.le_of_ble_eq_true rfl⟩) hw hA (fun v_52  H locs hp_v_52 hw => ?_)
      have r_v_52 : RI v_52 0 1 := hp_v_52.1
      refine lv_istore_n (lv' := [(3, .int v_52), (2, .int v_3), (0, .ref p0), (1, .int p1)]) hx hb dX10_goBy_65 rfl hl (by decide) rfl (fun ls hl => ?_)
      refine lv_iload_n hx hb dX10_goBy_66 rfl (lv_at hl 0 rfl) ?_
      refine lv_if_eq (tgt := 82) hx hb dX10_goBy_67 (by decide) (fun c_67 => ?_) (fun c_67 => ?_)
      · have r_v_52 : RI v_52 0 0 := rc_eq1 r_v_52 rl_0 (ti_eq c_67) (by decide)
        refine lv_aload_n hx hb dX10_goBy_82 rfl (lv_at hl 2 rfl) ?_
        refine lv_aload_n hx hb dX10_goBy_83 rfl (lv_at hl 2 rfl) ?_
        refine tg_mem (ci := 10) (C := RX10) (T := TX10) (N := 49) hx hb hts inX10 hown hK hw 40 m_u_1 rfl (by decide) (hts _ tw_1177) (fun _ h9 => h9) dX10_goBy_84 ?_
        refine lv_iload_n hx hb dX10_goBy_87 rfl (lv_at hl 3 rfl) ?_
        refine tg_imem hx hb hK hw h_vu_1 rfl r_p1 (by decide) m_v_4 dX10_goBy_88 ?_
        refine lv_iload_n hx hb dX10_goBy_89 rfl (lv_at hl 1 rfl) ?_
        refine lv_aload_n hx hb dX10_goBy_90 rfl (lv_at hl 2 rfl) ?_
        refine tg_mem (ci := 10) (C := RX10) (T := TX10) (N := 49) hx hb hts inX10 hown hK hw 40 m_u_1 rfl (by decide) (hts _ tw_1177) (fun _ h9 => h9) dX10_goBy_91 ?_
        refine lv_iload_n hx hb dX10_goBy_94 rfl (lv_at hl 3 rfl) ?_
        refine lv_iconst (v := 2) hx hb dX10_goBy_95 (by decide) ?_
        refine lv_iadd hx hb dX10_goBy_96 (lv_topi (fun v_54 e_v_54 => ?_))
        obtain ⟨t_v_54, r_v_54⟩ := tq_add (lo := 2) (hi := 119) r_p1 rl_2 (by decide +kernel) e_v_54
        have t_v_54 : v_54.toInt = p1.toInt + 2 := t_v_54
        refine tg_iald (lo := 0) (hi := 60) hx hb hK hw h_vu_1 rfl 2 119 r_v_54 (by decide) (by exact fun _ _ _ => ⟨Int.le_refl _, Int.le_refl _⟩) dX10_goBy_97 (fun v_55 r_v_55 m_v_55 o_v_55 => ?_)
        have r_v_55 : RI v_55 0 5 := ⟨r_v_55.1, by obtain ⟨_, f9, e8, e7, q9⟩ := x_GL_p0_p1; cases FLD.inj hw.2.2.1 e8 m_u_1; have x9 := ARR.ael hw.2.2.1 e7 m_v_55; rw [show Int32.toNatClampNeg v_54 = Int32.toNatClampNeg p1 + 2 from (by have k1 := r_v_54.cl (by decide); have k2 := r_p1.cl (by decide); omega)] at x9; have q8 := q9.2.2; rw [x9] at q8; exact q8⟩
        have hw8 := hw
        refine tk_v (va_runV (As := [.int v_4, .int v_3, .int v_55]) (rest := []) ⟨hx, hb, hml, hown, hts⟩ (c_X10_live__7 l D cy z H.size Ps w0 hw.1 p0 v_4 v_3 v_55 h_p0 r_v_4 r_v_3 r_v_55) (cwV 3 hts (gV tw_1509 tw_1511 ts_79 tw_15 tw_1512) rfl rfl rfl (by decide +kernel) ⟨Nat.le_of_ble_eq_true rfl, Nat.le_of_ble_eq_true rfl⟩) (tg_preV hw hK hSD hA (ci := 10) (q := (RX10, TX10, 49)) rfl h_p0 rfl) rfl rfl hl.1 rfl (lv_room (Nat.le_of_ble_eq_true rfl)) dX10_goBy_98 ⟨Nat.le_of_ble_eq_true rfl, Nat.le_of_ble_eq_true rfl⟩) hw hA ⟨by decide, by decide⟩ (fun ws H locs hp_v_56 hw hF9 => ?_)
        have m_v_3 := AEL.over hw8 hF9 h_vu_1 m_v_3 (by decide)
        have m_v_4 := AEL.over hw8 hF9 h_vu_1 m_v_4 (by decide)
        have m_v_51 := AEL.over hw8 hF9 h_vu_1 m_v_51 (by decide)
        have m_v_55 := AEL.over hw8 hF9 h_vu_1 m_v_55 (by decide)
        have m_u_1 := FLD.over hF9 m_u_1 (by decide)
        have x_GL_p0_p1 := AX.over hF9 x_GL_p0_p1 (by decide)
        refine lv_iconst (v := 0) hx hb dX10_goBy_101 (by decide) ?_
        subst hQ
        exact W.iret (v := 0) hx hb hr (fun t ht hW => ⟨⟨0, ws, rfl, ⟨⟨rl_0.to (by decide), (fun h0 => trivial), (fun _ => trivial)⟩, hw.1, hw.2.2.2.2.1⟩, by rw [ht]; exact hw.2.1, va_K.moved hW.alike hK, hw.2.2.1⟩, hw.2.2.2.1.F ht⟩) hw.2.2.2.1.2.2 dX10_goBy_102
      · have r_v_52 : RI v_52 1 1 := rc_neL r_v_52 rl_0 (ti_ne c_67) (by decide)
        refine lv_bipush (v := 10) hx hb dX10_goBy_70 (by decide) ?_
        refine lv_aload_n hx hb dX10_goBy_72 rfl (lv_at hl 2 rfl) ?_
        refine tg_mem (ci := 10) (C := RX10) (T := TX10) (N := 49) hx hb hts inX10 hown hK hw 40 m_u_1 rfl (by decide) (hts _ tw_1177) (fun _ h9 => h9) dX10_goBy_73 ?_
        refine lv_iload_n hx hb dX10_goBy_76 rfl (lv_at hl 3 rfl) ?_
        refine tg_imem hx hb hK hw h_vu_1 rfl r_p1 (by decide) m_v_4 dX10_goBy_77 ?_
        refine lv_imul hx hb dX10_goBy_78 (lv_topi (fun v_58 e_v_58 => ?_))
        obtain ⟨t_v_58, r_v_58⟩ := tq_mul (lo := 40) (hi := 40) rl_10 r_v_4 (by decide +kernel) e_v_58
        have t_v_58 : v_58.toInt = 10 * v_4.toInt := t_v_58
        refine lv_iload_n hx hb dX10_goBy_79 rfl (lv_at hl 0 rfl) ?_
        refine lv_iadd hx hb dX10_goBy_80 (lv_topi (fun v_59 e_v_59 => ?_))
        obtain ⟨t_v_59, r_v_59⟩ := tq_add (lo := 41) (hi := 41) r_v_58 r_v_52 (by decide +kernel) e_v_59
        subst hQ
        exact W.iret (v := v_59) hx hb hr (fun t ht hW => ⟨⟨v_59, w0, rfl, ⟨⟨r_v_59.to (by decide), (fun _ => trivial), (fun h0 => trivial)⟩, hw.1, hw.2.2.2.2.1⟩, by rw [ht]; exact hw.2.1, va_K.moved hW.alike hK, hw.2.2.1⟩, hw.2.2.2.1.F ht⟩) hw.2.2.2.1.2.2 dX10_goBy_81
    · have r_v_4 : RI v_4 5 5 := ⟨by omega, by omega⟩
      refine lv_aload_n hx hb dX10_goBy_46 rfl (lv_at hl 1 rfl) ?_
      refine lv_aload_n hx hb dX10_goBy_47 rfl (lv_at hl 1 rfl) ?_
      refine tg_mem (ci := 10) (C := RX10) (T := TX10) (N := 49) hx hb hts inX10 hown hK hw 40 m_u_1 rfl (by decide) (hts _ tw_1177) (fun _ h9 => h9) dX10_goBy_48 ?_
      refine lv_iload_n hx hb dX10_goBy_51 rfl (lv_at hl 2 rfl) ?_
      refine tg_imem hx hb hK hw h_vu_1 rfl r_p1 (by decide) m_v_4 dX10_goBy_52 ?_
      refine lv_iload_n hx hb dX10_goBy_53 rfl (lv_at hl 0 rfl) ?_
      refine lv_aload_n hx hb dX10_goBy_54 rfl (lv_at hl 1 rfl) ?_
      refine tg_mem (ci := 10) (C := RX10) (T := TX10) (N := 49) hx hb hts inX10 hown hK hw 40 m_u_1 rfl (by decide) (hts _ tw_1177) (fun _ h9 => h9) dX10_goBy_55 ?_
      refine lv_iload_n hx hb dX10_goBy_58 rfl (lv_at hl 2 rfl) ?_
      refine lv_iconst (v := 2) hx hb dX10_goBy_59 (by decide) ?_
      refine lv_iadd hx hb dX10_goBy_60 (lv_topi (fun v_61 e_v_61 => ?_))
      obtain ⟨t_v_61, r_v_61⟩ := tq_add (lo := 2) (hi := 119) r_p1 rl_2 (by decide +kernel) e_v_61
      have t_v_61 : v_61.toInt = p1.toInt + 2 := t_v_61
      refine tg_iald (lo := 0) (hi := 60) hx hb hK hw h_vu_1 rfl 2 119 r_v_61 (by decide) (by exact fun _ _ _ => ⟨Int.le_refl _, Int.le_refl _⟩) dX10_goBy_61 (fun v_62 r_v_62 m_v_62 o_v_62 => ?_)
      have r_v_62 : RI v_62 0 5 := ⟨r_v_62.1, by obtain ⟨_, f9, e8, e7, q9⟩ := x_GL_p0_p1; cases FLD.inj hw.2.2.1 e8 m_u_1; have x9 := ARR.ael hw.2.2.1 e7 m_v_62; rw [show Int32.toNatClampNeg v_61 = Int32.toNatClampNeg p1 + 2 from (by have k1 := r_v_61.cl (by decide); have k2 := r_p1.cl (by decide); omega)] at x9; have q8 := q9.2.2; rw [x9] at q8; exact q8⟩
      refine tk_ir (va_runV (As := [.int v_4, .int v_3, .int v_62]) (rest := []) ⟨hx, hb, hml, hown, hts⟩ (c_X10_why__8 l D cy z s.heap.size Ps w0 hw.1 p0 v_4 v_3 v_62 h_p0 r_v_4 r_v_3 r_v_62) (cwV 3 hts (gV tw_1501 tw_1503 ts_77 tw_15 tw_1504) rfl rfl rfl (by decide +kernel) ⟨Nat.le_of_ble_eq_true rfl, Nat.le_of_ble_eq_true rfl⟩) (tg_preV hw hK hSD hA (ci := 10) (q := (RX10, TX10, 49)) rfl h_p0 rfl) rfl rfl hl.1 rfl (lv_room (Nat.le_of_ble_eq_true rfl)) dX10_goBy_62 ⟨Nat.le_of_ble_eq_true rfl, Nat.le_of_ble_eq_true rfl⟩) hw hA (fun v_63  H locs hp_v_63 hw => ?_)
      have r_v_63 : RI v_63 0 2 := hp_v_63.1
      refine lv_istore_n (lv' := [(3, .int v_63), (2, .int v_3), (0, .ref p0), (1, .int p1)]) hx hb dX10_goBy_65 rfl hl (by decide) rfl (fun ls hl => ?_)
      refine lv_iload_n hx hb dX10_goBy_66 rfl (lv_at hl 0 rfl) ?_
      refine lv_if_eq (tgt := 82) hx hb dX10_goBy_67 (by decide) (fun c_67 => ?_) (fun c_67 => ?_)
      · have r_v_63 : RI v_63 0 0 := rc_eq1 r_v_63 rl_0 (ti_eq c_67) (by decide)
        refine lv_aload_n hx hb dX10_goBy_82 rfl (lv_at hl 2 rfl) ?_
        refine lv_aload_n hx hb dX10_goBy_83 rfl (lv_at hl 2 rfl) ?_
        refine tg_mem (ci := 10) (C := RX10) (T := TX10) (N := 49) hx hb hts inX10 hown hK hw 40 m_u_1 rfl (by decide) (hts _ tw_1177) (fun _ h9 => h9) dX10_goBy_84 ?_
        refine lv_iload_n hx hb dX10_goBy_87 rfl (lv_at hl 3 rfl) ?_
        refine tg_imem hx hb hK hw h_vu_1 rfl r_p1 (by decide) m_v_4 dX10_goBy_88 ?_
        refine lv_iload_n hx hb dX10_goBy_89 rfl (lv_at hl 1 rfl) ?_
        refine lv_aload_n hx hb dX10_goBy_90 rfl (lv_at hl 2 rfl) ?_
        refine tg_mem (ci := 10) (C := RX10) (T := TX10) (N := 49) hx hb hts inX10 hown hK hw 40 m_u_1 rfl (by decide) (hts _ tw_1177) (fun _ h9 => h9) dX10_goBy_91 ?_
        refine lv_iload_n hx hb dX10_goBy_94 rfl (lv_at hl 3 rfl) ?_
        refine lv_iconst (v := 2) hx hb dX10_goBy_95 (by decide) ?_
        refine lv_iadd hx hb dX10_goBy_96 (lv_topi (fun v_65 e_v_65 => ?_))
        obtain ⟨t_v_65, r_v_65⟩ := tq_add (lo := 2) (hi := 119) r_p1 rl_2 (by decide +kernel) e_v_65
        have t_v_65 : v_65.toInt = p1.toInt + 2 := t_v_65
        refine tg_iald (lo := 0) (hi := 60) hx hb hK hw h_vu_1 rfl 2 119 r_v_65 (by decide) (by exact fun _ _ _ => ⟨Int.le_refl _, Int.le_refl _⟩) dX10_goBy_97 (fun v_66 r_v_66 m_v_66 o_v_66 => ?_)
        have r_v_66 : RI v_66 0 5 := ⟨r_v_66.1, by obtain ⟨_, f9, e8, e7, q9⟩ := x_GL_p0_p1; cases FLD.inj hw.2.2.1 e8 m_u_1; have x9 := ARR.ael hw.2.2.1 e7 m_v_66; rw [show Int32.toNatClampNeg v_65 = Int32.toNatClampNeg p1 + 2 from (by have k1 := r_v_65.cl (by decide); have k2 := r_p1.cl (by decide); omega)] at x9; have q8 := q9.2.2; rw [x9] at q8; exact q8⟩
        have hw8 := hw
        refine tk_v (va_runV (As := [.int v_4, .int v_3, .int v_66]) (rest := []) ⟨hx, hb, hml, hown, hts⟩ (c_X10_live__8 l D cy z H.size Ps w0 hw.1 p0 v_4 v_3 v_66 h_p0 r_v_4 r_v_3 r_v_66) (cwV 3 hts (gV tw_1509 tw_1511 ts_79 tw_15 tw_1512) rfl rfl rfl (by decide +kernel) ⟨Nat.le_of_ble_eq_true rfl, Nat.le_of_ble_eq_true rfl⟩) (tg_preV hw hK hSD hA (ci := 10) (q := (RX10, TX10, 49)) rfl h_p0 rfl) rfl rfl hl.1 rfl (lv_room (Nat.le_of_ble_eq_true rfl)) dX10_goBy_98 ⟨Nat.le_of_ble_eq_true rfl, Nat.le_of_ble_eq_true rfl⟩) hw hA ⟨by decide, by decide⟩ (fun ws H locs hp_v_67 hw hF9 => ?_)
        have m_v_3 := AEL.over hw8 hF9 h_vu_1 m_v_3 (by decide)
        have m_v_4 := AEL.over hw8 hF9 h_vu_1 m_v_4 (by decide)
        have m_v_62 := AEL.over hw8 hF9 h_vu_1 m_v_62 (by decide)
        have m_v_66 := AEL.over hw8 hF9 h_vu_1 m_v_66 (by decide)
        have m_u_1 := FLD.over hF9 m_u_1 (by decide)
        have x_GL_p0_p1 := AX.over hF9 x_GL_p0_p1 (by decide)
        refine lv_iconst (v := 0) hx hb dX10_goBy_101 (by decide) ?_
        subst hQ
        exact W.iret (v := 0) hx hb hr (fun t ht hW => ⟨⟨0, ws, rfl, ⟨⟨rl_0.to (by decide), (fun h0 => trivial), (fun _ => trivial)⟩, hw.1, hw.2.2.2.2.1⟩, by rw [ht]; exact hw.2.1, va_K.moved hW.alike hK, hw.2.2.1⟩, hw.2.2.2.1.F ht⟩) hw.2.2.2.1.2.2 dX10_goBy_102
      · have r_v_63 : RI v_63 1 2 := rc_neL r_v_63 rl_0 (ti_ne c_67) (by decide)
        refine lv_bipush (v := 10) hx hb dX10_goBy_70 (by decide) ?_
        refine lv_aload_n hx hb dX10_goBy_72 rfl (lv_at hl 2 rfl) ?_
        refine tg_mem (ci := 10) (C := RX10) (T := TX10) (N := 49) hx hb hts inX10 hown hK hw 40 m_u_1 rfl (by decide) (hts _ tw_1177) (fun _ h9 => h9) dX10_goBy_73 ?_
        refine lv_iload_n hx hb dX10_goBy_76 rfl (lv_at hl 3 rfl) ?_
        refine tg_imem hx hb hK hw h_vu_1 rfl r_p1 (by decide) m_v_4 dX10_goBy_77 ?_
        refine lv_imul hx hb dX10_goBy_78 (lv_topi (fun v_69 e_v_69 => ?_))
        obtain ⟨t_v_69, r_v_69⟩ := tq_mul (lo := 50) (hi := 50) rl_10 r_v_4 (by decide +kernel) e_v_69
        have t_v_69 : v_69.toInt = 10 * v_4.toInt := t_v_69
        refine lv_iload_n hx hb dX10_goBy_79 rfl (lv_at hl 0 rfl) ?_
        refine lv_iadd hx hb dX10_goBy_80 (lv_topi (fun v_70 e_v_70 => ?_))
        obtain ⟨t_v_70, r_v_70⟩ := tq_add (lo := 51) (hi := 52) r_v_69 r_v_63 (by decide +kernel) e_v_70
        subst hQ
        exact W.iret (v := v_70) hx hb hr (fun t ht hW => ⟨⟨v_70, w0, rfl, ⟨⟨r_v_70.to (by decide), (fun _ => trivial), (fun h0 => trivial)⟩, hw.1, hw.2.2.2.2.1⟩, by rw [ht]; exact hw.2.1, va_K.moved hW.alike hK, hw.2.2.1⟩, hw.2.2.2.1.F ht⟩) hw.2.2.2.1.2.2 dX10_goBy_81
  · have r_v_4 : RI v_4 6 6 := rc_eq1 r_v_4 rl_6 (ti_eq c_17) (by decide)
    refine lv_aload_n hx hb dX10_goBy_20 rfl (lv_at hl 1 rfl) ?_
    refine tg_get (ci := 10) (ts := ty_MODEL) (C := RX10) (T := TX10) (N := 49) hx hb hts inX10 hown hK hw h_p0 rfl rfl 14 (by decide) (hts _ tw_1151) (fun _ h9 => h9) (ft := vR 34) rfl dX10_goBy_21 (fun u_71 hv_u_71 m_u_71 => ?_)
    obtain ⟨vu_71, rfl, h_vu_71⟩ := hv_u_71
    refine lv_bipush (v := 84) hx hb dX10_goBy_24 (by decide) ?_
    refine tg_iald (lo := (-2147483648)) (hi := 2147483647) hx hb hK hw h_vu_71 rfl 84 84 rl_84 (by decide) (by decide +kernel) dX10_goBy_26 (fun v_72 r_v_72 m_v_72 o_v_72 => ?_)
    refine lv_iload_n hx hb dX10_goBy_27 rfl (lv_at hl 0 rfl) ?_
    refine lv_iadd hx hb dX10_goBy_28 (lv_topi (fun v_73 e_v_73 => ?_))
    have r_v_73 := ri_any v_73
    refine lv_sipush (v := 400) hx hb dX10_goBy_29 (by decide) ?_
    refine lv_icmp_le (tgt := 38) hx hb dX10_goBy_32 (by decide) (fun c_32 => ?_) (fun c_32 => ?_)
    · have r_v_73 : RI v_73 (-2147483648) 400 := rc_le1 r_v_73 rl_400 (ti_le c_32) (by decide)
      refine lv_aload_n hx hb dX10_goBy_38 rfl (lv_at hl 1 rfl) ?_
      refine lv_iload_n hx hb dX10_goBy_39 rfl (lv_at hl 0 rfl) ?_
      have hw8 := hw
      refine tk_i (va_runV (As := [.int v_3]) (rest := []) ⟨hx, hb, hml, hown, hts⟩ (c_X10_passDays l D cy z s.heap.size Ps w0 hw.1 p0 v_3 h_p0 (r_v_3.to (by decide))) (cwV 1 hts (gV tw_1560 tw_1562 ts_84 tw_15 tw_1563) rfl rfl rfl (by decide +kernel) ⟨Nat.le_of_ble_eq_true rfl, Nat.le_of_ble_eq_true rfl⟩) (tg_preV hw hK hSD hA (ci := 10) (q := (RX10, TX10, 49)) rfl h_p0 rfl) rfl rfl hl.1 rfl (lv_room (Nat.le_of_ble_eq_true rfl)) dX10_goBy_40 ⟨Nat.le_of_ble_eq_true rfl, Nat.le_of_ble_eq_true rfl⟩) hw hA ⟨by decide, by decide⟩ (fun v_74 ws H locs hp_v_74 hw hF9 => ?_)
      have m_v_3 := AEL.over hw8 hF9 h_vu_1 m_v_3 (by decide)
      have m_v_4 := AEL.over hw8 hF9 h_vu_1 m_v_4 (by decide)
      have m_u_1 := FLD.over hF9 m_u_1 (by decide)
      have m_u_71 := FLD.over hF9 m_u_71 (by decide)
      have x_GL_p0_p1 := AX.over hF9 x_GL_p0_p1 (by decide)
      have r_v_74 : RI v_74 (-2147483648) 2147483647 := hp_v_74.1
      refine lv_pop hx hb dX10_goBy_43 rfl ?_
      refine lv_iconst (v := 0) hx hb dX10_goBy_44 (by decide) ?_
      subst hQ
      exact W.iret (v := 0) hx hb hr (fun t ht hW => ⟨⟨0, ws, rfl, ⟨⟨rl_0.to (by decide), (fun h0 => trivial), (fun _ => trivial)⟩, hw.1, hw.2.2.2.2.1⟩, by rw [ht]; exact hw.2.1, va_K.moved hW.alike hK, hw.2.2.1⟩, hw.2.2.2.1.F ht⟩) hw.2.2.2.1.2.2 dX10_goBy_45
    · have r_v_73 : RI v_73 401 2147483647 := rc_lt2 rl_400 r_v_73 (ti_nle c_32) (by decide)
      refine lv_bipush (v := 61) hx hb dX10_goBy_35 (by decide) ?_
      subst hQ
      exact W.iret (v := 61) hx hb hr (fun t ht hW => ⟨⟨61, w0, rfl, ⟨⟨rl_61.to (by decide), (fun _ => trivial), (fun h0 => trivial)⟩, hw.1, hw.2.2.2.2.1⟩, by rw [ht]; exact hw.2.1, va_K.moved hW.alike hK, hw.2.2.1⟩, hw.2.2.2.1.F ht⟩) hw.2.2.2.1.2.2 dX10_goBy_37
abbrev wr_X10_wordOf__4 : List (Nat × Nat) := []
abbrev wa_X10_wordOf__4 : List Nat := []
set_option maxHeartbeats 4000000 in
set_option maxRecDepth 100000 in
theorem c_X10_wordOf__4 (l : Launch) (D : va_G) (cy : Nat → ClassId) (z : Nat → Nat) (sz : Nat) (Ps : PSI) (w0 : va_W) (hT : HT cy GG Ps w0) (p0 : Int32) (r_p0 : RI p0 13 13) : Met l yX10_wordOf (Cond.code yX10_wordOf cX10_wordOf 1 (some .long) :: gT) ({ frames := 2, cells := 0, slots := 0, locals := 400 } : Room) (va_Pc [.int p0] (PRE D cy z w0 sz)) (va_Ql (fun (r : Int64) (u : Unit) => RJ r 307058 307058) (BB D cy (va_A w0 sz) (fun (u : Unit) => w0)) (va_A w0 sz)) 0 0 (va_A w0 sz) := by
  refine Met.ofW (cc := cX10_wordOf) (maxL := 1) (ret := (some .long)) (by decide) rfl ?_
  intro p e s m args below meth c s₁ B hml hv
  obtain ⟨rfl, hsz, hP, hK, hD0, hSD⟩ := hv
  have hx := B.exec
  have hb := B.bytes
  have hr := B.returns
  have hlocks := B.notSynchronized
  have hts : ∀ w ∈ gT, w.before _ s = true := fun w h => atoms_spec (ws := Cond.code yX10_wordOf cX10_wordOf 1 (some .long) :: gT) B.pre w (List.mem_cons_of_mem _ h)
  have hown : s.vm.findClass RX10 = some m.cls := findClass_of_methodNamed B.named
  subst hsz
  have hD := hD0.self (sz := s.heap.size)
  generalize hAe : va_A w0 s.heap.size = A at hD hSD ⊢
  have hA : ∀ q : Nat, s.heap.size ≤ q → A q := fun q h => by rw [← hAe]; exact Or.inr h
  have hl := lv_entry ([.int p0]) (n := 1) (Nat.le_of_ble_eq_true rfl)
  rw [lg_entry_eq]
  generalize (lg_sl ([.int p0]) ++ List.replicate (1 - (lg_sl ([.int p0])).length) Slot.unset).toArray = ls at hl ⊢
  have hl : lv_has ls 1 [(0, .int p0)] := hl
  refine nameQ (fun Q hQ => ?_)
  have hw : WD D cy GG A s wr_X10_wordOf__4 wa_X10_wordOf__4 Ps w0 Ps w0 s.heap [] := ⟨hT, hP, hD, va_S.rf, FR.rf, hT.1, [], (List.append_nil _).symm⟩
  refine lv_iload_n hx hb dX10_wordOf_0 rfl (lv_at hl 0 rfl) ?_
  have w_1 := r_p0
  by_cases cl_1 : p0.toInt < 0 ∨ 26 < p0.toInt
  · refine lv_tableOut (tgt := 547) hx hb dX10_wordOf_1 cl_1 (by decide) ?_
    exact absurd cl_1 (by unfold RI at w_1; omega)
  · have e_1 : p0.toInt = 0 ∨ p0.toInt = 1 ∨ p0.toInt = 2 ∨ p0.toInt = 3 ∨ p0.toInt = 4 ∨ p0.toInt = 5 ∨ p0.toInt = 6 ∨ p0.toInt = 7 ∨ p0.toInt = 8 ∨ p0.toInt = 9 ∨ p0.toInt = 10 ∨ p0.toInt = 11 ∨ p0.toInt = 12 ∨ p0.toInt = 13 ∨ p0.toInt = 14 ∨ p0.toInt = 15 ∨ p0.toInt = 16 ∨ p0.toInt = 17 ∨ p0.toInt = 18 ∨ p0.toInt = 19 ∨ p0.toInt = 20 ∨ p0.toInt = 21 ∨ p0.toInt = 22 ∨ p0.toInt = 23 ∨ p0.toInt = 24 ∨ p0.toInt = 25 ∨ p0.toInt = 26 := by omega
    rcases e_1 with h_1 | h_1 | h_1 | h_1 | h_1 | h_1 | h_1 | h_1 | h_1 | h_1 | h_1 | h_1 | h_1 | h_1 | h_1 | h_1 | h_1 | h_1 | h_1 | h_1 | h_1 | h_1 | h_1 | h_1 | h_1 | h_1 | h_1
    · exact absurd h_1 (by unfold RI at w_1; omega)
    · exact absurd h_1 (by unfold RI at w_1; omega)
    · exact absurd h_1 (by unfold RI at w_1; omega)
    · exact absurd h_1 (by unfold RI at w_1; omega)
    · exact absurd h_1 (by unfold RI at w_1; omega)
    · exact absurd h_1 (by unfold RI at w_1; omega)
    · exact absurd h_1 (by unfold RI at w_1; omega)
    · exact absurd h_1 (by unfold RI at w_1; omega)
    · exact absurd h_1 (by unfold RI at w_1; omega)
    · exact absurd h_1 (by unfold RI at w_1; omega)
    · exact absurd h_1 (by unfold RI at w_1; omega)
    · exact absurd h_1 (by unfold RI at w_1; omega)
    · exact absurd h_1 (by unfold RI at w_1; omega)
    · refine lv_tableIn (tgt := 334) (off := 333) hx hb dX10_wordOf_1 (by omega) (by omega) (by rw [h_1]; rfl) (by decide) ?_
      have r_p0 : RI p0 13 13 := ⟨by omega, by omega⟩
      refine lv_bipush (v := 111) hx hb dX10_wordOf_334 (by decide) ?_
      refine lv_bipush (v := 112) hx hb dX10_wordOf_336 (by decide) ?_
      refine lv_bipush (v := 101) hx hb dX10_wordOf_338 (by decide) ?_
      refine lv_bipush (v := 110) hx hb dX10_wordOf_340 (by decide) ?_
      refine lv_iconst (v := 0) hx hb dX10_wordOf_342 (by decide) ?_
      refine lv_iconst (v := 0) hx hb dX10_wordOf_343 (by decide) ?_
      refine lv_iconst (v := 0) hx hb dX10_wordOf_344 (by decide) ?_
      refine tk_lr (va_runS (As := [.int 111, .int 112, .int 101, .int 110, .int 0, .int 0, .int 0]) (rest := []) ⟨hx, hb, hml, hown, hts⟩ (c_X10_spelt__14 l D cy z s.heap.size Ps w0 hw.1 111 112 101 110 0 0 0 rl_111 rl_112 rl_101 rl_110 rl_0 rl_0 rl_0) (va_cwS 7 hts (gS tw_1325 tw_1326 tw_15 tw_1327) rfl rfl rfl (by decide +kernel) ⟨Nat.le_of_ble_eq_true rfl, Nat.le_of_ble_eq_true rfl⟩) (tg_preS hw hK hSD hA) rfl rfl hl.1 rfl (lv_room (Nat.le_of_ble_eq_true rfl)) dX10_wordOf_345 ⟨Nat.le_of_ble_eq_true rfl, Nat.le_of_ble_eq_true rfl⟩) hw hA (fun v_1  H locs hp_v_1 hw => ?_)
      have r_v_1 : RJ v_1 307058 307058 := hp_v_1
      subst hQ
      exact W.lret (v := v_1) hx hb hr (fun t ht hW => ⟨⟨v_1, (), rfl, r_v_1.to (by decide), by rw [ht]; exact hw.2.1, va_K.moved hW.alike hK, hw.2.2.1⟩, hw.2.2.2.1.F ht⟩) hw.2.2.2.1.2.2 dX10_wordOf_348
    · exact absurd h_1 (by unfold RI at w_1; omega)
    · exact absurd h_1 (by unfold RI at w_1; omega)
    · exact absurd h_1 (by unfold RI at w_1; omega)
    · exact absurd h_1 (by unfold RI at w_1; omega)
    · exact absurd h_1 (by unfold RI at w_1; omega)
    · exact absurd h_1 (by unfold RI at w_1; omega)
    · exact absurd h_1 (by unfold RI at w_1; omega)
    · exact absurd h_1 (by unfold RI at w_1; omega)
    · exact absurd h_1 (by unfold RI at w_1; omega)
    · exact absurd h_1 (by unfold RI at w_1; omega)
    · exact absurd h_1 (by unfold RI at w_1; omega)
    · exact absurd h_1 (by unfold RI at w_1; omega)
    · exact absurd h_1 (by unfold RI at w_1; omega)
abbrev wr_X10_isWord__1 : List (Nat × Nat) := []
abbrev wa_X10_isWord__1 : List Nat := []
set_option maxHeartbeats 4000000 in
set_option maxRecDepth 100000 in
theorem c_X10_isWord__1 (l : Launch) (D : va_G) (cy : Nat → ClassId) (z : Nat → Nat) (sz : Nat) (Ps : PSI) (w0 : va_W) (hT : HT cy GG Ps w0) (p0 : Nat) (p1 : Int32) (h_p0 : (p0, 55) ∈ Ps) (r_p1 : RI p1 13 13) : Met l yX10_isWord (Cond.code yX10_isWord cX10_isWord 2 (some .boolean) :: gT) ({ frames := 3, cells := 0, slots := 0, locals := 600 } : Room) (va_Pc [.ref p0, .int p1] (PRE D cy z w0 sz)) (va_Qi (fun (r : Int32) (u : Unit) => RI r 0 1 ∧ (r = 0 → True) ∧ (¬ r = 0 → WRD w0 p0 307058 ∧ True)) (BB D cy (va_A w0 sz) (fun (u : Unit) => w0)) (va_A w0 sz)) 0 0 (va_A w0 sz) := by
  refine Met.ofW (cc := cX10_isWord) (maxL := 2) (ret := (some .boolean)) (by decide) rfl ?_
  intro p e s m args below meth c s₁ B hml hv
  obtain ⟨rfl, hsz, hP, hK, hD0, hSD⟩ := hv
  have hx := B.exec
  have hb := B.bytes
  have hr := B.returns
  have hlocks := B.notSynchronized
  have hts : ∀ w ∈ gT, w.before _ s = true := fun w h => atoms_spec (ws := Cond.code yX10_isWord cX10_isWord 2 (some .boolean) :: gT) B.pre w (List.mem_cons_of_mem _ h)
  have hown : s.vm.findClass RX10 = some m.cls := findClass_of_methodNamed B.named
  subst hsz
  have hD := hD0.self (sz := s.heap.size)
  generalize hAe : va_A w0 s.heap.size = A at hD hSD ⊢
  have hA : ∀ q : Nat, s.heap.size ≤ q → A q := fun q h => by rw [← hAe]; exact Or.inr h
  have hl := lv_entry ([.ref p0, .int p1]) (n := 2) (Nat.le_of_ble_eq_true rfl)
  rw [lg_entry_eq]
  generalize (lg_sl ([.ref p0, .int p1]) ++ List.replicate (2 - (lg_sl ([.ref p0, .int p1])).length) Slot.unset).toArray = ls at hl ⊢
  have hl : lv_has ls 2 [(0, .ref p0), (1, .int p1)] := hl
  refine nameQ (fun Q hQ => ?_)
  have hw : WD D cy GG A s wr_X10_isWord__1 wa_X10_isWord__1 Ps w0 Ps w0 s.heap [] := ⟨hT, hP, hD, va_S.rf, FR.rf, hT.1, [], (List.append_nil _).symm⟩
  refine lv_aload_n hx hb dX10_isWord_0 rfl (lv_at hl 0 rfl) ?_
  refine tg_get (ci := 10) (ts := ty_MODEL) (C := RX10) (T := TX10) (N := 49) hx hb hts inX10 hown hK hw h_p0 rfl rfl 7 (by decide) (hts _ tw_1144) (fun _ h9 => h9) (ft := vI (-2147483648) 2147483647) rfl dX10_isWord_1 (fun u_1 hv_u_1 m_u_1 => ?_)
  obtain ⟨vu_1, rfl, r_vu_1⟩ := hv_u_1
  refine lv_iconst (v := 2) hx hb dX10_isWord_4 (by decide) ?_
  refine lv_icmp_ne (tgt := 24) hx hb dX10_isWord_5 (by decide) (fun c_5 => ?_) (fun c_5 => ?_)
  · refine lv_iconst (v := 0) hx hb dX10_isWord_24 (by decide) ?_
    subst hQ
    exact W.zret (v := 0) hx hb hr (rfl) (fun t ht hW => ⟨⟨0, (), rfl, ⟨rl_0.to (by decide), (fun h0 => trivial), (fun h0 => absurd rfl h0)⟩, by rw [ht]; exact hw.2.1, va_K.moved hW.alike hK, hw.2.2.1⟩, hw.2.2.2.1.F ht⟩) hw.2.2.2.1.2.2 dX10_isWord_25
  · have r_vu_1 : RI vu_1 2 2 := rc_eq1 r_vu_1 rl_2 (ti_eq c_5) (by decide)
    refine lv_aload_n hx hb dX10_isWord_8 rfl (lv_at hl 0 rfl) ?_
    refine tg_get (ci := 10) (ts := ty_MODEL) (C := RX10) (T := TX10) (N := 49) hx hb hts inX10 hown hK hw h_p0 rfl rfl 12 (by decide) (hts _ tw_1149) (fun _ h9 => h9) (ft := vJ (-9223372036854775808) 9223372036854775807) rfl dX10_isWord_9 (fun u_2 hv_u_2 m_u_2 => ?_)
    obtain ⟨vu_2, rfl, r_vu_2⟩ := hv_u_2
    refine lv_iload_n hx hb dX10_isWord_12 rfl (lv_at hl 1 rfl) ?_
    refine tk_lr (va_runS (As := [.int p1]) (rest := [.long vu_2]) ⟨hx, hb, hml, hown, hts⟩ (c_X10_wordOf__4 l D cy z s.heap.size Ps w0 hw.1 p1 r_p1) (va_cwS 1 hts (gS tw_1322 tw_1323 tw_15 tw_1324) rfl rfl rfl (by decide +kernel) ⟨Nat.le_of_ble_eq_true rfl, Nat.le_of_ble_eq_true rfl⟩) (tg_preS hw hK hSD hA) rfl rfl hl.1 rfl (lv_room (Nat.le_of_ble_eq_true rfl)) dX10_isWord_13 ⟨Nat.le_of_ble_eq_true rfl, Nat.le_of_ble_eq_true rfl⟩) hw hA (fun v_3  H locs hp_v_3 hw => ?_)
    have r_v_3 : RJ v_3 307058 307058 := hp_v_3
    refine W.lcmp hx hb dX10_isWord_16 (lv_topi (fun v_4 e_v_4 => ?_))
    have r_v_4 := ri_any v_4
    refine lv_if_ne (tgt := 24) hx hb dX10_isWord_17 (by decide) (fun c_17 => ?_) (fun c_17 => ?_)
    · refine lv_iconst (v := 0) hx hb dX10_isWord_24 (by decide) ?_
      subst hQ
      exact W.zret (v := 0) hx hb hr (rfl) (fun t ht hW => ⟨⟨0, (), rfl, ⟨rl_0.to (by decide), (fun h0 => trivial), (fun h0 => absurd rfl h0)⟩, by rw [ht]; exact hw.2.1, va_K.moved hW.alike hK, hw.2.2.1⟩, hw.2.2.2.1.F ht⟩) hw.2.2.2.1.2.2 dX10_isWord_25
    · have r_v_4 : RI v_4 0 0 := rc_eq1 r_v_4 rl_0 (ti_eq c_17) (by decide)
      have x_WRD_p0_307058 : WRD w0 p0 307058 := ⟨_, m_u_2, by have k1 := lcmp_eq e_v_4 c_17; have k2 := r_v_3.1; have k3 := r_v_3.2; rw [k1]; omega⟩
      refine lv_iconst (v := 1) hx hb dX10_isWord_20 (by decide) ?_
      refine lv_goto (tgt := 25) hx hb dX10_isWord_21 (by decide) ?_
      subst hQ
      exact W.zret (v := 1) hx hb hr (rfl) (fun t ht hW => ⟨⟨1, (), rfl, ⟨rl_1.to (by decide), (fun _ => trivial), (fun h0 => ⟨x_WRD_p0_307058, trivial⟩)⟩, by rw [ht]; exact hw.2.1, va_K.moved hW.alike hK, hw.2.2.1⟩, hw.2.2.2.1.F ht⟩) hw.2.2.2.1.2.2 dX10_isWord_25
abbrev wr_X10_wordOf__5 : List (Nat × Nat) := []
abbrev wa_X10_wordOf__5 : List Nat := []
set_option maxHeartbeats 4000000 in
set_option maxRecDepth 100000 in
theorem c_X10_wordOf__5 (l : Launch) (D : va_G) (cy : Nat → ClassId) (z : Nat → Nat) (sz : Nat) (Ps : PSI) (w0 : va_W) (hT : HT cy GG Ps w0) (p0 : Int32) (r_p0 : RI p0 14 14) : Met l yX10_wordOf (Cond.code yX10_wordOf cX10_wordOf 1 (some .long) :: gT) ({ frames := 2, cells := 0, slots := 0, locals := 400 } : Room) (va_Pc [.int p0] (PRE D cy z w0 sz)) (va_Ql (fun (r : Int64) (u : Unit) => RJ r 1627639 1627639) (BB D cy (va_A w0 sz) (fun (u : Unit) => w0)) (va_A w0 sz)) 0 0 (va_A w0 sz) := by
  refine Met.ofW (cc := cX10_wordOf) (maxL := 1) (ret := (some .long)) (by decide) rfl ?_
  intro p e s m args below meth c s₁ B hml hv
  obtain ⟨rfl, hsz, hP, hK, hD0, hSD⟩ := hv
  have hx := B.exec
  have hb := B.bytes
  have hr := B.returns
  have hlocks := B.notSynchronized
  have hts : ∀ w ∈ gT, w.before _ s = true := fun w h => atoms_spec (ws := Cond.code yX10_wordOf cX10_wordOf 1 (some .long) :: gT) B.pre w (List.mem_cons_of_mem _ h)
  have hown : s.vm.findClass RX10 = some m.cls := findClass_of_methodNamed B.named
  subst hsz
  have hD := hD0.self (sz := s.heap.size)
  generalize hAe : va_A w0 s.heap.size = A at hD hSD ⊢
  have hA : ∀ q : Nat, s.heap.size ≤ q → A q := fun q h => by rw [← hAe]; exact Or.inr h
  have hl := lv_entry ([.int p0]) (n := 1) (Nat.le_of_ble_eq_true rfl)
  rw [lg_entry_eq]
  generalize (lg_sl ([.int p0]) ++ List.replicate (1 - (lg_sl ([.int p0])).length) Slot.unset).toArray = ls at hl ⊢
  have hl : lv_has ls 1 [(0, .int p0)] := hl
  refine nameQ (fun Q hQ => ?_)
  have hw : WD D cy GG A s wr_X10_wordOf__5 wa_X10_wordOf__5 Ps w0 Ps w0 s.heap [] := ⟨hT, hP, hD, va_S.rf, FR.rf, hT.1, [], (List.append_nil _).symm⟩
  refine lv_iload_n hx hb dX10_wordOf_0 rfl (lv_at hl 0 rfl) ?_
  have w_1 := r_p0
  by_cases cl_1 : p0.toInt < 0 ∨ 26 < p0.toInt
  · refine lv_tableOut (tgt := 547) hx hb dX10_wordOf_1 cl_1 (by decide) ?_
    exact absurd cl_1 (by unfold RI at w_1; omega)
  · have e_1 : p0.toInt = 0 ∨ p0.toInt = 1 ∨ p0.toInt = 2 ∨ p0.toInt = 3 ∨ p0.toInt = 4 ∨ p0.toInt = 5 ∨ p0.toInt = 6 ∨ p0.toInt = 7 ∨ p0.toInt = 8 ∨ p0.toInt = 9 ∨ p0.toInt = 10 ∨ p0.toInt = 11 ∨ p0.toInt = 12 ∨ p0.toInt = 13 ∨ p0.toInt = 14 ∨ p0.toInt = 15 ∨ p0.toInt = 16 ∨ p0.toInt = 17 ∨ p0.toInt = 18 ∨ p0.toInt = 19 ∨ p0.toInt = 20 ∨ p0.toInt = 21 ∨ p0.toInt = 22 ∨ p0.toInt = 23 ∨ p0.toInt = 24 ∨ p0.toInt = 25 ∨ p0.toInt = 26 := by omega
    rcases e_1 with h_1 | h_1 | h_1 | h_1 | h_1 | h_1 | h_1 | h_1 | h_1 | h_1 | h_1 | h_1 | h_1 | h_1 | h_1 | h_1 | h_1 | h_1 | h_1 | h_1 | h_1 | h_1 | h_1 | h_1 | h_1 | h_1 | h_1
    · exact absurd h_1 (by unfold RI at w_1; omega)
    · exact absurd h_1 (by unfold RI at w_1; omega)
    · exact absurd h_1 (by unfold RI at w_1; omega)
    · exact absurd h_1 (by unfold RI at w_1; omega)
    · exact absurd h_1 (by unfold RI at w_1; omega)
    · exact absurd h_1 (by unfold RI at w_1; omega)
    · exact absurd h_1 (by unfold RI at w_1; omega)
    · exact absurd h_1 (by unfold RI at w_1; omega)
    · exact absurd h_1 (by unfold RI at w_1; omega)
    · exact absurd h_1 (by unfold RI at w_1; omega)
    · exact absurd h_1 (by unfold RI at w_1; omega)
    · exact absurd h_1 (by unfold RI at w_1; omega)
    · exact absurd h_1 (by unfold RI at w_1; omega)
    · exact absurd h_1 (by unfold RI at w_1; omega)
    · refine lv_tableIn (tgt := 349) (off := 348) hx hb dX10_wordOf_1 (by omega) (by omega) (by rw [h_1]; rfl) (by decide) ?_
      have r_p0 : RI p0 14 14 := ⟨by omega, by omega⟩
      refine lv_bipush (v := 99) hx hb dX10_wordOf_349 (by decide) ?_
      refine lv_bipush (v := 97) hx hb dX10_wordOf_351 (by decide) ?_
      refine lv_bipush (v := 114) hx hb dX10_wordOf_353 (by decide) ?_
      refine lv_bipush (v := 114) hx hb dX10_wordOf_355 (by decide) ?_
      refine lv_bipush (v := 121) hx hb dX10_wordOf_357 (by decide) ?_
      refine lv_iconst (v := 0) hx hb dX10_wordOf_359 (by decide) ?_
      refine lv_iconst (v := 0) hx hb dX10_wordOf_360 (by decide) ?_
      refine tk_lr (va_runS (As := [.int 99, .int 97, .int 114, .int 114, .int 121, .int 0, .int 0]) (rest := []) ⟨hx, hb, hml, hown, hts⟩ (c_X10_spelt__15 l D cy z s.heap.size Ps w0 hw.1 99 97 114 114 121 0 0 rl_99 rl_97 rl_114 rl_114 rl_121 rl_0 rl_0) (va_cwS 7 hts (gS tw_1325 tw_1326 tw_15 tw_1327) rfl rfl rfl (by decide +kernel) ⟨Nat.le_of_ble_eq_true rfl, Nat.le_of_ble_eq_true rfl⟩) (tg_preS hw hK hSD hA) rfl rfl hl.1 rfl (lv_room (Nat.le_of_ble_eq_true rfl)) dX10_wordOf_361 ⟨Nat.le_of_ble_eq_true rfl, Nat.le_of_ble_eq_true rfl⟩) hw hA (fun v_1  H locs hp_v_1 hw => ?_)
      have r_v_1 : RJ v_1 1627639 1627639 := hp_v_1
      subst hQ
      exact W.lret (v := v_1) hx hb hr (fun t ht hW => ⟨⟨v_1, (), rfl, r_v_1.to (by decide), by rw [ht]; exact hw.2.1, va_K.moved hW.alike hK, hw.2.2.1⟩, hw.2.2.2.1.F ht⟩) hw.2.2.2.1.2.2 dX10_wordOf_364
    · exact absurd h_1 (by unfold RI at w_1; omega)
    · exact absurd h_1 (by unfold RI at w_1; omega)
    · exact absurd h_1 (by unfold RI at w_1; omega)
    · exact absurd h_1 (by unfold RI at w_1; omega)
    · exact absurd h_1 (by unfold RI at w_1; omega)
    · exact absurd h_1 (by unfold RI at w_1; omega)
    · exact absurd h_1 (by unfold RI at w_1; omega)
    · exact absurd h_1 (by unfold RI at w_1; omega)
    · exact absurd h_1 (by unfold RI at w_1; omega)
    · exact absurd h_1 (by unfold RI at w_1; omega)
    · exact absurd h_1 (by unfold RI at w_1; omega)
    · exact absurd h_1 (by unfold RI at w_1; omega)
abbrev wr_X10_isWord__2 : List (Nat × Nat) := []
abbrev wa_X10_isWord__2 : List Nat := []
set_option maxHeartbeats 4000000 in
set_option maxRecDepth 100000 in
theorem c_X10_isWord__2 (l : Launch) (D : va_G) (cy : Nat → ClassId) (z : Nat → Nat) (sz : Nat) (Ps : PSI) (w0 : va_W) (hT : HT cy GG Ps w0) (p0 : Nat) (p1 : Int32) (h_p0 : (p0, 55) ∈ Ps) (r_p1 : RI p1 14 14) : Met l yX10_isWord (Cond.code yX10_isWord cX10_isWord 2 (some .boolean) :: gT) ({ frames := 3, cells := 0, slots := 0, locals := 600 } : Room) (va_Pc [.ref p0, .int p1] (PRE D cy z w0 sz)) (va_Qi (fun (r : Int32) (u : Unit) => RI r 0 1 ∧ (r = 0 → True) ∧ (¬ r = 0 → WRD w0 p0 1627639 ∧ True)) (BB D cy (va_A w0 sz) (fun (u : Unit) => w0)) (va_A w0 sz)) 0 0 (va_A w0 sz) := by
  refine Met.ofW (cc := cX10_isWord) (maxL := 2) (ret := (some .boolean)) (by decide) rfl ?_
  intro p e s m args below meth c s₁ B hml hv
  obtain ⟨rfl, hsz, hP, hK, hD0, hSD⟩ := hv
  have hx := B.exec
  have hb := B.bytes
  have hr := B.returns
  have hlocks := B.notSynchronized
  have hts : ∀ w ∈ gT, w.before _ s = true := fun w h => atoms_spec (ws := Cond.code yX10_isWord cX10_isWord 2 (some .boolean) :: gT) B.pre w (List.mem_cons_of_mem _ h)
  have hown : s.vm.findClass RX10 = some m.cls := findClass_of_methodNamed B.named
  subst hsz
  have hD := hD0.self (sz := s.heap.size)
  generalize hAe : va_A w0 s.heap.size = A at hD hSD ⊢
  have hA : ∀ q : Nat, s.heap.size ≤ q → A q := fun q h => by rw [← hAe]; exact Or.inr h
  have hl := lv_entry ([.ref p0, .int p1]) (n := 2) (Nat.le_of_ble_eq_true rfl)
  rw [lg_entry_eq]
  generalize (lg_sl ([.ref p0, .int p1]) ++ List.replicate (2 - (lg_sl ([.ref p0, .int p1])).length) Slot.unset).toArray = ls at hl ⊢
  have hl : lv_has ls 2 [(0, .ref p0), (1, .int p1)] := hl
  refine nameQ (fun Q hQ => ?_)
  have hw : WD D cy GG A s wr_X10_isWord__2 wa_X10_isWord__2 Ps w0 Ps w0 s.heap [] := ⟨hT, hP, hD, va_S.rf, FR.rf, hT.1, [], (List.append_nil _).symm⟩
  refine lv_aload_n hx hb dX10_isWord_0 rfl (lv_at hl 0 rfl) ?_
  refine tg_get (ci := 10) (ts := ty_MODEL) (C := RX10) (T := TX10) (N := 49) hx hb hts inX10 hown hK hw h_p0 rfl rfl 7 (by decide) (hts _ tw_1144) (fun _ h9 => h9) (ft := vI (-2147483648) 2147483647) rfl dX10_isWord_1 (fun u_1 hv_u_1 m_u_1 => ?_)
  obtain ⟨vu_1, rfl, r_vu_1⟩ := hv_u_1
  refine lv_iconst (v := 2) hx hb dX10_isWord_4 (by decide) ?_
  refine lv_icmp_ne (tgt := 24) hx hb dX10_isWord_5 (by decide) (fun c_5 => ?_) (fun c_5 => ?_)
  · refine lv_iconst (v := 0) hx hb dX10_isWord_24 (by decide) ?_
    subst hQ
    exact W.zret (v := 0) hx hb hr (rfl) (fun t ht hW => ⟨⟨0, (), rfl, ⟨rl_0.to (by decide), (fun h0 => trivial), (fun h0 => absurd rfl h0)⟩, by rw [ht]; exact hw.2.1, va_K.moved hW.alike hK, hw.2.2.1⟩, hw.2.2.2.1.F ht⟩) hw.2.2.2.1.2.2 dX10_isWord_25
  · have r_vu_1 : RI vu_1 2 2 := rc_eq1 r_vu_1 rl_2 (ti_eq c_5) (by decide)
    refine lv_aload_n hx hb dX10_isWord_8 rfl (lv_at hl 0 rfl) ?_
    refine tg_get (ci := 10) (ts := ty_MODEL) (C := RX10) (T := TX10) (N := 49) hx hb hts inX10 hown hK hw h_p0 rfl rfl 12 (by decide) (hts _ tw_1149) (fun _ h9 => h9) (ft := vJ (-9223372036854775808) 9223372036854775807) rfl dX10_isWord_9 (fun u_2 hv_u_2 m_u_2 => ?_)
    obtain ⟨vu_2, rfl, r_vu_2⟩ := hv_u_2
    refine lv_iload_n hx hb dX10_isWord_12 rfl (lv_at hl 1 rfl) ?_
    refine tk_lr (va_runS (As := [.int p1]) (rest := [.long vu_2]) ⟨hx, hb, hml, hown, hts⟩ (c_X10_wordOf__5 l D cy z s.heap.size Ps w0 hw.1 p1 r_p1) (va_cwS 1 hts (gS tw_1322 tw_1323 tw_15 tw_1324) rfl rfl rfl (by decide +kernel) ⟨Nat.le_of_ble_eq_true rfl, Nat.le_of_ble_eq_true rfl⟩) (tg_preS hw hK hSD hA) rfl rfl hl.1 rfl (lv_room (Nat.le_of_ble_eq_true rfl)) dX10_isWord_13 ⟨Nat.le_of_ble_eq_true rfl, Nat.le_of_ble_eq_true rfl⟩) hw hA (fun v_3  H locs hp_v_3 hw => ?_)
    have r_v_3 : RJ v_3 1627639 1627639 := hp_v_3
    refine W.lcmp hx hb dX10_isWord_16 (lv_topi (fun v_4 e_v_4 => ?_))
    have r_v_4 := ri_any v_4
    refine lv_if_ne (tgt := 24) hx hb dX10_isWord_17 (by decide) (fun c_17 => ?_) (fun c_17 => ?_)
    · refine lv_iconst (v := 0) hx hb dX10_isWord_24 (by decide) ?_
      subst hQ
      exact W.zret (v := 0) hx hb hr (rfl) (fun t ht hW => ⟨⟨0, (), rfl, ⟨rl_0.to (by decide), (fun h0 => trivial), (fun h0 => absurd rfl h0)⟩, by rw [ht]; exact hw.2.1, va_K.moved hW.alike hK, hw.2.2.1⟩, hw.2.2.2.1.F ht⟩) hw.2.2.2.1.2.2 dX10_isWord_25
    · have r_v_4 : RI v_4 0 0 := rc_eq1 r_v_4 rl_0 (ti_eq c_17) (by decide)
      have x_WRD_p0_1627639 : WRD w0 p0 1627639 := ⟨_, m_u_2, by have k1 := lcmp_eq e_v_4 c_17; have k2 := r_v_3.1; have k3 := r_v_3.2; rw [k1]; omega⟩
      refine lv_iconst (v := 1) hx hb dX10_isWord_20 (by decide) ?_
      refine lv_goto (tgt := 25) hx hb dX10_isWord_21 (by decide) ?_
      subst hQ
      exact W.zret (v := 1) hx hb hr (rfl) (fun t ht hW => ⟨⟨1, (), rfl, ⟨rl_1.to (by decide), (fun _ => trivial), (fun h0 => ⟨x_WRD_p0_1627639, trivial⟩)⟩, by rw [ht]; exact hw.2.1, va_K.moved hW.alike hK, hw.2.2.1⟩, hw.2.2.2.1.F ht⟩) hw.2.2.2.1.2.2 dX10_isWord_25
abbrev wr_X10_wordOf__6 : List (Nat × Nat) := []
abbrev wa_X10_wordOf__6 : List Nat := []
set_option maxHeartbeats 4000000 in
set_option maxRecDepth 100000 in
theorem c_X10_wordOf__6 (l : Launch) (D : va_G) (cy : Nat → ClassId) (z : Nat → Nat) (sz : Nat) (Ps : PSI) (w0 : va_W) (hT : HT cy GG Ps w0) (p0 : Int32) (r_p0 : RI p0 15 15) : Met l yX10_wordOf (Cond.code yX10_wordOf cX10_wordOf 1 (some .long) :: gT) ({ frames := 2, cells := 0, slots := 0, locals := 400 } : Room) (va_Pc [.int p0] (PRE D cy z w0 sz)) (va_Ql (fun (r : Int64) (u : Unit) => RJ r 2968 2968) (BB D cy (va_A w0 sz) (fun (u : Unit) => w0)) (va_A w0 sz)) 0 0 (va_A w0 sz) := by
  refine Met.ofW (cc := cX10_wordOf) (maxL := 1) (ret := (some .long)) (by decide) rfl ?_
  intro p e s m args below meth c s₁ B hml hv
  obtain ⟨rfl, hsz, hP, hK, hD0, hSD⟩ := hv
  have hx := B.exec
  have hb := B.bytes
  have hr := B.returns
  have hlocks := B.notSynchronized
  have hts : ∀ w ∈ gT, w.before _ s = true := fun w h => atoms_spec (ws := Cond.code yX10_wordOf cX10_wordOf 1 (some .long) :: gT) B.pre w (List.mem_cons_of_mem _ h)
  have hown : s.vm.findClass RX10 = some m.cls := findClass_of_methodNamed B.named
  subst hsz
  have hD := hD0.self (sz := s.heap.size)
  generalize hAe : va_A w0 s.heap.size = A at hD hSD ⊢
  have hA : ∀ q : Nat, s.heap.size ≤ q → A q := fun q h => by rw [← hAe]; exact Or.inr h
  have hl := lv_entry ([.int p0]) (n := 1) (Nat.le_of_ble_eq_true rfl)
  rw [lg_entry_eq]
  generalize (lg_sl ([.int p0]) ++ List.replicate (1 - (lg_sl ([.int p0])).length) Slot.unset).toArray = ls at hl ⊢
  have hl : lv_has ls 1 [(0, .int p0)] := hl
  refine nameQ (fun Q hQ => ?_)
  have hw : WD D cy GG A s wr_X10_wordOf__6 wa_X10_wordOf__6 Ps w0 Ps w0 s.heap [] := ⟨hT, hP, hD, va_S.rf, FR.rf, hT.1, [], (List.append_nil _).symm⟩
  refine lv_iload_n hx hb dX10_wordOf_0 rfl (lv_at hl 0 rfl) ?_
  have w_1 := r_p0
  by_cases cl_1 : p0.toInt < 0 ∨ 26 < p0.toInt
  · refine lv_tableOut (tgt := 547) hx hb dX10_wordOf_1 cl_1 (by decide) ?_
    exact absurd cl_1 (by unfold RI at w_1; omega)
  · have e_1 : p0.toInt = 0 ∨ p0.toInt = 1 ∨ p0.toInt = 2 ∨ p0.toInt = 3 ∨ p0.toInt = 4 ∨ p0.toInt = 5 ∨ p0.toInt = 6 ∨ p0.toInt = 7 ∨ p0.toInt = 8 ∨ p0.toInt = 9 ∨ p0.toInt = 10 ∨ p0.toInt = 11 ∨ p0.toInt = 12 ∨ p0.toInt = 13 ∨ p0.toInt = 14 ∨ p0.toInt = 15 ∨ p0.toInt = 16 ∨ p0.toInt = 17 ∨ p0.toInt = 18 ∨ p0.toInt = 19 ∨ p0.toInt = 20 ∨ p0.toInt = 21 ∨ p0.toInt = 22 ∨ p0.toInt = 23 ∨ p0.toInt = 24 ∨ p0.toInt = 25 ∨ p0.toInt = 26 := by omega
    rcases e_1 with h_1 | h_1 | h_1 | h_1 | h_1 | h_1 | h_1 | h_1 | h_1 | h_1 | h_1 | h_1 | h_1 | h_1 | h_1 | h_1 | h_1 | h_1 | h_1 | h_1 | h_1 | h_1 | h_1 | h_1 | h_1 | h_1 | h_1
    · exact absurd h_1 (by unfold RI at w_1; omega)
    · exact absurd h_1 (by unfold RI at w_1; omega)
    · exact absurd h_1 (by unfold RI at w_1; omega)
    · exact absurd h_1 (by unfold RI at w_1; omega)
    · exact absurd h_1 (by unfold RI at w_1; omega)
    · exact absurd h_1 (by unfold RI at w_1; omega)
    · exact absurd h_1 (by unfold RI at w_1; omega)
    · exact absurd h_1 (by unfold RI at w_1; omega)
    · exact absurd h_1 (by unfold RI at w_1; omega)
    · exact absurd h_1 (by unfold RI at w_1; omega)
    · exact absurd h_1 (by unfold RI at w_1; omega)
    · exact absurd h_1 (by unfold RI at w_1; omega)
    · exact absurd h_1 (by unfold RI at w_1; omega)
    · exact absurd h_1 (by unfold RI at w_1; omega)
    · exact absurd h_1 (by unfold RI at w_1; omega)
    · refine lv_tableIn (tgt := 365) (off := 364) hx hb dX10_wordOf_1 (by omega) (by omega) (by rw [h_1]; rfl) (by decide) ?_
      have r_p0 : RI p0 15 15 := ⟨by omega, by omega⟩
      refine lv_bipush (v := 100) hx hb dX10_wordOf_365 (by decide) ?_
      refine lv_bipush (v := 97) hx hb dX10_wordOf_367 (by decide) ?_
      refine lv_bipush (v := 121) hx hb dX10_wordOf_369 (by decide) ?_
      refine lv_iconst (v := 0) hx hb dX10_wordOf_371 (by decide) ?_
      refine lv_iconst (v := 0) hx hb dX10_wordOf_372 (by decide) ?_
      refine lv_iconst (v := 0) hx hb dX10_wordOf_373 (by decide) ?_
      refine lv_iconst (v := 0) hx hb dX10_wordOf_374 (by decide) ?_
      refine tk_lr (va_runS (As := [.int 100, .int 97, .int 121, .int 0, .int 0, .int 0, .int 0]) (rest := []) ⟨hx, hb, hml, hown, hts⟩ (c_X10_spelt__16 l D cy z s.heap.size Ps w0 hw.1 100 97 121 0 0 0 0 rl_100 rl_97 rl_121 rl_0 rl_0 rl_0 rl_0) (va_cwS 7 hts (gS tw_1325 tw_1326 tw_15 tw_1327) rfl rfl rfl (by decide +kernel) ⟨Nat.le_of_ble_eq_true rfl, Nat.le_of_ble_eq_true rfl⟩) (tg_preS hw hK hSD hA) rfl rfl hl.1 rfl (lv_room (Nat.le_of_ble_eq_true rfl)) dX10_wordOf_375 ⟨Nat.le_of_ble_eq_true rfl, Nat.le_of_ble_eq_true rfl⟩) hw hA (fun v_1  H locs hp_v_1 hw => ?_)
      have r_v_1 : RJ v_1 2968 2968 := hp_v_1
      subst hQ
      exact W.lret (v := v_1) hx hb hr (fun t ht hW => ⟨⟨v_1, (), rfl, r_v_1.to (by decide), by rw [ht]; exact hw.2.1, va_K.moved hW.alike hK, hw.2.2.1⟩, hw.2.2.2.1.F ht⟩) hw.2.2.2.1.2.2 dX10_wordOf_378
    · exact absurd h_1 (by unfold RI at w_1; omega)
    · exact absurd h_1 (by unfold RI at w_1; omega)
    · exact absurd h_1 (by unfold RI at w_1; omega)
    · exact absurd h_1 (by unfold RI at w_1; omega)
    · exact absurd h_1 (by unfold RI at w_1; omega)
    · exact absurd h_1 (by unfold RI at w_1; omega)
    · exact absurd h_1 (by unfold RI at w_1; omega)
    · exact absurd h_1 (by unfold RI at w_1; omega)
    · exact absurd h_1 (by unfold RI at w_1; omega)
    · exact absurd h_1 (by unfold RI at w_1; omega)
    · exact absurd h_1 (by unfold RI at w_1; omega)
abbrev wr_X10_isWord__3 : List (Nat × Nat) := []
abbrev wa_X10_isWord__3 : List Nat := []
set_option maxHeartbeats 4000000 in
set_option maxRecDepth 100000 in
theorem c_X10_isWord__3 (l : Launch) (D : va_G) (cy : Nat → ClassId) (z : Nat → Nat) (sz : Nat) (Ps : PSI) (w0 : va_W) (hT : HT cy GG Ps w0) (p0 : Nat) (p1 : Int32) (h_p0 : (p0, 55) ∈ Ps) (r_p1 : RI p1 15 15) : Met l yX10_isWord (Cond.code yX10_isWord cX10_isWord 2 (some .boolean) :: gT) ({ frames := 3, cells := 0, slots := 0, locals := 600 } : Room) (va_Pc [.ref p0, .int p1] (PRE D cy z w0 sz)) (va_Qi (fun (r : Int32) (u : Unit) => RI r 0 1 ∧ (r = 0 → True) ∧ (¬ r = 0 → WRD w0 p0 2968 ∧ True)) (BB D cy (va_A w0 sz) (fun (u : Unit) => w0)) (va_A w0 sz)) 0 0 (va_A w0 sz) := by
  refine Met.ofW (cc := cX10_isWord) (maxL := 2) (ret := (some .boolean)) (by decide) rfl ?_
  intro p e s m args below meth c s₁ B hml hv
  obtain ⟨rfl, hsz, hP, hK, hD0, hSD⟩ := hv
  have hx := B.exec
  have hb := B.bytes
  have hr := B.returns
  have hlocks := B.notSynchronized
  have hts : ∀ w ∈ gT, w.before _ s = true := fun w h => atoms_spec (ws := Cond.code yX10_isWord cX10_isWord 2 (some .boolean) :: gT) B.pre w (List.mem_cons_of_mem _ h)
  have hown : s.vm.findClass RX10 = some m.cls := findClass_of_methodNamed B.named
  subst hsz
  have hD := hD0.self (sz := s.heap.size)
  generalize hAe : va_A w0 s.heap.size = A at hD hSD ⊢
  have hA : ∀ q : Nat, s.heap.size ≤ q → A q := fun q h => by rw [← hAe]; exact Or.inr h
  have hl := lv_entry ([.ref p0, .int p1]) (n := 2) (Nat.le_of_ble_eq_true rfl)
  rw [lg_entry_eq]
  generalize (lg_sl ([.ref p0, .int p1]) ++ List.replicate (2 - (lg_sl ([.ref p0, .int p1])).length) Slot.unset).toArray = ls at hl ⊢
  have hl : lv_has ls 2 [(0, .ref p0), (1, .int p1)] := hl
  refine nameQ (fun Q hQ => ?_)
  have hw : WD D cy GG A s wr_X10_isWord__3 wa_X10_isWord__3 Ps w0 Ps w0 s.heap [] := ⟨hT, hP, hD, va_S.rf, FR.rf, hT.1, [], (List.append_nil _).symm⟩
  refine lv_aload_n hx hb dX10_isWord_0 rfl (lv_at hl 0 rfl) ?_
  refine tg_get (ci := 10) (ts := ty_MODEL) (C := RX10) (T := TX10) (N := 49) hx hb hts inX10 hown hK hw h_p0 rfl rfl 7 (by decide) (hts _ tw_1144) (fun _ h9 => h9) (ft := vI (-2147483648) 2147483647) rfl dX10_isWord_1 (fun u_1 hv_u_1 m_u_1 => ?_)
  obtain ⟨vu_1, rfl, r_vu_1⟩ := hv_u_1
  refine lv_iconst (v := 2) hx hb dX10_isWord_4 (by decide) ?_
  refine lv_icmp_ne (tgt := 24) hx hb dX10_isWord_5 (by decide) (fun c_5 => ?_) (fun c_5 => ?_)
  · refine lv_iconst (v := 0) hx hb dX10_isWord_24 (by decide) ?_
    subst hQ
    exact W.zret (v := 0) hx hb hr (rfl) (fun t ht hW => ⟨⟨0, (), rfl, ⟨rl_0.to (by decide), (fun h0 => trivial), (fun h0 => absurd rfl h0)⟩, by rw [ht]; exact hw.2.1, va_K.moved hW.alike hK, hw.2.2.1⟩, hw.2.2.2.1.F ht⟩) hw.2.2.2.1.2.2 dX10_isWord_25
  · have r_vu_1 : RI vu_1 2 2 := rc_eq1 r_vu_1 rl_2 (ti_eq c_5) (by decide)
    refine lv_aload_n hx hb dX10_isWord_8 rfl (lv_at hl 0 rfl) ?_
    refine tg_get (ci := 10) (ts := ty_MODEL) (C := RX10) (T := TX10) (N := 49) hx hb hts inX10 hown hK hw h_p0 rfl rfl 12 (by decide) (hts _ tw_1149) (fun _ h9 => h9) (ft := vJ (-9223372036854775808) 9223372036854775807) rfl dX10_isWord_9 (fun u_2 hv_u_2 m_u_2 => ?_)
    obtain ⟨vu_2, rfl, r_vu_2⟩ := hv_u_2
    refine lv_iload_n hx hb dX10_isWord_12 rfl (lv_at hl 1 rfl) ?_
    refine tk_lr (va_runS (As := [.int p1]) (rest := [.long vu_2]) ⟨hx, hb, hml, hown, hts⟩ (c_X10_wordOf__6 l D cy z s.heap.size Ps w0 hw.1 p1 r_p1) (va_cwS 1 hts (gS tw_1322 tw_1323 tw_15 tw_1324) rfl rfl rfl (by decide +kernel) ⟨Nat.le_of_ble_eq_true rfl, Nat.le_of_ble_eq_true rfl⟩) (tg_preS hw hK hSD hA) rfl rfl hl.1 rfl (lv_room (Nat.le_of_ble_eq_true rfl)) dX10_isWord_13 ⟨Nat.le_of_ble_eq_true rfl, Nat.le_of_ble_eq_true rfl⟩) hw hA (fun v_3  H locs hp_v_3 hw => ?_)
    have r_v_3 : RJ v_3 2968 2968 := hp_v_3
    refine W.lcmp hx hb dX10_isWord_16 (lv_topi (fun v_4 e_v_4 => ?_))
    have r_v_4 := ri_any v_4
    refine lv_if_ne (tgt := 24) hx hb dX10_isWord_17 (by decide) (fun c_17 => ?_) (fun c_17 => ?_)
    · refine lv_iconst (v := 0) hx hb dX10_isWord_24 (by decide) ?_
      subst hQ
      exact W.zret (v := 0) hx hb hr (rfl) (fun t ht hW => ⟨⟨0, (), rfl, ⟨rl_0.to (by decide), (fun h0 => trivial), (fun h0 => absurd rfl h0)⟩, by rw [ht]; exact hw.2.1, va_K.moved hW.alike hK, hw.2.2.1⟩, hw.2.2.2.1.F ht⟩) hw.2.2.2.1.2.2 dX10_isWord_25
    · have r_v_4 : RI v_4 0 0 := rc_eq1 r_v_4 rl_0 (ti_eq c_17) (by decide)
      have x_WRD_p0_2968 : WRD w0 p0 2968 := ⟨_, m_u_2, by have k1 := lcmp_eq e_v_4 c_17; have k2 := r_v_3.1; have k3 := r_v_3.2; rw [k1]; omega⟩
      refine lv_iconst (v := 1) hx hb dX10_isWord_20 (by decide) ?_
      refine lv_goto (tgt := 25) hx hb dX10_isWord_21 (by decide) ?_
      subst hQ
      exact W.zret (v := 1) hx hb hr (rfl) (fun t ht hW => ⟨⟨1, (), rfl, ⟨rl_1.to (by decide), (fun _ => trivial), (fun h0 => ⟨x_WRD_p0_2968, trivial⟩)⟩, by rw [ht]; exact hw.2.1, va_K.moved hW.alike hK, hw.2.2.1⟩, hw.2.2.2.1.F ht⟩) hw.2.2.2.1.2.2 dX10_isWord_25
abbrev wr_X10_findIn__7 : List (Nat × Nat) := []
abbrev wa_X10_findIn__7 : List Nat := []
set_option maxHeartbeats 4000000 in
set_option maxRecDepth 100000 in
theorem c_X10_findIn__7 (l : Launch) (D : va_G) (cy : Nat → ClassId) (z : Nat → Nat) (sz : Nat) (Ps : PSI) (w0 : va_W) (hT : HT cy GG Ps w0) (p0 : Nat) (p1 : Int32) (p2 : Int32) (p3 : Int64) (h_p0 : (p0, 41) ∈ Ps) (r_p1 : RI p1 16 16) (r_p2 : RI p2 0 8) (r_p3 : RJ p3 (-9223372036854775808) 9223372036854775807) : Met l yX10_findIn (Cond.code yX10_findIn cX10_findIn 6 (some .int) :: gT) ({ frames := 0, cells := 0, slots := 0, locals := 200 } : Room) (va_Pc [.ref p0, .int p1, .int p2, .long p3] (PRE D cy z w0 sz)) (va_Qi (fun (r : Int32) (u : Unit) => RI r (-1) 7 ∧ (r = 0 → True) ∧ (¬ r = 0 → True) ∧ (True) ∧ (r.toInt < 0 → NFD w0 p0 p1 p2 p3 ∧ True) ∧ (0 ≤ r.toInt → FDD w0 p0 p1 p2 p3 ∧ 1 ≤ Int32.toInt p2 ∧ True)) (BB D cy (va_A w0 sz) (fun (u : Unit) => w0)) (va_A w0 sz)) 0 0 (va_A w0 sz) := by
  refine Met.ofW (cc := cX10_findIn) (maxL := 6) (ret := (some .int)) (by decide) rfl ?_
  intro p e s m args below meth c s₁ B hml hv
  obtain ⟨rfl, hsz, hP, hK, hD0, hSD⟩ := hv
  have hx := B.exec
  have hb := B.bytes
  have hr := B.returns
  have hlocks := B.notSynchronized
  have hts : ∀ w ∈ gT, w.before _ s = true := fun w h => atoms_spec (ws := Cond.code yX10_findIn cX10_findIn 6 (some .int) :: gT) B.pre w (List.mem_cons_of_mem _ h)
  have hown : s.vm.findClass RX10 = some m.cls := findClass_of_methodNamed B.named
  subst hsz
  have hD := hD0.self (sz := s.heap.size)
  generalize hAe : va_A w0 s.heap.size = A at hD hSD ⊢
  have hA : ∀ q : Nat, s.heap.size ≤ q → A q := fun q h => by rw [← hAe]; exact Or.inr h
  have hl := lv_entry ([.ref p0, .int p1, .int p2, .long p3]) (n := 6) (Nat.le_of_ble_eq_true rfl)
  rw [lg_entry_eq]
  generalize (lg_sl ([.ref p0, .int p1, .int p2, .long p3]) ++ List.replicate (6 - (lg_sl ([.ref p0, .int p1, .int p2, .long p3])).length) Slot.unset).toArray = ls at hl ⊢
  have hl : lv_has ls 6 [(0, .ref p0), (1, .int p1), (2, .int p2), (3, .long p3)] := hl
  refine nameQ (fun Q hQ => ?_)
  have hw : WD D cy GG A s wr_X10_findIn__7 wa_X10_findIn__7 Ps w0 Ps w0 s.heap [] := ⟨hT, hP, hD, va_S.rf, FR.rf, hT.1, [], (List.append_nil _).symm⟩
  have B3 : ∀ (nf : Nat) (x5 : Int32) (H : Heap) (locs : List Loc) (ls : Array Slot), 8 - x5.toInt < (nf : Int) → RI p1 16 16 → RI p2 0 8 → RJ p3 (-9223372036854775808) 9223372036854775807 → RI x5 0 8 → NFD w0 p0 p1 x5 p3 → WD D cy GG A s wr_X10_findIn__7 wa_X10_findIn__7 Ps w0 Ps w0 H locs → lv_has ls 6 [(0, .ref p0), (1, .int p1), (2, .int p2), (3, .long p3), (5, .int x5)] → W p l e (headSpec (Cond.code yX10_findIn cX10_findIn 6 (some .int) :: gT) ({ frames := 0, cells := 0, slots := 0, locals := 200 } : Room)).room s m ([.ref p0, .int p1, .int p2, .long p3] : List Value).toArray below meth c H locs 0 0 Q (F0 m 3 ls []) := by
    intro nf3
    induction nf3 with
    | zero =>
      intro x5 H locs ls hn3 r_p1 r_p2 r_p3 r_x5 x_NF_p0_p1__5_p3 hw hl
      exact absurd hn3 (by have q0 := r_x5.1; have u0 := r_x5.2; omega)
    | succ nf3 ih3 =>
      intro x5 H locs ls hn3 r_p1 r_p2 r_p3 r_x5 x_NF_p0_p1__5_p3 hw hl
      refine lv_iload hx hb dX10_findIn_3 (lv_at hl 4 rfl) ?_
      refine lv_iload_n hx hb dX10_findIn_5 rfl (lv_at hl 2 rfl) ?_
      refine lv_icmp_ge (tgt := 29) hx hb dX10_findIn_6 (by decide) (fun c_6 => ?_) (fun c_6 => ?_)
      · have x_NF_p0_p1_p2_p3 : NFD w0 p0 p1 p2 p3 := NFD.mono x_NF_p0_p1__5_p3 c_6
        refine lv_iconst (v := (-1)) hx hb dX10_findIn_29 (by decide) ?_
        subst hQ
        exact W.iret (v := (-1)) hx hb hr (fun t ht hW => ⟨⟨(-1), (), rfl, ⟨rl_m1.to (by decide), (fun _ => trivial), (fun h0 => trivial), trivial, (fun h0 => ⟨x_NF_p0_p1_p2_p3, trivial⟩), (fun h0 => absurd h0 (by have h8 := rl_m1; unfold RI at h8; omega))⟩, by rw [ht]; exact hw.2.1, va_K.moved hW.alike hK, hw.2.2.1⟩, hw.2.2.2.1.F ht⟩) hw.2.2.2.1.2.2 dX10_findIn_30
      · have r_x5 : RI x5 0 7 := rc_lt1 r_x5 r_p2 (ti_nle c_6) (by decide)
        have r_p2 : RI p2 1 8 := rc_lt2 r_x5 r_p2 (ti_nle c_6) (by decide)
        refine lv_aload_n hx hb dX10_findIn_9 rfl (lv_at hl 0 rfl) ?_
        refine lv_iload_n hx hb dX10_findIn_10 rfl (lv_at hl 1 rfl) ?_
        refine lv_iload hx hb dX10_findIn_11 (lv_at hl 4 rfl) ?_
        refine lv_iadd hx hb dX10_findIn_13 (lv_topi (fun v_1 e_v_1 => ?_))
        obtain ⟨t_v_1, r_v_1⟩ := tq_add (lo := 16) (hi := 23) r_p1 r_x5 (by decide +kernel) e_v_1
        refine tg_laldE hx hb hK hw h_p0 rfl r_v_1 (by decide) dX10_findIn_14 (fun w_2 r_w_2 l_w_2 => ?_)
        refine lv_lload_n hx hb dX10_findIn_15 rfl (lv_at hl 3 rfl) ?_
        refine W.lcmp hx hb dX10_findIn_16 (lv_topi (fun v_3 e_v_3 => ?_))
        have r_v_3 := ri_any v_3
        refine lv_if_ne (tgt := 23) hx hb dX10_findIn_17 (by decide) (fun c_17 => ?_) (fun c_17 => ?_)
        · obtain ⟨v_4, e_v_4⟩ : ∃ q9 : Int32, q9 = x5 + Int32.ofInt 1 := ⟨_, rfl⟩
          obtain ⟨t_v_4, r_v_4⟩ := tq_add (lo := 1) (hi := 8) r_x5 (show RI (Int32.ofInt 1) 1 1 by unfold RI; decide +kernel) (by decide +kernel) e_v_4
          have t_v_4 : v_4.toInt = x5.toInt + 1 := t_v_4
          refine lv_iinc (v := v_4) (lv' := [(5, .int v_4), (0, .ref p0), (1, .int p1), (2, .int p2), (3, .long p3)]) hx hb dX10_findIn_23 hl (k := 4) rfl e_v_4.symm (by decide) rfl (fun ls hl => ?_)
          refine lv_goto (tgt := 3) hx hb dX10_findIn_26 (by decide) ?_
          have x_NF_p0_p1_v_4_p3 : NFD w0 p0 p1 v_4 p3 := NFD.step hw x_NF_p0_p1__5_p3 l_w_2 (by have k1 := r_v_1.cl (by decide); have k2 := r_p1.cl (by decide); have k3 := r_x5.cl (by decide); omega) (lcmp_ne e_v_3 c_17) t_v_4 r_x5.1
          exact ih3 v_4 _ _ ls (by have q0 := r_v_4.1; have u0 := r_v_4.2; have o0 := r_x5.1; have p0 := r_x5.2; omega) r_p1 (r_p2.to (by decide)) r_p3 (r_v_4.to (by decide)) x_NF_p0_p1_v_4_p3 hw (lv_sub hl [1, 2, 3, 4, 0] rfl)
        · have r_v_3 : RI v_3 0 0 := rc_eq1 r_v_3 rl_0 (ti_eq c_17) (by decide)
          have x_FD_p0_p1_p2_p3 : FDD w0 p0 p1 p2 p3 := FDD.mk l_w_2 (by have k1 := r_v_1.cl (by decide); have k2 := r_p1.cl (by decide); have k3 := r_x5.cl (by decide); omega) (lcmp_eq e_v_3 c_17) (ti_nle c_6) r_x5.1
          have x_POS_p2 : 1 ≤ Int32.toInt p2 := by have k1 := ti_nle c_6; have k2 := r_x5.1; omega
          refine lv_iload hx hb dX10_findIn_20 (lv_at hl 4 rfl) ?_
          subst hQ
          exact W.iret (v := x5) hx hb hr (fun t ht hW => ⟨⟨x5, (), rfl, ⟨r_x5.to (by decide), (fun h0 => trivial), (fun h0 => trivial), trivial, (fun h0 => absurd h0 (by have h8 := r_x5; unfold RI at h8; omega)), (fun h0 => ⟨x_FD_p0_p1_p2_p3, x_POS_p2, trivial⟩)⟩, by rw [ht]; exact hw.2.1, va_K.moved hW.alike hK, hw.2.2.1⟩, hw.2.2.2.1.F ht⟩) hw.2.2.2.1.2.2 dX10_findIn_22
  refine lv_iconst (v := 0) hx hb dX10_findIn_0 (by decide) ?_
  refine lv_istore (lv' := [(5, .int 0), (0, .ref p0), (1, .int p1), (2, .int p2), (3, .long p3)]) hx hb dX10_findIn_1 hl (by decide) rfl (fun ls hl => ?_)
  have x_NF_p0_p1_0_p3 : NFD w0 p0 p1 0 p3 := NFD.zero hw h_p0 rfl
  exact B3 4294967298 0 _ _ ls (by have q0 := rl_0.1; have u0 := rl_0.2; omega) r_p1 r_p2 r_p3 (rl_0.to (by decide)) x_NF_p0_p1_0_p3 hw (lv_sub hl [1, 2, 3, 4, 0] rfl)
abbrev wr_X10_findIn__8 : List (Nat × Nat) := []
abbrev wa_X10_findIn__8 : List Nat := []
set_option maxHeartbeats 4000000 in
set_option maxRecDepth 100000 in
theorem c_X10_findIn__8 (l : Launch) (D : va_G) (cy : Nat → ClassId) (z : Nat → Nat) (sz : Nat) (Ps : PSI) (w0 : va_W) (hT : HT cy GG Ps w0) (p0 : Nat) (p1 : Int32) (p2 : Int32) (p3 : Int64) (h_p0 : (p0, 41) ∈ Ps) (r_p1 : RI p1 16 16) (r_p2 : RI p2 1 8) (r_p3 : RJ p3 (-9223372036854775808) 9223372036854775807) : Met l yX10_findIn (Cond.code yX10_findIn cX10_findIn 6 (some .int) :: gT) ({ frames := 0, cells := 0, slots := 0, locals := 200 } : Room) (va_Pc [.ref p0, .int p1, .int p2, .long p3] (PRE D cy z w0 sz)) (va_Qi (fun (r : Int32) (u : Unit) => RI r (-1) 7 ∧ (r = 0 → True) ∧ (¬ r = 0 → True) ∧ (True) ∧ (r.toInt < 0 → NFD w0 p0 p1 p2 p3 ∧ True) ∧ (0 ≤ r.toInt → FDD w0 p0 p1 p2 p3 ∧ 1 ≤ Int32.toInt p2 ∧ True)) (BB D cy (va_A w0 sz) (fun (u : Unit) => w0)) (va_A w0 sz)) 0 0 (va_A w0 sz) := by
  refine Met.ofW (cc := cX10_findIn) (maxL := 6) (ret := (some .int)) (by decide) rfl ?_
  intro p e s m args below meth c s₁ B hml hv
  obtain ⟨rfl, hsz, hP, hK, hD0, hSD⟩ := hv
  have hx := B.exec
  have hb := B.bytes
  have hr := B.returns
  have hlocks := B.notSynchronized
  have hts : ∀ w ∈ gT, w.before _ s = true := fun w h => atoms_spec (ws := Cond.code yX10_findIn cX10_findIn 6 (some .int) :: gT) B.pre w (List.mem_cons_of_mem _ h)
  have hown : s.vm.findClass RX10 = some m.cls := findClass_of_methodNamed B.named
  subst hsz
  have hD := hD0.self (sz := s.heap.size)
  generalize hAe : va_A w0 s.heap.size = A at hD hSD ⊢
  have hA : ∀ q : Nat, s.heap.size ≤ q → A q := fun q h => by rw [← hAe]; exact Or.inr h
  have hl := lv_entry ([.ref p0, .int p1, .int p2, .long p3]) (n := 6) (Nat.le_of_ble_eq_true rfl)
  rw [lg_entry_eq]
  generalize (lg_sl ([.ref p0, .int p1, .int p2, .long p3]) ++ List.replicate (6 - (lg_sl ([.ref p0, .int p1, .int p2, .long p3])).length) Slot.unset).toArray = ls at hl ⊢
  have hl : lv_has ls 6 [(0, .ref p0), (1, .int p1), (2, .int p2), (3, .long p3)] := hl
  refine nameQ (fun Q hQ => ?_)
  have hw : WD D cy GG A s wr_X10_findIn__8 wa_X10_findIn__8 Ps w0 Ps w0 s.heap [] := ⟨hT, hP, hD, va_S.rf, FR.rf, hT.1, [], (List.append_nil _).symm⟩
  have B3 : ∀ (nf : Nat) (x5 : Int32) (H : Heap) (locs : List Loc) (ls : Array Slot), 8 - x5.toInt < (nf : Int) → RI p1 16 16 → RI p2 1 8 → RJ p3 (-9223372036854775808) 9223372036854775807 → RI x5 0 8 → NFD w0 p0 p1 x5 p3 → WD D cy GG A s wr_X10_findIn__8 wa_X10_findIn__8 Ps w0 Ps w0 H locs → lv_has ls 6 [(0, .ref p0), (1, .int p1), (2, .int p2), (3, .long p3), (5, .int x5)] → W p l e (headSpec (Cond.code yX10_findIn cX10_findIn 6 (some .int) :: gT) ({ frames := 0, cells := 0, slots := 0, locals := 200 } : Room)).room s m ([.ref p0, .int p1, .int p2, .long p3] : List Value).toArray below meth c H locs 0 0 Q (F0 m 3 ls []) := by
    intro nf3
    induction nf3 with
    | zero =>
      intro x5 H locs ls hn3 r_p1 r_p2 r_p3 r_x5 x_NF_p0_p1__5_p3 hw hl
      exact absurd hn3 (by have q0 := r_x5.1; have u0 := r_x5.2; omega)
    | succ nf3 ih3 =>
      intro x5 H locs ls hn3 r_p1 r_p2 r_p3 r_x5 x_NF_p0_p1__5_p3 hw hl
      refine lv_iload hx hb dX10_findIn_3 (lv_at hl 4 rfl) ?_
      refine lv_iload_n hx hb dX10_findIn_5 rfl (lv_at hl 2 rfl) ?_
      refine lv_icmp_ge (tgt := 29) hx hb dX10_findIn_6 (by decide) (fun c_6 => ?_) (fun c_6 => ?_)
      · have r_x5 : RI x5 1 8 := rc_le2 r_p2 r_x5 (ti_le c_6) (by decide)
        have x_NF_p0_p1_p2_p3 : NFD w0 p0 p1 p2 p3 := NFD.mono x_NF_p0_p1__5_p3 c_6
        refine lv_iconst (v := (-1)) hx hb dX10_findIn_29 (by decide) ?_
        subst hQ
        exact W.iret (v := (-1)) hx hb hr (fun t ht hW => ⟨⟨(-1), (), rfl, ⟨rl_m1.to (by decide), (fun _ => trivial), (fun h0 => trivial), trivial, (fun h0 => ⟨x_NF_p0_p1_p2_p3, trivial⟩), (fun h0 => absurd h0 (by have h8 := rl_m1; unfold RI at h8; omega))⟩, by rw [ht]; exact hw.2.1, va_K.moved hW.alike hK, hw.2.2.1⟩, hw.2.2.2.1.F ht⟩) hw.2.2.2.1.2.2 dX10_findIn_30
      · have r_x5 : RI x5 0 7 := rc_lt1 r_x5 r_p2 (ti_nle c_6) (by decide)
        refine lv_aload_n hx hb dX10_findIn_9 rfl (lv_at hl 0 rfl) ?_
        refine lv_iload_n hx hb dX10_findIn_10 rfl (lv_at hl 1 rfl) ?_
        refine lv_iload hx hb dX10_findIn_11 (lv_at hl 4 rfl) ?_
        refine lv_iadd hx hb dX10_findIn_13 (lv_topi (fun v_1 e_v_1 => ?_))
        obtain ⟨t_v_1, r_v_1⟩ := tq_add (lo := 16) (hi := 23) r_p1 r_x5 (by decide +kernel) e_v_1
        refine tg_laldE hx hb hK hw h_p0 rfl r_v_1 (by decide) dX10_findIn_14 (fun w_2 r_w_2 l_w_2 => ?_)
        refine lv_lload_n hx hb dX10_findIn_15 rfl (lv_at hl 3 rfl) ?_
        refine W.lcmp hx hb dX10_findIn_16 (lv_topi (fun v_3 e_v_3 => ?_))
        have r_v_3 := ri_any v_3
        refine lv_if_ne (tgt := 23) hx hb dX10_findIn_17 (by decide) (fun c_17 => ?_) (fun c_17 => ?_)
        · obtain ⟨v_4, e_v_4⟩ : ∃ q9 : Int32, q9 = x5 + Int32.ofInt 1 := ⟨_, rfl⟩
          obtain ⟨t_v_4, r_v_4⟩ := tq_add (lo := 1) (hi := 8) r_x5 (show RI (Int32.ofInt 1) 1 1 by unfold RI; decide +kernel) (by decide +kernel) e_v_4
          have t_v_4 : v_4.toInt = x5.toInt + 1 := t_v_4
          refine lv_iinc (v := v_4) (lv' := [(5, .int v_4), (0, .ref p0), (1, .int p1), (2, .int p2), (3, .long p3)]) hx hb dX10_findIn_23 hl (k := 4) rfl e_v_4.symm (by decide) rfl (fun ls hl => ?_)
          refine lv_goto (tgt := 3) hx hb dX10_findIn_26 (by decide) ?_
          have x_NF_p0_p1_v_4_p3 : NFD w0 p0 p1 v_4 p3 := NFD.step hw x_NF_p0_p1__5_p3 l_w_2 (by have k1 := r_v_1.cl (by decide); have k2 := r_p1.cl (by decide); have k3 := r_x5.cl (by decide); omega) (lcmp_ne e_v_3 c_17) t_v_4 r_x5.1
          exact ih3 v_4 _ _ ls (by have q0 := r_v_4.1; have u0 := r_v_4.2; have o0 := r_x5.1; have p0 := r_x5.2; omega) r_p1 r_p2 r_p3 (r_v_4.to (by decide)) x_NF_p0_p1_v_4_p3 hw (lv_sub hl [1, 2, 3, 4, 0] rfl)
        · have r_v_3 : RI v_3 0 0 := rc_eq1 r_v_3 rl_0 (ti_eq c_17) (by decide)
          have x_FD_p0_p1_p2_p3 : FDD w0 p0 p1 p2 p3 := FDD.mk l_w_2 (by have k1 := r_v_1.cl (by decide); have k2 := r_p1.cl (by decide); have k3 := r_x5.cl (by decide); omega) (lcmp_eq e_v_3 c_17) (ti_nle c_6) r_x5.1
          have x_POS_p2 : 1 ≤ Int32.toInt p2 := by have k1 := ti_nle c_6; have k2 := r_x5.1; omega
          refine lv_iload hx hb dX10_findIn_20 (lv_at hl 4 rfl) ?_
          subst hQ
          exact W.iret (v := x5) hx hb hr (fun t ht hW => ⟨⟨x5, (), rfl, ⟨r_x5.to (by decide), (fun h0 => trivial), (fun h0 => trivial), trivial, (fun h0 => absurd h0 (by have h8 := r_x5; unfold RI at h8; omega)), (fun h0 => ⟨x_FD_p0_p1_p2_p3, x_POS_p2, trivial⟩)⟩, by rw [ht]; exact hw.2.1, va_K.moved hW.alike hK, hw.2.2.1⟩, hw.2.2.2.1.F ht⟩) hw.2.2.2.1.2.2 dX10_findIn_22
  refine lv_iconst (v := 0) hx hb dX10_findIn_0 (by decide) ?_
  refine lv_istore (lv' := [(5, .int 0), (0, .ref p0), (1, .int p1), (2, .int p2), (3, .long p3)]) hx hb dX10_findIn_1 hl (by decide) rfl (fun ls hl => ?_)
  have x_NF_p0_p1_0_p3 : NFD w0 p0 p1 0 p3 := NFD.zero hw h_p0 rfl
  exact B3 4294967298 0 _ _ ls (by have q0 := rl_0.1; have u0 := rl_0.2; omega) r_p1 r_p2 r_p3 (rl_0.to (by decide)) x_NF_p0_p1_0_p3 hw (lv_sub hl [1, 2, 3, 4, 0] rfl)
abbrev wr_X10_keep : List (Nat × Nat) := []
abbrev wa_X10_keep : List Nat := []
set_option maxHeartbeats 4000000 in
set_option maxRecDepth 100000 in
theorem c_X10_keep (l : Launch) (D : va_G) (cy : Nat → ClassId) (z : Nat → Nat) (sz : Nat) (Ps : PSI) (w0 : va_W) (hT : HT cy GG Ps w0) (p0 : Nat) (p1 : Int32) (p2 : Int32) (F : (Nat → Int32) → Prop) (F2 : (Nat → Int32) → Prop) (h_p0 : (p0, 55) ∈ Ps) (r_p1 : RI p1 2 119) (r_p2 : RI p2 0 0) (x_F : AX 40 52 F Ps w0 p0) (hF : ∀ (f : Nat → Int32) (v : Int32), RI v (-2147483648) 2147483647 → F f → F2 (upd f (Int32.toNatClampNeg p1) v)) : Met l yX10_keep (Cond.code yX10_keep cX10_keep 3 (some .boolean) :: gT) ({ frames := 0, cells := 0, slots := 0, locals := 200 } : Room) (va_Pc [.ref p0, .int p1, .int p2] (PRE D cy z w0 sz)) (va_Qi (fun (r : Int32) (u : Unit) => RI r 0 0 ∧ (r = 0 → AX 40 52 F Ps w0 p0 ∧ True) ∧ (¬ r = 0 → AX 40 52 F2 Ps w0 p0 ∧ True)) (BB D cy (va_A w0 sz) (fun (u : Unit) => w0)) (va_A w0 sz)) 0 0 (va_A w0 sz) := by
  refine Met.ofW (cc := cX10_keep) (maxL := 3) (ret := (some .boolean)) (by decide) rfl ?_
  intro p e s m args below meth c s₁ B hml hv
  obtain ⟨rfl, hsz, hP, hK, hD0, hSD⟩ := hv
  have hx := B.exec
  have hb := B.bytes
  have hr := B.returns
  have hlocks := B.notSynchronized
  have hts : ∀ w ∈ gT, w.before _ s = true := fun w h => atoms_spec (ws := Cond.code yX10_keep cX10_keep 3 (some .boolean) :: gT) B.pre w (List.mem_cons_of_mem _ h)
  have hown : s.vm.findClass RX10 = some m.cls := findClass_of_methodNamed B.named
  subst hsz
  have hD := hD0.self (sz := s.heap.size)
  generalize hAe : va_A w0 s.heap.size = A at hD hSD ⊢
  have hA : ∀ q : Nat, s.heap.size ≤ q → A q := fun q h => by rw [← hAe]; exact Or.inr h
  have hl := lv_entry ([.ref p0, .int p1, .int p2]) (n := 3) (Nat.le_of_ble_eq_true rfl)
  rw [lg_entry_eq]
  generalize (lg_sl ([.ref p0, .int p1, .int p2]) ++ List.replicate (3 - (lg_sl ([.ref p0, .int p1, .int p2])).length) Slot.unset).toArray = ls at hl ⊢
  have hl : lv_has ls 3 [(0, .ref p0), (1, .int p1), (2, .int p2)] := hl
  refine nameQ (fun Q hQ => ?_)
  have hw : WD D cy GG A s wr_X10_keep wa_X10_keep Ps w0 Ps w0 s.heap [] := ⟨hT, hP, hD, va_S.rf, FR.rf, hT.1, [], (List.append_nil _).symm⟩
  refine lv_iload_n hx hb dX10_keep_0 rfl (lv_at hl 2 rfl) ?_
  refine lv_if_eq (tgt := 14) hx hb dX10_keep_1 (by decide) (fun c_1 => ?_) (fun c_1 => ?_)
  · refine lv_iload_n hx hb dX10_keep_14 rfl (lv_at hl 2 rfl) ?_
    subst hQ
    exact W.zret (v := p2) hx hb hr (tq_nz (r_p2.to (by decide))) (fun t ht hW => ⟨⟨p2, (), rfl, ⟨r_p2.to (by decide), (fun h0 => ⟨x_F, trivial⟩), (fun h0 => absurd (Int32.toInt_inj.mp (by have h8 := r_p2; unfold RI at h8; rw [Int32.toInt_zero]; omega)) h0)⟩, by rw [ht]; exact hw.2.1, va_K.moved hW.alike hK, hw.2.2.1⟩, hw.2.2.2.1.F ht⟩) hw.2.2.2.1.2.2 dX10_keep_15
  · exact absurd (r_p2.eq.trans rl_0.eq.symm) ((ti_ne c_1))
abbrev wr_X10_keep__1 : List (Nat × Nat) := []
abbrev wa_X10_keep__1 : List Nat := [52]
set_option maxHeartbeats 4000000 in
set_option maxRecDepth 100000 in
theorem c_X10_keep__1 (l : Launch) (D : va_G) (cy : Nat → ClassId) (z : Nat → Nat) (sz : Nat) (Ps : PSI) (w0 : va_W) (hT : HT cy GG Ps w0) (p0 : Nat) (p1 : Int32) (p2 : Int32) (f0_13 : Int32) (F : (Nat → Int32) → Prop) (F2 : (Nat → Int32) → Prop) (h_p0 : (p0, 55) ∈ Ps) (r_p1 : RI p1 2 119) (r_p2 : RI p2 1 1) (r_f0_13 : RI f0_13 0 5) (m_f0_13 : FLD w0 p0 10 13 (.int f0_13)) (x_F : AX 40 52 F Ps w0 p0) (hF : ∀ (f : Nat → Int32) (v : Int32), RI v 0 5 → F f → F2 (upd f (Int32.toNatClampNeg p1) v)) : Met l yX10_keep (Cond.code yX10_keep cX10_keep 3 (some .boolean) :: gT) ({ frames := 0, cells := 0, slots := 0, locals := 200 } : Room) (va_Pc [.ref p0, .int p1, .int p2] (PRE D cy z w0 sz)) (va_Qi (fun (r : Int32) (u : va_W) => (RI r 1 1 ∧ (r = 0 → AX 40 52 F Ps u p0 ∧ True) ∧ (¬ r = 0 → (∃ v9 : Int32, FLD u p0 10 13 (.int v9) ∧ RI v9 0 5) ∧ AX 40 52 F2 Ps u p0 ∧ True)) ∧ HT cy GG Ps u ∧ FR wr_X10_keep__1 wa_X10_keep__1 Ps w0 u) (BB D cy (va_A w0 sz) (fun (u : va_W) => u)) (va_A w0 sz)) 0 0 (va_A w0 sz) := by
  refine Met.ofW (cc := cX10_keep) (maxL := 3) (ret := (some .boolean)) (by decide) rfl ?_
  intro p e s m args below meth c s₁ B hml hv
  obtain ⟨rfl, hsz, hP, hK, hD0, hSD⟩ := hv
  have hx := B.exec
  have hb := B.bytes
  have hr := B.returns
  have hlocks := B.notSynchronized
  have hts : ∀ w ∈ gT, w.before _ s = true := fun w h => atoms_spec (ws := Cond.code yX10_keep cX10_keep 3 (some .boolean) :: gT) B.pre w (List.mem_cons_of_mem _ h)
  have hown : s.vm.findClass RX10 = some m.cls := findClass_of_methodNamed B.named
  subst hsz
  have hD := hD0.self (sz := s.heap.size)
  generalize hAe : va_A w0 s.heap.size = A at hD hSD ⊢
  have hA : ∀ q : Nat, s.heap.size ≤ q → A q := fun q h => by rw [← hAe]; exact Or.inr h
  have hl := lv_entry ([.ref p0, .int p1, .int p2]) (n := 3) (Nat.le_of_ble_eq_true rfl)
  rw [lg_entry_eq]
  generalize (lg_sl ([.ref p0, .int p1, .int p2]) ++ List.replicate (3 - (lg_sl ([.ref p0, .int p1, .int p2])).length) Slot.unset).toArray = ls at hl ⊢
  have hl : lv_has ls 3 [(0, .ref p0), (1, .int p1), (2, .int p2)] := hl
  refine nameQ (fun Q hQ => ?_)
  have hw : WD D cy GG A s wr_X10_keep__1 wa_X10_keep__1 Ps w0 Ps w0 s.heap [] := ⟨hT, hP, hD, va_S.rf, FR.rf, hT.1, [], (List.append_nil _).symm⟩
  refine lv_iload_n hx hb dX10_keep_0 rfl (lv_at hl 2 rfl) ?_
  refine lv_if_eq (tgt := 14) hx hb dX10_keep_1 (by decide) (fun c_1 => ?_) (fun c_1 => ?_)
  · have r_p2 : RI p2 1 0 := rc_eq1 r_p2 rl_0 (ti_eq c_1) (by decide)
    exact (r_p2.no (by decide)).elim
  · refine lv_aload_n hx hb dX10_keep_4 rfl (lv_at hl 0 rfl) ?_
    refine tg_get (ci := 10) (ts := ty_MODEL) (C := RX10) (T := TX10) (N := 49) hx hb hts inX10 hown hK hw h_p0 rfl rfl 40 (by decide) (hts _ tw_1177) (fun _ h9 => h9) (ft := vR 52) rfl dX10_keep_5 (fun u_1 hv_u_1 m_u_1 => ?_)
    obtain ⟨vu_1, rfl, h_vu_1⟩ := hv_u_1
    refine lv_iload_n hx hb dX10_keep_8 rfl (lv_at hl 1 rfl) ?_
    refine lv_aload_n hx hb dX10_keep_9 rfl (lv_at hl 0 rfl) ?_
    refine tg_mem (ci := 10) (C := RX10) (T := TX10) (N := 49) hx hb hts inX10 hown hK hw 13 m_f0_13 rfl (by decide) (hts _ tw_1150) (fun _ h9 => h9) dX10_keep_10 ?_
    refine tg_iast hx hb hK hw h_vu_1 rfl 2 119 r_p1 (by decide) r_f0_13 (by exact fun _ _ _ => by decide) (fun _ _ _ _ _ => trivial) (by decide) dX10_keep_13 (fun ws H locs hw hF9 hU9 => ?_)
    have x_GFLB_p0 : AX 40 52 F2 Ps ws p0 := AX.ast hF9 hU9 x_F m_u_1 (fun f9 h9 => hF f9 _ r_f0_13 h9)
    have m_f0_13 := FLD.over hF9 m_f0_13 (by decide)
    refine lv_iload_n hx hb dX10_keep_14 rfl (lv_at hl 2 rfl) ?_
    subst hQ
    exact W.zret (v := p2) hx hb hr (tq_nz (r_p2.to (by decide))) (fun t ht hW => ⟨⟨p2, ws, rfl, ⟨⟨r_p2.to (by decide), (fun h0 => absurd (ti_eq h0) (by have h8 := r_p2; unfold RI at h8; rw [Int32.toInt_zero]; omega)), (fun h0 => ⟨⟨_, m_f0_13, r_f0_13⟩, x_GFLB_p0, trivial⟩)⟩, hw.1, hw.2.2.2.2.1⟩, by rw [ht]; exact hw.2.1, va_K.moved hW.alike hK, hw.2.2.1⟩, hw.2.2.2.1.F ht⟩) hw.2.2.2.1.2.2 dX10_keep_15
abbrev wr_X10_readDoes : List (Nat × Nat) := [(10, 5), (10, 6), (10, 7), (10, 8), (10, 9), (10, 10), (10, 11), (10, 12), (10, 13)]
abbrev wa_X10_readDoes : List Nat := [52]
set_option maxHeartbeats 4000000 in
set_option maxRecDepth 100000 in
theorem c_X10_readDoes (l : Launch) (D : va_G) (cy : Nat → ClassId) (z : Nat → Nat) (sz : Nat) (Ps : PSI) (w0 : va_W) (hT : HT cy GG Ps w0) (p0 : Nat) (p1 : Int32) (h_p0 : (p0, 55) ∈ Ps) (r_p1 : RI p1 0 117) (x_OL_p0_p1 : AX 40 52 (fun f => OLp f p1) Ps w0 p0) (x_LE_p0_p1_1_0_7 : AX 40 52 (fun f => 0 ≤ (f (Int32.toNatClampNeg p1 + 1)).toInt ∧ (f (Int32.toNatClampNeg p1 + 1)).toInt ≤ 7) Ps w0 p0) (x_LE_p0_p1_2_0_0 : AX 40 52 (fun f => 0 ≤ (f (Int32.toNatClampNeg p1 + 2)).toInt ∧ (f (Int32.toNatClampNeg p1 + 2)).toInt ≤ 0) Ps w0 p0) (x_MUL3_p1 : (∃ n : Int, Int32.toInt p1 = 3 * n)) : Met l yX10_readDoes (Cond.code yX10_readDoes cX10_readDoes 3 (some .boolean) :: gT) ({ frames := 6, cells := 0, slots := 0, locals := 1200 } : Room) (va_Pc [.ref p0, .int p1] (PRE D cy z w0 sz)) (va_Qi (fun (r : Int32) (u : va_W) => (RI r 0 1 ∧ (r = 0 → True) ∧ (¬ r = 0 → AX 40 52 (fun f => OLp f p1) Ps u p0 ∧ AX 40 52 (fun f => GLk f (Int32.toNatClampNeg p1)) Ps u p0 ∧ True)) ∧ HT cy GG Ps u ∧ FR wr_X10_readDoes wa_X10_readDoes Ps w0 u) (BB D cy (va_A w0 sz) (fun (u : va_W) => u)) (va_A w0 sz)) 0 0 (va_A w0 sz) := by
  refine Met.ofW (cc := cX10_readDoes) (maxL := 3) (ret := (some .boolean)) (by decide) rfl ?_
  intro p e s m args below meth c s₁ B hml hv
  obtain ⟨rfl, hsz, hP, hK, hD0, hSD⟩ := hv
  have hx := B.exec
  have hb := B.bytes
  have hr := B.returns
  have hlocks := B.notSynchronized
  have hts : ∀ w ∈ gT, w.before _ s = true := fun w h => atoms_spec (ws := Cond.code yX10_readDoes cX10_readDoes 3 (some .boolean) :: gT) B.pre w (List.mem_cons_of_mem _ h)
  have hown : s.vm.findClass RX10 = some m.cls := findClass_of_methodNamed B.named
  subst hsz
  have hD := hD0.self (sz := s.heap.size)
  generalize hAe : va_A w0 s.heap.size = A at hD hSD ⊢
  have hA : ∀ q : Nat, s.heap.size ≤ q → A q := fun q h => by rw [← hAe]; exact Or.inr h
  have hl := lv_entry ([.ref p0, .int p1]) (n := 3) (Nat.le_of_ble_eq_true rfl)
  rw [lg_entry_eq]
  generalize (lg_sl ([.ref p0, .int p1]) ++ List.replicate (3 - (lg_sl ([.ref p0, .int p1])).length) Slot.unset).toArray = ls at hl ⊢
  have hl : lv_has ls 3 [(0, .ref p0), (1, .int p1)] := hl
  refine nameQ (fun Q hQ => ?_)
  have hw : WD D cy GG A s wr_X10_readDoes wa_X10_readDoes Ps w0 Ps w0 s.heap [] := ⟨hT, hP, hD, va_S.rf, FR.rf, hT.1, [], (List.append_nil _).symm⟩
  have B3 : ∀ (nf : Nat) (x2 : Int32) (ws : va_W) (H : Heap) (locs : List Loc) (ls : Array Slot), 13 - x2.toInt < (nf : Int) → RI p1 0 117 → RI x2 9 13 → AX 40 52 (fun f => 0 ≤ (f (Int32.toNatClampNeg p1 + 1)).toInt ∧ (f (Int32.toNatClampNeg p1 + 1)).toInt ≤ 7) Ps ws p0 → AX 40 52 (fun f => 0 ≤ (f (Int32.toNatClampNeg p1 + 2)).toInt ∧ (f (Int32.toNatClampNeg p1 + 2)).toInt ≤ 0) Ps ws p0 → (∃ n : Int, Int32.toInt p1 = 3 * n) → AX 40 52 (fun f => OLp f p1) Ps ws p0 → WD D cy GG A s wr_X10_readDoes wa_X10_readDoes Ps w0 Ps ws H locs → lv_has ls 3 [(0, .ref p0), (1, .int p1), (2, .int x2)] → W p l e (headSpec (Cond.code yX10_readDoes cX10_readDoes 3 (some .boolean) :: gT) ({ frames := 6, cells := 0, slots := 0, locals := 1200 } : Room)).room s m ([.ref p0, .int p1] : List Value).toArray below meth c H locs 0 0 Q (F0 m 3 ls []) := by
    intro nf3
    induction nf3 with
    | zero =>
      intro x2 ws H locs ls hn3 r_p1 r_x2 x_LE_p0_p1_1_0_7 x_LE_p0_p1_2_0_0 x_MUL3_p1 x_OL_p0_p1 hw hl
      exact absurd hn3 (by have q0 := r_x2.1; have u0 := r_x2.2; omega)
    | succ nf3 ih3 =>
      intro x2 ws H locs ls hn3 r_p1 r_x2 x_LE_p0_p1_1_0_7 x_LE_p0_p1_2_0_0 x_MUL3_p1 x_OL_p0_p1 hw hl
      refine lv_iload_n hx hb dX10_readDoes_3 rfl (lv_at hl 2 rfl) ?_
      refine lv_bipush (v := 12) hx hb dX10_readDoes_4 (by decide) ?_
      refine lv_icmp_gt (tgt := 23) hx hb dX10_readDoes_6 (by decide) (fun c_6 => ?_) (fun c_6 => ?_)
      · have r_x2 : RI x2 13 13 := rc_lt2 rl_12 r_x2 (ti_lt c_6) (by decide)
        refine lv_iload_n hx hb dX10_readDoes_23 rfl (lv_at hl 2 rfl) ?_
        refine lv_bipush (v := 12) hx hb dX10_readDoes_24 (by decide) ?_
        refine lv_icmp_le (tgt := 35) hx hb dX10_readDoes_26 (by decide) (fun c_26 => ?_) (fun c_26 => ?_)
        · have r_x2 : RI x2 13 12 := rc_le1 r_x2 rl_12 (ti_le c_26) (by decide)
          exact (r_x2.no (by decide)).elim
        · refine lv_aload_n hx hb dX10_readDoes_29 rfl (lv_at hl 0 rfl) ?_
          refine lv_iconst (v := 1) hx hb dX10_readDoes_30 (by decide) ?_
          refine tk_i (va_runV (As := [.int 1]) (rest := []) ⟨hx, hb, hml, hown, hts⟩ (c_X10_bad l D cy z H.size Ps ws hw.1 p0 1 h_p0 (rl_1.to (by decide))) (cwV 1 hts (gV tw_1336 tw_1338 ts_46 tw_15 tw_1339) rfl rfl rfl (by decide +kernel) ⟨Nat.le_of_ble_eq_true rfl, Nat.le_of_ble_eq_true rfl⟩) (tg_preV hw hK hSD hA (ci := 10) (q := (RX10, TX10, 49)) rfl h_p0 rfl) rfl rfl hl.1 rfl (lv_room (Nat.le_of_ble_eq_true rfl)) dX10_readDoes_31 ⟨Nat.le_of_ble_eq_true rfl, Nat.le_of_ble_eq_true rfl⟩) hw hA ⟨by decide, by decide⟩ (fun v_1 ws H locs hp_v_1 hw hF9 => ?_)
          have x_LE_p0_p1_1_0_7 := AX.over hF9 x_LE_p0_p1_1_0_7 (by decide)
          have x_LE_p0_p1_2_0_0 := AX.over hF9 x_LE_p0_p1_2_0_0 (by decide)
          have x_OL_p0_p1 := AX.over hF9 x_OL_p0_p1 (by decide)
          have r_v_1 : RI v_1 0 0 := hp_v_1.1
          subst hQ
          exact W.zret (v := v_1) hx hb hr (tq_nz (r_v_1.to (by decide))) (fun t ht hW => ⟨⟨v_1, ws, rfl, ⟨⟨r_v_1.to (by decide), (fun h0 => trivial), (fun h0 => absurd (Int32.toInt_inj.mp (by have h8 := r_v_1; unfold RI at h8; rw [Int32.toInt_zero]; omega)) h0)⟩, hw.1, hw.2.2.2.2.1⟩, by rw [ht]; exact hw.2.1, va_K.moved hW.alike hK, hw.2.2.1⟩, hw.2.2.2.1.F ht⟩) hw.2.2.2.1.2.2 dX10_readDoes_34
      · have r_x2 : RI x2 9 12 := rc_le1 r_x2 rl_12 (ti_nlt c_6) (by decide)
        refine lv_aload_n hx hb dX10_readDoes_9 rfl (lv_at hl 0 rfl) ?_
        refine lv_iload_n hx hb dX10_readDoes_10 rfl (lv_at hl 2 rfl) ?_
        refine tk_ir (va_runV (As := [.int x2]) (rest := []) ⟨hx, hb, hml, hown, hts⟩ (c_X10_isWord l D cy z H.size Ps ws hw.1 p0 x2 h_p0 (r_x2.to (by decide))) (cwV 1 hts (gV tw_1318 tw_1320 ts_43 tw_15 tw_1321) rfl rfl rfl (by decide +kernel) ⟨Nat.le_of_ble_eq_true rfl, Nat.le_of_ble_eq_true rfl⟩) (tg_preV hw hK hSD hA (ci := 10) (q := (RX10, TX10, 49)) rfl h_p0 rfl) rfl rfl hl.1 rfl (lv_room (Nat.le_of_ble_eq_true rfl)) dX10_readDoes_11 ⟨Nat.le_of_ble_eq_true rfl, Nat.le_of_ble_eq_true rfl⟩) hw hA (fun v_2  H locs hp_v_2 hw => ?_)
        have r_v_2 : RI v_2 0 1 := hp_v_2.1
        refine lv_if_ne (tgt := 23) hx hb dX10_readDoes_14 (by decide) (fun c_14 => ?_) (fun c_14 => ?_)
        · have r_v_2 : RI v_2 1 1 := rc_neL r_v_2 rl_0 (ti_ne c_14) (by decide)
          refine lv_iload_n hx hb dX10_readDoes_23 rfl (lv_at hl 2 rfl) ?_
          refine lv_bipush (v := 12) hx hb dX10_readDoes_24 (by decide) ?_
          refine lv_icmp_le (tgt := 35) hx hb dX10_readDoes_26 (by decide) (fun c_26 => ?_) (fun c_26 => ?_)
          · have g_at := x_MUL3_p1
            have x_LE_p0_p1_0_0_60 : AX 40 52 (fun f => 0 ≤ (f (Int32.toNatClampNeg p1)).toInt ∧ (f (Int32.toNatClampNeg p1)).toInt ≤ 60) Ps ws p0 := AX.imp (ax_of (k := 40) (t := 52) hw h_p0 rfl (fun _ => rfl)) (fun f9 h9 => h9.2 _ (by have k1 := r_p1.cl (by decide); have k2 := r_p1.2; omega))
            refine lv_aload_n hx hb dX10_readDoes_35 rfl (lv_at hl 0 rfl) ?_
            refine tg_get (ci := 10) (ts := ty_MODEL) (C := RX10) (T := TX10) (N := 49) hx hb hts inX10 hown hK hw h_p0 rfl rfl 40 (by decide) (hts _ tw_1177) (fun _ h9 => h9) (ft := vR 52) rfl dX10_readDoes_36 (fun u_3 hv_u_3 m_u_3 => ?_)
            obtain ⟨vu_3, rfl, h_vu_3⟩ := hv_u_3
            refine lv_iload_n hx hb dX10_readDoes_39 rfl (lv_at hl 1 rfl) ?_
            refine lv_iload_n hx hb dX10_readDoes_40 rfl (lv_at hl 2 rfl) ?_
            refine lv_bipush (v := 9) hx hb dX10_readDoes_41 (by decide) ?_
            refine lv_isub hx hb dX10_readDoes_43 (lv_topi (fun v_4 e_v_4 => ?_))
            obtain ⟨t_v_4, r_v_4⟩ := tq_sub (lo := 0) (hi := 3) r_x2 rl_9 (by decide +kernel) e_v_4
            have t_v_4 : v_4.toInt = x2.toInt - 9 := t_v_4
            refine tg_iast hx hb hK hw h_vu_3 rfl 0 117 r_p1 (by decide) r_v_4 (by exact fun _ _ _ => by decide) (fun _ _ _ _ _ => trivial) (by decide) dX10_readDoes_44 (fun ws H locs hw hF9 hU9 => ?_)
            have x_LE_p0_p1_1_0_7 : AX 40 52 (fun f => 0 ≤ (f (Int32.toNatClampNeg p1 + 1)).toInt ∧ (f (Int32.toNatClampNeg p1 + 1)).toInt ≤ 7) Ps ws p0 := AX.ast hF9 hU9 x_LE_p0_p1_1_0_7 m_u_3 (fun f9 h9 => by have j9 : Int32.toNatClampNeg p1 = Int32.toNatClampNeg p1 + 0 := (by have k1 := r_p1.cl (by decide); have k2 := r_p1.cl (by decide); omega); show _ ∧ _; rw [pk_un (by omega)]; exact h9)
            have x_LE_p0_p1_2_0_0 : AX 40 52 (fun f => 0 ≤ (f (Int32.toNatClampNeg p1 + 2)).toInt ∧ (f (Int32.toNatClampNeg p1 + 2)).toInt ≤ 0) Ps ws p0 := AX.ast hF9 hU9 x_LE_p0_p1_2_0_0 m_u_3 (fun f9 h9 => by have j9 : Int32.toNatClampNeg p1 = Int32.toNatClampNeg p1 + 0 := (by have k1 := r_p1.cl (by decide); have k2 := r_p1.cl (by decide); omega); show _ ∧ _; rw [pk_un (by omega)]; exact h9)
            have x_OL_p0_p1 : AX 40 52 (fun f => OLp f p1) Ps ws p0 := AX.ast hF9 hU9 x_OL_p0_p1 m_u_3 (fun f9 h9 => OL_upd h9 g_at (by have k1 := r_p1.cl (by decide); have k2 := r_p1.1; omega))
            have x_LE_p0_p1_0_0_3 : AX 40 52 (fun f => 0 ≤ (f (Int32.toNatClampNeg p1)).toInt ∧ (f (Int32.toNatClampNeg p1)).toInt ≤ 3) Ps ws p0 := AX.ast hF9 hU9 x_LE_p0_p1_0_0_60 m_u_3 (fun f9 h9 => by show _ ∧ _; rw [pk_us]; exact r_v_4)
            have m_u_3 := FLD.over hF9 m_u_3 (by decide)
            refine lv_aload_n hx hb dX10_readDoes_45 rfl (lv_at hl 0 rfl) ?_
            refine tk_v (va_runV (As := []) (rest := []) ⟨hx, hb, hml, hown, hts⟩ (c_X10_go l D cy z H.size Ps ws hw.1 p0 h_p0) (cwV 0 hts (gV tw_1298 tw_1300 ts_40 tw_15 tw_1301) rfl rfl rfl (by decide +kernel) ⟨Nat.le_of_ble_eq_true rfl, Nat.le_of_ble_eq_true rfl⟩) (tg_preV hw hK hSD hA (ci := 10) (q := (RX10, TX10, 49)) rfl h_p0 rfl) rfl rfl hl.1 rfl (lv_room (Nat.le_of_ble_eq_true rfl)) dX10_readDoes_46 ⟨Nat.le_of_ble_eq_true rfl, Nat.le_of_ble_eq_true rfl⟩) hw hA ⟨by decide, by decide⟩ (fun ws H locs hp_v_5 hw hF9 => ?_)
            have m_u_3 := FLD.over hF9 m_u_3 (by decide)
            have x_LE_p0_p1_1_0_7 := AX.over hF9 x_LE_p0_p1_1_0_7 (by decide)
            have x_LE_p0_p1_2_0_0 := AX.over hF9 x_LE_p0_p1_2_0_0 (by decide)
            have x_OL_p0_p1 := AX.over hF9 x_OL_p0_p1 (by decide)
            have x_LE_p0_p1_0_0_3 := AX.over hF9 x_LE_p0_p1_0_0_3 (by decide)
            refine lv_aload_n hx hb dX10_readDoes_49 rfl (lv_at hl 0 rfl) ?_
            refine tg_mem (ci := 10) (C := RX10) (T := TX10) (N := 49) hx hb hts inX10 hown hK hw 40 m_u_3 rfl (by decide) (hts _ tw_1177) (fun _ h9 => h9) dX10_readDoes_50 ?_
            refine lv_iload_n hx hb dX10_readDoes_53 rfl (lv_at hl 1 rfl) ?_
            refine tg_iald (lo := 0) (hi := 60) hx hb hK hw h_vu_3 rfl 0 117 r_p1 (by decide) (by exact fun _ _ _ => ⟨Int.le_refl _, Int.le_refl _⟩) dX10_readDoes_54 (fun v_6 r_v_6 m_v_6 o_v_6 => ?_)
            by_cases k_55_0 : v_6 = 0
            · refine lv_lookup (tgt := 80) (off := 25) hx hb dX10_readDoes_55 (by decide) (by rw [k_55_0]; decide) (by decide) ?_
              have r_v_6 : RI v_6 0 0 := by rw [k_55_0]; exact rl_0
              refine lv_aload_n hx hb dX10_readDoes_80 rfl (lv_at hl 0 rfl) ?_
              refine lv_iload_n hx hb dX10_readDoes_81 rfl (lv_at hl 1 rfl) ?_
              refine lv_iconst (v := 2) hx hb dX10_readDoes_82 (by decide) ?_
              refine lv_iadd hx hb dX10_readDoes_83 (lv_topi (fun v_7 e_v_7 => ?_))
              obtain ⟨t_v_7, r_v_7⟩ := tq_add (lo := 2) (hi := 119) r_p1 rl_2 (by decide +kernel) e_v_7
              have t_v_7 : v_7.toInt = p1.toInt + 2 := t_v_7
              refine lv_aload_n hx hb dX10_readDoes_84 rfl (lv_at hl 0 rfl) ?_
              have hw8 := hw
              refine tk_i (va_runV (As := []) (rest := [.int v_7, .ref p0]) ⟨hx, hb, hml, hown, hts⟩ (c_X10_readParcelName l D cy z H.size Ps ws hw.1 p0 h_p0) (cwV 0 hts (gV tw_1719 tw_1721 ts_105 tw_15 tw_1722) rfl rfl rfl (by decide +kernel) ⟨Nat.le_of_ble_eq_true rfl, Nat.le_of_ble_eq_true rfl⟩) (tg_preV hw hK hSD hA (ci := 10) (q := (RX10, TX10, 49)) rfl h_p0 rfl) rfl rfl hl.1 rfl (lv_room (Nat.le_of_ble_eq_true rfl)) dX10_readDoes_85 ⟨Nat.le_of_ble_eq_true rfl, Nat.le_of_ble_eq_true rfl⟩) hw hA ⟨by decide, by decide⟩ (fun v_8 ws H locs hp_v_8 hw hF9 => ?_)
              have m_v_6 := AEL.over hw8 hF9 h_vu_3 m_v_6 (by decide)
              have m_u_3 := FLD.over hF9 m_u_3 (by decide)
              have x_LE_p0_p1_1_0_7 := AX.over hF9 x_LE_p0_p1_1_0_7 (by decide)
              have x_LE_p0_p1_2_0_0 := AX.over hF9 x_LE_p0_p1_2_0_0 (by decide)
              have x_OL_p0_p1 := AX.over hF9 x_OL_p0_p1 (by decide)
              have x_LE_p0_p1_0_0_3 := AX.over hF9 x_LE_p0_p1_0_0_3 (by decide)
              have r_v_8 : RI v_8 0 1 := hp_v_8.1
              by_cases c9_v_8 : v_8 = 0
              · have r_v_8 : RI v_8 0 0 := by rw [c9_v_8]; exact rl_0
                refine tk_ir (va_runV (As := [.int v_7, .int v_8]) (rest := []) ⟨hx, hb, hml, hown, hts⟩ (c_X10_keep l D cy z H.size Ps ws hw.1 p0 v_7 v_8 (fun f => (0 ≤ (f (Int32.toNatClampNeg p1 + 1)).toInt ∧ (f (Int32.toNatClampNeg p1 + 1)).toInt ≤ 7) ∧ (0 ≤ (f (Int32.toNatClampNeg p1 + 2)).toInt ∧ (f (Int32.toNatClampNeg p1 + 2)).toInt ≤ 0) ∧ OLp f p1 ∧ (0 ≤ (f (Int32.toNatClampNeg p1)).toInt ∧ (f (Int32.toNatClampNeg p1)).toInt ≤ 3) ∧ True) (fun f => (0 ≤ (f (Int32.toNatClampNeg p1 + 1)).toInt ∧ (f (Int32.toNatClampNeg p1 + 1)).toInt ≤ 7) ∧ ((-2147483648) ≤ (f (Int32.toNatClampNeg p1 + 2)).toInt ∧ (f (Int32.toNatClampNeg p1 + 2)).toInt ≤ 2147483647) ∧ OLp f p1 ∧ (0 ≤ (f (Int32.toNatClampNeg p1)).toInt ∧ (f (Int32.toNatClampNeg p1)).toInt ≤ 3) ∧ True) h_p0 r_v_7 r_v_8 (AX.and hw x_LE_p0_p1_1_0_7 (AX.and hw x_LE_p0_p1_2_0_0 (AX.and hw x_OL_p0_p1 (AX.and hw x_LE_p0_p1_0_0_3 (lx_true hw h_p0))))) (fun f9 v9 hv9 H9 => ⟨(have h9 := H9.1; by have j9 : Int32.toNatClampNeg v_7 = Int32.toNatClampNeg p1 + 2 := (by have k1 := r_v_7.cl (by decide); have k2 := r_p1.cl (by decide); omega); show _ ∧ _; rw [pk_un (by omega)]; exact h9), (have h9 := H9.2.1; by have j9 : Int32.toNatClampNeg v_7 = Int32.toNatClampNeg p1 + 2 := (by have k1 := r_v_7.cl (by decide); have k2 := r_p1.cl (by decide); omega); show _ ∧ _; rw [← j9, pk_us]; exact hv9), (have h9 := H9.2.2.1; OL_upd h9 g_at (by have k1 := r_v_7.cl (by decide); have k2 := r_p1.1; omega)), (have h9 := H9.2.2.2.1; by have j9 : Int32.toNatClampNeg v_7 = Int32.toNatClampNeg p1 + 2 := (by have k1 := r_v_7.cl (by decide); have k2 := r_p1.cl (by decide); omega); show _ ∧ _; rw [pk_un (by omega)]; exact h9), trivial⟩)) (cwV 2 hts (gV tw_1727 tw_1729 ts_107 tw_15 tw_1730) rfl rfl rfl (by decide +kernel) ⟨Nat.le_of_ble_eq_true rfl, Nat.le_of_ble_eq_true rfl⟩) (tg_preV hw hK hSD hA (ci := 10) (q := (RX10, TX10, 49)) rfl h_p0 rfl) rfl rfl hl.1 rfl (lv_room (Nat.le_of_ble_eq_true rfl)) dX10_readDoes_88 ⟨Nat.le_of_ble_eq_true rfl, Nat.le_of_ble_eq_true rfl⟩) hw hA (fun v_9  H locs hp_v_9 hw => ?_)
                have r_v_9 : RI v_9 0 0 := hp_v_9.1
                by_cases c9_v_9 : v_9 = 0
                · have r_v_9 : RI v_9 0 0 := by rw [c9_v_9]; exact rl_0
                  have x_LE_p0_p1_1_0_7 : AX 40 52 (fun f => 0 ≤ (f (Int32.toNatClampNeg p1 + 1)).toInt ∧ (f (Int32.toNatClampNeg p1 + 1)).toInt ≤ 7) Ps ws p0 := AX.imp ((hp_v_9.2.1 c9_v_9).1) (fun _ h9 => h9.1)
                  have x_LE_p0_p1_2_0_0 : AX 40 52 (fun f => 0 ≤ (f (Int32.toNatClampNeg p1 + 2)).toInt ∧ (f (Int32.toNatClampNeg p1 + 2)).toInt ≤ 0) Ps ws p0 := AX.imp ((hp_v_9.2.1 c9_v_9).1) (fun _ h9 => h9.2.1)
                  have x_OL_p0_p1 : AX 40 52 (fun f => OLp f p1) Ps ws p0 := AX.imp ((hp_v_9.2.1 c9_v_9).1) (fun _ h9 => h9.2.2.1)
                  have x_LE_p0_p1_0_0_3 : AX 40 52 (fun f => 0 ≤ (f (Int32.toNatClampNeg p1)).toInt ∧ (f (Int32.toNatClampNeg p1)).toInt ≤ 3) Ps ws p0 := AX.imp ((hp_v_9.2.1 c9_v_9).1) (fun _ h9 => h9.2.2.2.1)
                  subst hQ
                  exact W.zret (v := v_9) hx hb hr (tq_nz (r_v_9.to (by decide))) (fun t ht hW => ⟨⟨v_9, ws, rfl, ⟨⟨r_v_9.to (by decide), (fun h0 => trivial), (fun h0 => absurd (Int32.toInt_inj.mp (by have h8 := r_v_9; unfold RI at h8; rw [Int32.toInt_zero]; omega)) h0)⟩, hw.1, hw.2.2.2.2.1⟩, by rw [ht]; exact hw.2.1, va_K.moved hW.alike hK, hw.2.2.1⟩, hw.2.2.2.1.F ht⟩) hw.2.2.2.1.2.2 dX10_readDoes_91
                · exact absurd (Int32.toInt_inj.mp (by rw [Int32.toInt_zero]; unfold RI at r_v_9; omega)) c9_v_9
              · have r_v_8 : RI v_8 1 1 := rc_neL r_v_8 rl_0 (ti_ne c9_v_8) (by decide)
                obtain ⟨v_10, m_v_10, r_v_10⟩ := ((hp_v_8.2.2 c9_v_8).1)
                have hw8 := hw
                refine tk_i (va_runV (As := [.int v_7, .int v_8]) (rest := []) ⟨hx, hb, hml, hown, hts⟩ (c_X10_keep__1 l D cy z H.size Ps ws hw.1 p0 v_7 v_8 v_10 (fun f => (0 ≤ (f (Int32.toNatClampNeg p1 + 1)).toInt ∧ (f (Int32.toNatClampNeg p1 + 1)).toInt ≤ 7) ∧ (0 ≤ (f (Int32.toNatClampNeg p1 + 2)).toInt ∧ (f (Int32.toNatClampNeg p1 + 2)).toInt ≤ 0) ∧ OLp f p1 ∧ (0 ≤ (f (Int32.toNatClampNeg p1)).toInt ∧ (f (Int32.toNatClampNeg p1)).toInt ≤ 3) ∧ True) (fun f => (0 ≤ (f (Int32.toNatClampNeg p1 + 1)).toInt ∧ (f (Int32.toNatClampNeg p1 + 1)).toInt ≤ 7) ∧ (0 ≤ (f (Int32.toNatClampNeg p1 + 2)).toInt ∧ (f (Int32.toNatClampNeg p1 + 2)).toInt ≤ 5) ∧ OLp f p1 ∧ (0 ≤ (f (Int32.toNatClampNeg p1)).toInt ∧ (f (Int32.toNatClampNeg p1)).toInt ≤ 3) ∧ True) h_p0 r_v_7 r_v_8 r_v_10 m_v_10 (AX.and hw x_LE_p0_p1_1_0_7 (AX.and hw x_LE_p0_p1_2_0_0 (AX.and hw x_OL_p0_p1 (AX.and hw x_LE_p0_p1_0_0_3 (lx_true hw h_p0))))) (fun f9 v9 hv9 H9 => ⟨(have h9 := H9.1; by have j9 : Int32.toNatClampNeg v_7 = Int32.toNatClampNeg p1 + 2 := (by have k1 := r_v_7.cl (by decide); have k2 := r_p1.cl (by decide); omega); show _ ∧ _; rw [pk_un (by omega)]; exact h9), (have h9 := H9.2.1; by have j9 : Int32.toNatClampNeg v_7 = Int32.toNatClampNeg p1 + 2 := (by have k1 := r_v_7.cl (by decide); have k2 := r_p1.cl (by decide); omega); show _ ∧ _; rw [← j9, pk_us]; exact hv9), (have h9 := H9.2.2.1; OL_upd h9 g_at (by have k1 := r_v_7.cl (by decide); have k2 := r_p1.1; omega)), (have h9 := H9.2.2.2.1; by have j9 : Int32.toNatClampNeg v_7 = Int32.toNatClampNeg p1 + 2 := (by have k1 := r_v_7.cl (by decide); have k2 := r_p1.cl (by decide); omega); show _ ∧ _; rw [pk_un (by omega)]; exact h9), trivial⟩)) (cwV 2 hts (gV tw_1727 tw_1729 ts_107 tw_15 tw_1730) rfl rfl rfl (by decide +kernel) ⟨Nat.le_of_ble_eq_true rfl, Nat.le_of_ble_eq_true rfl⟩) (tg_preV hw hK hSD hA (ci := 10) (q := (RX10, TX10, 49)) rfl h_p0 rfl) rfl rfl hl.1 rfl (lv_room (Nat.le_of_ble_eq_true rfl)) dX10_readDoes_88 ⟨Nat.le_of_ble_eq_true rfl, Nat.le_of_ble_eq_true rfl⟩) hw hA ⟨by decide, by decide⟩ (fun v_11 ws H locs hp_v_11 hw hF9 => ?_)
                have m_u_3 := FLD.over hF9 m_u_3 (by decide)
                have m_v_10 := FLD.over hF9 m_v_10 (by decide)
                have r_v_11 : RI v_11 1 1 := hp_v_11.1
                by_cases c9_v_11 : v_11 = 0
                · exact absurd (ti_eq c9_v_11) (by unfold RI at r_v_11; rw [Int32.toInt_zero]; omega)
                · obtain ⟨v_12, m_v_12, r_v_12⟩ := ((hp_v_11.2.2 c9_v_11).1)
                  have x_LE_p0_p1_1_0_7 : AX 40 52 (fun f => 0 ≤ (f (Int32.toNatClampNeg p1 + 1)).toInt ∧ (f (Int32.toNatClampNeg p1 + 1)).toInt ≤ 7) Ps ws p0 := AX.imp ((hp_v_11.2.2 c9_v_11).2.1) (fun _ h9 => h9.1)
                  have x_LE_p0_p1_2_0_5 : AX 40 52 (fun f => 0 ≤ (f (Int32.toNatClampNeg p1 + 2)).toInt ∧ (f (Int32.toNatClampNeg p1 + 2)).toInt ≤ 5) Ps ws p0 := AX.imp ((hp_v_11.2.2 c9_v_11).2.1) (fun _ h9 => h9.2.1)
                  have x_OL_p0_p1 : AX 40 52 (fun f => OLp f p1) Ps ws p0 := AX.imp ((hp_v_11.2.2 c9_v_11).2.1) (fun _ h9 => h9.2.2.1)
                  have x_LE_p0_p1_0_0_3 : AX 40 52 (fun f => 0 ≤ (f (Int32.toNatClampNeg p1)).toInt ∧ (f (Int32.toNatClampNeg p1)).toInt ≤ 3) Ps ws p0 := AX.imp ((hp_v_11.2.2 c9_v_11).2.1) (fun _ h9 => h9.2.2.2.1)
                  have x_L9 := AX.and hw x_LE_p0_p1_0_0_3 (AX.and hw x_LE_p0_p1_1_0_7 x_LE_p0_p1_2_0_5)
                  have x_GL_p0_p1 : AX 40 52 (fun f => GLk f (Int32.toNatClampNeg p1)) Ps ws p0 := AX.imp x_L9 (fun f9 h9 => ⟨⟨by have k1 := h9.1.1; omega, by have k1 := h9.1.2; omega⟩, by have k1 := h9.1.1; have k2 := h9.2.1.2; omega, by have k3 := h9.2.2.2; omega⟩)
                  subst hQ
                  exact W.zret (v := v_11) hx hb hr (tq_nz (r_v_11.to (by decide))) (fun t ht hW => ⟨⟨v_11, ws, rfl, ⟨⟨r_v_11.to (by decide), (fun _ => trivial), (fun h0 => ⟨x_OL_p0_p1, x_GL_p0_p1, trivial⟩)⟩, hw.1, hw.2.2.2.2.1⟩, by rw [ht]; exact hw.2.1, va_K.moved hW.alike hK, hw.2.2.1⟩, hw.2.2.2.1.F ht⟩) hw.2.2.2.1.2.2 dX10_readDoes_91
            · by_cases k_55_1 : v_6 = 1
              · refine lv_lookup (tgt := 92) (off := 37) hx hb dX10_readDoes_55 (by decide) (by rw [k_55_1]; decide) (by decide) ?_
                have r_v_6 : RI v_6 1 1 := by rw [k_55_1]; exact rl_1
                refine lv_iconst (v := 1) hx hb dX10_readDoes_92 (by decide) ?_
                have x_L9 := AX.and hw x_LE_p0_p1_0_0_3 (AX.and hw x_LE_p0_p1_1_0_7 x_LE_p0_p1_2_0_0)
                have x_GL_p0_p1 : AX 40 52 (fun f => GLk f (Int32.toNatClampNeg p1)) Ps ws p0 := AX.imp x_L9 (fun f9 h9 => ⟨⟨by have k1 := h9.1.1; omega, by have k1 := h9.1.2; omega⟩, by have k1 := h9.1.1; have k2 := h9.2.1.2; omega, by have k3 := h9.2.2.2; omega⟩)
                subst hQ
                exact W.zret (v := 1) hx hb hr (rfl) (fun t ht hW => ⟨⟨1, ws, rfl, ⟨⟨rl_1.to (by decide), (fun _ => trivial), (fun h0 => ⟨x_OL_p0_p1, x_GL_p0_p1, trivial⟩)⟩, hw.1, hw.2.2.2.2.1⟩, by rw [ht]; exact hw.2.1, va_K.moved hW.alike hK, hw.2.2.1⟩, hw.2.2.2.1.F ht⟩) hw.2.2.2.1.2.2 dX10_readDoes_93
              · refine lv_lookup (tgt := 94) (off := 39) hx hb dX10_readDoes_55 (by decide) ((lv_osw k_55_0 (by decide)).trans ((lv_osw k_55_1 (by decide)).trans (rfl))) (by decide) ?_
                refine lv_aload_n hx hb dX10_readDoes_94 rfl (lv_at hl 0 rfl) ?_
                refine lv_iload_n hx hb dX10_readDoes_95 rfl (lv_at hl 1 rfl) ?_
                refine lv_iconst (v := 2) hx hb dX10_readDoes_96 (by decide) ?_
                refine lv_iadd hx hb dX10_readDoes_97 (lv_topi (fun v_13 e_v_13 => ?_))
                obtain ⟨t_v_13, r_v_13⟩ := tq_add (lo := 2) (hi := 119) r_p1 rl_2 (by decide +kernel) e_v_13
                have t_v_13 : v_13.toInt = p1.toInt + 2 := t_v_13
                refine lv_aload_n hx hb dX10_readDoes_98 rfl (lv_at hl 0 rfl) ?_
                have hw8 := hw
                refine tk_i (va_runV (As := []) (rest := [.int v_13, .ref p0]) ⟨hx, hb, hml, hown, hts⟩ (c_X10_readIdeaName l D cy z H.size Ps ws hw.1 p0 h_p0) (cwV 0 hts (gV tw_1731 tw_1733 ts_108 tw_15 tw_1734) rfl rfl rfl (by decide +kernel) ⟨Nat.le_of_ble_eq_true rfl, Nat.le_of_ble_eq_true rfl⟩) (tg_preV hw hK hSD hA (ci := 10) (q := (RX10, TX10, 49)) rfl h_p0 rfl) rfl rfl hl.1 rfl (lv_room (Nat.le_of_ble_eq_true rfl)) dX10_readDoes_99 ⟨Nat.le_of_ble_eq_true rfl, Nat.le_of_ble_eq_true rfl⟩) hw hA ⟨by decide, by decide⟩ (fun v_14 ws H locs hp_v_14 hw hF9 => ?_)
                have m_v_6 := AEL.over hw8 hF9 h_vu_3 m_v_6 (by decide)
                have m_u_3 := FLD.over hF9 m_u_3 (by decide)
                have x_LE_p0_p1_1_0_7 := AX.over hF9 x_LE_p0_p1_1_0_7 (by decide)
                have x_LE_p0_p1_2_0_0 := AX.over hF9 x_LE_p0_p1_2_0_0 (by decide)
                have x_OL_p0_p1 := AX.over hF9 x_OL_p0_p1 (by decide)
                have x_LE_p0_p1_0_0_3 := AX.over hF9 x_LE_p0_p1_0_0_3 (by decide)
                have r_v_14 : RI v_14 0 1 := hp_v_14.1
                by_cases c9_v_14 : v_14 = 0
                · have r_v_14 : RI v_14 0 0 := by rw [c9_v_14]; exact rl_0
                  refine tk_ir (va_runV (As := [.int v_13, .int v_14]) (rest := []) ⟨hx, hb, hml, hown, hts⟩ (c_X10_keep l D cy z H.size Ps ws hw.1 p0 v_13 v_14 (fun f => (0 ≤ (f (Int32.toNatClampNeg p1 + 1)).toInt ∧ (f (Int32.toNatClampNeg p1 + 1)).toInt ≤ 7) ∧ (0 ≤ (f (Int32.toNatClampNeg p1 + 2)).toInt ∧ (f (Int32.toNatClampNeg p1 + 2)).toInt ≤ 0) ∧ OLp f p1 ∧ (0 ≤ (f (Int32.toNatClampNeg p1)).toInt ∧ (f (Int32.toNatClampNeg p1)).toInt ≤ 3) ∧ True) (fun f => (0 ≤ (f (Int32.toNatClampNeg p1 + 1)).toInt ∧ (f (Int32.toNatClampNeg p1 + 1)).toInt ≤ 7) ∧ ((-2147483648) ≤ (f (Int32.toNatClampNeg p1 + 2)).toInt ∧ (f (Int32.toNatClampNeg p1 + 2)).toInt ≤ 2147483647) ∧ OLp f p1 ∧ (0 ≤ (f (Int32.toNatClampNeg p1)).toInt ∧ (f (Int32.toNatClampNeg p1)).toInt ≤ 3) ∧ True) h_p0 r_v_13 r_v_14 (AX.and hw x_LE_p0_p1_1_0_7 (AX.and hw x_LE_p0_p1_2_0_0 (AX.and hw x_OL_p0_p1 (AX.and hw x_LE_p0_p1_0_0_3 (lx_true hw h_p0))))) (fun f9 v9 hv9 H9 => ⟨(have h9 := H9.1; by have j9 : Int32.toNatClampNeg v_13 = Int32.toNatClampNeg p1 + 2 := (by have k1 := r_v_13.cl (by decide); have k2 := r_p1.cl (by decide); omega); show _ ∧ _; rw [pk_un (by omega)]; exact h9), (have h9 := H9.2.1; by have j9 : Int32.toNatClampNeg v_13 = Int32.toNatClampNeg p1 + 2 := (by have k1 := r_v_13.cl (by decide); have k2 := r_p1.cl (by decide); omega); show _ ∧ _; rw [← j9, pk_us]; exact hv9), (have h9 := H9.2.2.1; OL_upd h9 g_at (by have k1 := r_v_13.cl (by decide); have k2 := r_p1.1; omega)), (have h9 := H9.2.2.2.1; by have j9 : Int32.toNatClampNeg v_13 = Int32.toNatClampNeg p1 + 2 := (by have k1 := r_v_13.cl (by decide); have k2 := r_p1.cl (by decide); omega); show _ ∧ _; rw [pk_un (by omega)]; exact h9), trivial⟩)) (cwV 2 hts (gV tw_1727 tw_1729 ts_107 tw_15 tw_1730) rfl rfl rfl (by decide +kernel) ⟨Nat.le_of_ble_eq_true rfl, Nat.le_of_ble_eq_true rfl⟩) (tg_preV hw hK hSD hA (ci := 10) (q := (RX10, TX10, 49)) rfl h_p0 rfl) rfl rfl hl.1 rfl (lv_room (Nat.le_of_ble_eq_true rfl)) dX10_readDoes_102 ⟨Nat.le_of_ble_eq_true rfl, Nat.le_of_ble_eq_true rfl⟩) hw hA (fun v_15  H locs hp_v_15 hw => ?_)
                  have r_v_15 : RI v_15 0 0 := hp_v_15.1
                  by_cases c9_v_15 : v_15 = 0
                  · have r_v_15 : RI v_15 0 0 := by rw [c9_v_15]; exact rl_0
                    have x_LE_p0_p1_1_0_7 : AX 40 52 (fun f => 0 ≤ (f (Int32.toNatClampNeg p1 + 1)).toInt ∧ (f (Int32.toNatClampNeg p1 + 1)).toInt ≤ 7) Ps ws p0 := AX.imp ((hp_v_15.2.1 c9_v_15).1) (fun _ h9 => h9.1)
                    have x_LE_p0_p1_2_0_0 : AX 40 52 (fun f => 0 ≤ (f (Int32.toNatClampNeg p1 + 2)).toInt ∧ (f (Int32.toNatClampNeg p1 + 2)).toInt ≤ 0) Ps ws p0 := AX.imp ((hp_v_15.2.1 c9_v_15).1) (fun _ h9 => h9.2.1)
                    have x_OL_p0_p1 : AX 40 52 (fun f => OLp f p1) Ps ws p0 := AX.imp ((hp_v_15.2.1 c9_v_15).1) (fun _ h9 => h9.2.2.1)
                    have x_LE_p0_p1_0_0_3 : AX 40 52 (fun f => 0 ≤ (f (Int32.toNatClampNeg p1)).toInt ∧ (f (Int32.toNatClampNeg p1)).toInt ≤ 3) Ps ws p0 := AX.imp ((hp_v_15.2.1 c9_v_15).1) (fun _ h9 => h9.2.2.2.1)
                    subst hQ
                    exact W.zret (v := v_15) hx hb hr (tq_nz (r_v_15.to (by decide))) (fun t ht hW => ⟨⟨v_15, ws, rfl, ⟨⟨r_v_15.to (by decide), (fun h0 => trivial), (fun h0 => absurd (Int32.toInt_inj.mp (by have h8 := r_v_15; unfold RI at h8; rw [Int32.toInt_zero]; omega)) h0)⟩, hw.1, hw.2.2.2.2.1⟩, by rw [ht]; exact hw.2.1, va_K.moved hW.alike hK, hw.2.2.1⟩, hw.2.2.2.1.F ht⟩) hw.2.2.2.1.2.2 dX10_readDoes_105
                  · exact absurd (Int32.toInt_inj.mp (by rw [Int32.toInt_zero]; unfold RI at r_v_15; omega)) c9_v_15
                · have r_v_14 : RI v_14 1 1 := rc_neL r_v_14 rl_0 (ti_ne c9_v_14) (by decide)
                  obtain ⟨v_16, m_v_16, r_v_16⟩ := ((hp_v_14.2.2 c9_v_14).1)
                  have hw8 := hw
                  refine tk_i (va_runV (As := [.int v_13, .int v_14]) (rest := []) ⟨hx, hb, hml, hown, hts⟩ (c_X10_keep__1 l D cy z H.size Ps ws hw.1 p0 v_13 v_14 v_16 (fun f => (0 ≤ (f (Int32.toNatClampNeg p1 + 1)).toInt ∧ (f (Int32.toNatClampNeg p1 + 1)).toInt ≤ 7) ∧ (0 ≤ (f (Int32.toNatClampNeg p1 + 2)).toInt ∧ (f (Int32.toNatClampNeg p1 + 2)).toInt ≤ 0) ∧ OLp f p1 ∧ (0 ≤ (f (Int32.toNatClampNeg p1)).toInt ∧ (f (Int32.toNatClampNeg p1)).toInt ≤ 3) ∧ True) (fun f => (0 ≤ (f (Int32.toNatClampNeg p1 + 1)).toInt ∧ (f (Int32.toNatClampNeg p1 + 1)).toInt ≤ 7) ∧ (0 ≤ (f (Int32.toNatClampNeg p1 + 2)).toInt ∧ (f (Int32.toNatClampNeg p1 + 2)).toInt ≤ 5) ∧ OLp f p1 ∧ (0 ≤ (f (Int32.toNatClampNeg p1)).toInt ∧ (f (Int32.toNatClampNeg p1)).toInt ≤ 3) ∧ True) h_p0 r_v_13 r_v_14 r_v_16 m_v_16 (AX.and hw x_LE_p0_p1_1_0_7 (AX.and hw x_LE_p0_p1_2_0_0 (AX.and hw x_OL_p0_p1 (AX.and hw x_LE_p0_p1_0_0_3 (lx_true hw h_p0))))) (fun f9 v9 hv9 H9 => ⟨(have h9 := H9.1; by have j9 : Int32.toNatClampNeg v_13 = Int32.toNatClampNeg p1 + 2 := (by have k1 := r_v_13.cl (by decide); have k2 := r_p1.cl (by decide); omega); show _ ∧ _; rw [pk_un (by omega)]; exact h9), (have h9 := H9.2.1; by have j9 : Int32.toNatClampNeg v_13 = Int32.toNatClampNeg p1 + 2 := (by have k1 := r_v_13.cl (by decide); have k2 := r_p1.cl (by decide); omega); show _ ∧ _; rw [← j9, pk_us]; exact hv9), (have h9 := H9.2.2.1; OL_upd h9 g_at (by have k1 := r_v_13.cl (by decide); have k2 := r_p1.1; omega)), (have h9 := H9.2.2.2.1; by have j9 : Int32.toNatClampNeg v_13 = Int32.toNatClampNeg p1 + 2 := (by have k1 := r_v_13.cl (by decide); have k2 := r_p1.cl (by decide); omega); show _ ∧ _; rw [pk_un (by omega)]; exact h9), trivial⟩)) (cwV 2 hts (gV tw_1727 tw_1729 ts_107 tw_15 tw_1730) rfl rfl rfl (by decide +kernel) ⟨Nat.le_of_ble_eq_true rfl, Nat.le_of_ble_eq_true rfl⟩) (tg_preV hw hK hSD hA (ci := 10) (q := (RX10, TX10, 49)) rfl h_p0 rfl) rfl rfl hl.1 rfl (lv_room (Nat.le_of_ble_eq_true rfl)) dX10_readDoes_102 ⟨Nat.le_of_ble_eq_true rfl, Nat.le_of_ble_eq_true rfl⟩) hw hA ⟨by decide, by decide⟩ (fun v_17 ws H locs hp_v_17 hw hF9 => ?_)
                  have m_u_3 := FLD.over hF9 m_u_3 (by decide)
                  have m_v_16 := FLD.over hF9 m_v_16 (by decide)
                  have r_v_17 : RI v_17 1 1 := hp_v_17.1
                  by_cases c9_v_17 : v_17 = 0
                  · exact absurd (ti_eq c9_v_17) (by unfold RI at r_v_17; rw [Int32.toInt_zero]; omega)
                  · obtain ⟨v_18, m_v_18, r_v_18⟩ := ((hp_v_17.2.2 c9_v_17).1)
                    have x_LE_p0_p1_1_0_7 : AX 40 52 (fun f => 0 ≤ (f (Int32.toNatClampNeg p1 + 1)).toInt ∧ (f (Int32.toNatClampNeg p1 + 1)).toInt ≤ 7) Ps ws p0 := AX.imp ((hp_v_17.2.2 c9_v_17).2.1) (fun _ h9 => h9.1)
                    have x_LE_p0_p1_2_0_5 : AX 40 52 (fun f => 0 ≤ (f (Int32.toNatClampNeg p1 + 2)).toInt ∧ (f (Int32.toNatClampNeg p1 + 2)).toInt ≤ 5) Ps ws p0 := AX.imp ((hp_v_17.2.2 c9_v_17).2.1) (fun _ h9 => h9.2.1)
                    have x_OL_p0_p1 : AX 40 52 (fun f => OLp f p1) Ps ws p0 := AX.imp ((hp_v_17.2.2 c9_v_17).2.1) (fun _ h9 => h9.2.2.1)
                    have x_LE_p0_p1_0_0_3 : AX 40 52 (fun f => 0 ≤ (f (Int32.toNatClampNeg p1)).toInt ∧ (f (Int32.toNatClampNeg p1)).toInt ≤ 3) Ps ws p0 := AX.imp ((hp_v_17.2.2 c9_v_17).2.1) (fun _ h9 => h9.2.2.2.1)
                    have x_L9 := AX.and hw x_LE_p0_p1_0_0_3 (AX.and hw x_LE_p0_p1_1_0_7 x_LE_p0_p1_2_0_5)
                    have x_GL_p0_p1 : AX 40 52 (fun f => GLk f (Int32.toNatClampNeg p1)) Ps ws p0 := AX.imp x_L9 (fun f9 h9 => ⟨⟨by have k1 := h9.1.1; omega, by have k1 := h9.1.2; omega⟩, by have k1 := h9.1.1; have k2 := h9.2.1.2; omega, by have k3 := h9.2.2.2; omega⟩)
                    subst hQ
                    exact W.zret (v := v_17) hx hb hr (tq_nz (r_v_17.to (by decide))) (fun t ht hW => ⟨⟨v_17, ws, rfl, ⟨⟨r_v_17.to (by decide), (fun _ => trivial), (fun h0 => ⟨x_OL_p0_p1, x_GL_p0_p1, trivial⟩)⟩, hw.1, hw.2.2.2.2.1⟩, by rw [ht]; exact hw.2.1, va_K.moved hW.alike hK, hw.2.2.1⟩, hw.2.2.2.1.F ht⟩) hw.2.2.2.1.2.2 dX10_readDoes_105
          · have r_x2 : RI x2 13 12 := rc_lt2 rl_12 r_x2 (ti_nle c_26) (by decide)
            exact (r_x2.no (by decide)).elim
        · have r_v_2 : RI v_2 0 0 := rc_eq1 r_v_2 rl_0 (ti_eq c_14) (by decide)
          obtain ⟨v_19, e_v_19⟩ : ∃ q9 : Int32, q9 = x2 + Int32.ofInt 1 := ⟨_, rfl⟩
          obtain ⟨t_v_19, r_v_19⟩ := tq_add (lo := 10) (hi := 13) r_x2 (show RI (Int32.ofInt 1) 1 1 by unfold RI; decide +kernel) (by decide +kernel) e_v_19
          have t_v_19 : v_19.toInt = x2.toInt + 1 := t_v_19
          refine lv_iinc (v := v_19) (lv' := [(2, .int v_19), (0, .ref p0), (1, .int p1)]) hx hb dX10_readDoes_17 hl (k := 2) rfl e_v_19.symm (by decide) rfl (fun ls hl => ?_)
          refine lv_goto (tgt := 3) hx hb dX10_readDoes_20 (by decide) ?_
          exact ih3 v_19 ws _ _ ls (by have q0 := r_v_19.1; have u0 := r_v_19.2; have o0 := r_x2.1; have p0 := r_x2.2; omega) r_p1 (r_v_19.to (by decide)) x_LE_p0_p1_1_0_7 x_LE_p0_p1_2_0_0 x_MUL3_p1 x_OL_p0_p1 hw (lv_sub hl [1, 2, 0] rfl)
  refine lv_bipush (v := 9) hx hb dX10_readDoes_0 (by decide) ?_
  refine lv_istore_n (lv' := [(2, .int 9), (0, .ref p0), (1, .int p1)]) hx hb dX10_readDoes_2 rfl hl (by decide) rfl (fun ls hl => ?_)
  exact B3 4294967298 9 w0 _ _ ls (by have q0 := rl_9.1; have u0 := rl_9.2; omega) r_p1 (rl_9.to (by decide)) x_LE_p0_p1_1_0_7 x_LE_p0_p1_2_0_0 x_MUL3_p1 x_OL_p0_p1 hw (lv_sub hl [1, 2, 0] rfl)
abbrev wr_X10_readNumber__6 : List (Nat × Nat) := [(10, 5), (10, 6), (10, 7), (10, 8), (10, 9), (10, 10), (10, 11), (10, 12), (10, 13)]
abbrev wa_X10_readNumber__6 : List Nat := []
set_option maxHeartbeats 4000000 in
set_option maxRecDepth 100000 in
theorem c_X10_readNumber__6 (l : Launch) (D : va_G) (cy : Nat → ClassId) (z : Nat → Nat) (sz : Nat) (Ps : PSI) (w0 : va_W) (hT : HT cy GG Ps w0) (p0 : Nat) (p1 : Int32) (p2 : Int32) (h_p0 : (p0, 55) ∈ Ps) (r_p1 : RI p1 1 1) (r_p2 : RI p2 60 60) : Met l yX10_readNumber (Cond.code yX10_readNumber cX10_readNumber 3 (some .boolean) :: gT) ({ frames := 3, cells := 0, slots := 0, locals := 600 } : Room) (va_Pc [.ref p0, .int p1, .int p2] (PRE D cy z w0 sz)) (va_Qi (fun (r : Int32) (u : va_W) => (RI r 0 1 ∧ (r = 0 → True) ∧ (¬ r = 0 → (∃ v9 : Int32, FLD u p0 10 13 (.int v9) ∧ RI v9 1 60) ∧ True)) ∧ HT cy GG Ps u ∧ FR wr_X10_readNumber__6 wa_X10_readNumber__6 Ps w0 u) (BB D cy (va_A w0 sz) (fun (u : va_W) => u)) (va_A w0 sz)) 0 0 (va_A w0 sz) := by
  refine Met.ofW (cc := cX10_readNumber) (maxL := 3) (ret := (some .boolean)) (by decide) rfl ?_
  intro p e s m args below meth c s₁ B hml hv
  obtain ⟨rfl, hsz, hP, hK, hD0, hSD⟩ := hv
  have hx := B.exec
  have hb := B.bytes
  have hr := B.returns
  have hlocks := B.notSynchronized
  have hts : ∀ w ∈ gT, w.before _ s = true := fun w h => atoms_spec (ws := Cond.code yX10_readNumber cX10_readNumber 3 (some .boolean) :: gT) B.pre w (List.mem_cons_of_mem _ h)
  have hown : s.vm.findClass RX10 = some m.cls := findClass_of_methodNamed B.named
  subst hsz
  have hD := hD0.self (sz := s.heap.size)
  generalize hAe : va_A w0 s.heap.size = A at hD hSD ⊢
  have hA : ∀ q : Nat, s.heap.size ≤ q → A q := fun q h => by rw [← hAe]; exact Or.inr h
  have hl := lv_entry ([.ref p0, .int p1, .int p2]) (n := 3) (Nat.le_of_ble_eq_true rfl)
  rw [lg_entry_eq]
  generalize (lg_sl ([.ref p0, .int p1, .int p2]) ++ List.replicate (3 - (lg_sl ([.ref p0, .int p1, .int p2])).length) Slot.unset).toArray = ls at hl ⊢
  have hl : lv_has ls 3 [(0, .ref p0), (1, .int p1), (2, .int p2)] := hl
  refine nameQ (fun Q hQ => ?_)
  have hw : WD D cy GG A s wr_X10_readNumber__6 wa_X10_readNumber__6 Ps w0 Ps w0 s.heap [] := ⟨hT, hP, hD, va_S.rf, FR.rf, hT.1, [], (List.append_nil _).symm⟩
  refine lv_aload_n hx hb dX10_readNumber_0 rfl (lv_at hl 0 rfl) ?_
  refine tg_get (ci := 10) (ts := ty_MODEL) (C := RX10) (T := TX10) (N := 49) hx hb hts inX10 hown hK hw h_p0 rfl rfl 7 (by decide) (hts _ tw_1144) (fun _ h9 => h9) (ft := vI (-2147483648) 2147483647) rfl dX10_readNumber_1 (fun u_1 hv_u_1 m_u_1 => ?_)
  obtain ⟨vu_1, rfl, r_vu_1⟩ := hv_u_1
  refine lv_iconst (v := 3) hx hb dX10_readNumber_4 (by decide) ?_
  refine lv_icmp_eq (tgt := 14) hx hb dX10_readNumber_5 (by decide) (fun c_5 => ?_) (fun c_5 => ?_)
  · have r_vu_1 : RI vu_1 3 3 := rc_eq1 r_vu_1 rl_3 (ti_eq c_5) (by decide)
    refine lv_aload_n hx hb dX10_readNumber_14 rfl (lv_at hl 0 rfl) ?_
    refine tg_get (ci := 10) (ts := ty_MODEL) (C := RX10) (T := TX10) (N := 49) hx hb hts inX10 hown hK hw h_p0 rfl rfl 8 (by decide) (hts _ tw_1145) (fun _ h9 => h9) (ft := vI (-2147483648) 2147483647) rfl dX10_readNumber_15 (fun u_2 hv_u_2 m_u_2 => ?_)
    obtain ⟨vu_2, rfl, r_vu_2⟩ := hv_u_2
    refine lv_iload_n hx hb dX10_readNumber_18 rfl (lv_at hl 1 rfl) ?_
    refine lv_iload_n hx hb dX10_readNumber_19 rfl (lv_at hl 2 rfl) ?_
    refine tk_ir (va_runS (As := [.int vu_2, .int p1, .int p2]) (rest := []) ⟨hx, hb, hml, hown, hts⟩ (c_X10_isIn__3 l D cy z s.heap.size Ps w0 hw.1 vu_2 p1 p2 r_vu_2 r_p1 r_p2) (va_cwS 3 hts (gS tw_1359 tw_1360 tw_15 tw_1361) rfl rfl rfl (by decide +kernel) ⟨Nat.le_of_ble_eq_true rfl, Nat.le_of_ble_eq_true rfl⟩) (tg_preS hw hK hSD hA) rfl rfl hl.1 rfl (lv_room (Nat.le_of_ble_eq_true rfl)) dX10_readNumber_20 ⟨Nat.le_of_ble_eq_true rfl, Nat.le_of_ble_eq_true rfl⟩) hw hA (fun v_3  H locs hp_v_3 hw => ?_)
    have r_v_3 : RI v_3 0 1 := hp_v_3.1
    refine lv_if_ne (tgt := 32) hx hb dX10_readNumber_23 (by decide) (fun c_23 => ?_) (fun c_23 => ?_)
    · have r_v_3 : RI v_3 1 1 := rc_neL r_v_3 rl_0 (ti_ne c_23) (by decide)
      have r_vu_2 : RI vu_2 1 60 := ((hp_v_3.2.2 c_23).1)
      refine lv_aload_n hx hb dX10_readNumber_32 rfl (lv_at hl 0 rfl) ?_
      refine lv_aload_n hx hb dX10_readNumber_33 rfl (lv_at hl 0 rfl) ?_
      refine tg_mem (ci := 10) (C := RX10) (T := TX10) (N := 49) hx hb hts inX10 hown hK hw 8 m_u_2 rfl (by decide) (hts _ tw_1145) (fun _ h9 => h9) dX10_readNumber_34 ?_
      refine tg_put (ci := 10) (ts := ty_MODEL) (v := .int vu_2) (ty := .int) (C := RX10) (T := TX10) (N := 49) hx hb hts inX10 tyX10 tyX10_ok nmX10 hown hK hw h_p0 rfl rfl 13 (by decide) (hts _ tw_1150) (fun _ h9 => h9) rfl (by decide +kernel) rfl rfl (ft := vI (-2147483648) 2147483647) rfl ⟨_, rfl, (r_vu_2.to (by decide))⟩ (by decide) dX10_readNumber_37 (fun ws H locs hw n_k_4 hF9 => ?_)
      have m_u_1 := FLD.over hF9 m_u_1 (by decide)
      have m_u_2 := FLD.over hF9 m_u_2 (by decide)
      refine lv_aload_n hx hb dX10_readNumber_40 rfl (lv_at hl 0 rfl) ?_
      refine tk_v (va_runV (As := []) (rest := []) ⟨hx, hb, hml, hown, hts⟩ (c_X10_go l D cy z H.size Ps ws hw.1 p0 h_p0) (cwV 0 hts (gV tw_1298 tw_1300 ts_40 tw_15 tw_1301) rfl rfl rfl (by decide +kernel) ⟨Nat.le_of_ble_eq_true rfl, Nat.le_of_ble_eq_true rfl⟩) (tg_preV hw hK hSD hA (ci := 10) (q := (RX10, TX10, 49)) rfl h_p0 rfl) rfl rfl hl.1 rfl (lv_room (Nat.le_of_ble_eq_true rfl)) dX10_readNumber_41 ⟨Nat.le_of_ble_eq_true rfl, Nat.le_of_ble_eq_true rfl⟩) hw hA ⟨by decide, by decide⟩ (fun ws H locs hp_v_5 hw hF9 => ?_)
      have n_k_4 := FLD.over hF9 n_k_4 (by decide)
      refine lv_iconst (v := 1) hx hb dX10_readNumber_44 (by decide) ?_
      subst hQ
      exact W.zret (v := 1) hx hb hr (rfl) (fun t ht hW => ⟨⟨1, ws, rfl, ⟨⟨rl_1.to (by decide), (fun _ => trivial), (fun h0 => ⟨⟨_, n_k_4, r_vu_2⟩, trivial⟩)⟩, hw.1, hw.2.2.2.2.1⟩, by rw [ht]; exact hw.2.1, va_K.moved hW.alike hK, hw.2.2.1⟩, hw.2.2.2.1.F ht⟩) hw.2.2.2.1.2.2 dX10_readNumber_45
    · have r_v_3 : RI v_3 0 0 := rc_eq1 r_v_3 rl_0 (ti_eq c_23) (by decide)
      refine lv_aload_n hx hb dX10_readNumber_26 rfl (lv_at hl 0 rfl) ?_
      refine lv_iconst (v := 2) hx hb dX10_readNumber_27 (by decide) ?_
      refine tk_i (va_runV (As := [.int 2]) (rest := []) ⟨hx, hb, hml, hown, hts⟩ (c_X10_bad l D cy z H.size Ps w0 hw.1 p0 2 h_p0 (rl_2.to (by decide))) (cwV 1 hts (gV tw_1336 tw_1338 ts_46 tw_15 tw_1339) rfl rfl rfl (by decide +kernel) ⟨Nat.le_of_ble_eq_true rfl, Nat.le_of_ble_eq_true rfl⟩) (tg_preV hw hK hSD hA (ci := 10) (q := (RX10, TX10, 49)) rfl h_p0 rfl) rfl rfl hl.1 rfl (lv_room (Nat.le_of_ble_eq_true rfl)) dX10_readNumber_28 ⟨Nat.le_of_ble_eq_true rfl, Nat.le_of_ble_eq_true rfl⟩) hw hA ⟨by decide, by decide⟩ (fun v_6 ws H locs hp_v_6 hw hF9 => ?_)
      have m_u_1 := FLD.over hF9 m_u_1 (by decide)
      have m_u_2 := FLD.over hF9 m_u_2 (by decide)
      have r_v_6 : RI v_6 0 0 := hp_v_6.1
      subst hQ
      exact W.zret (v := v_6) hx hb hr (tq_nz (r_v_6.to (by decide))) (fun t ht hW => ⟨⟨v_6, ws, rfl, ⟨⟨r_v_6.to (by decide), (fun h0 => trivial), (fun h0 => absurd (Int32.toInt_inj.mp (by have h8 := r_v_6; unfold RI at h8; rw [Int32.toInt_zero]; omega)) h0)⟩, hw.1, hw.2.2.2.2.1⟩, by rw [ht]; exact hw.2.1, va_K.moved hW.alike hK, hw.2.2.1⟩, hw.2.2.2.1.F ht⟩) hw.2.2.2.1.2.2 dX10_readNumber_31
  · refine lv_aload_n hx hb dX10_readNumber_8 rfl (lv_at hl 0 rfl) ?_
    refine lv_iconst (v := 1) hx hb dX10_readNumber_9 (by decide) ?_
    refine tk_i (va_runV (As := [.int 1]) (rest := []) ⟨hx, hb, hml, hown, hts⟩ (c_X10_bad l D cy z s.heap.size Ps w0 hw.1 p0 1 h_p0 (rl_1.to (by decide))) (cwV 1 hts (gV tw_1336 tw_1338 ts_46 tw_15 tw_1339) rfl rfl rfl (by decide +kernel) ⟨Nat.le_of_ble_eq_true rfl, Nat.le_of_ble_eq_true rfl⟩) (tg_preV hw hK hSD hA (ci := 10) (q := (RX10, TX10, 49)) rfl h_p0 rfl) rfl rfl hl.1 rfl (lv_room (Nat.le_of_ble_eq_true rfl)) dX10_readNumber_10 ⟨Nat.le_of_ble_eq_true rfl, Nat.le_of_ble_eq_true rfl⟩) hw hA ⟨by decide, by decide⟩ (fun v_7 ws H locs hp_v_7 hw hF9 => ?_)
    have m_u_1 := FLD.over hF9 m_u_1 (by decide)
    have r_v_7 : RI v_7 0 0 := hp_v_7.1
    subst hQ
    exact W.zret (v := v_7) hx hb hr (tq_nz (r_v_7.to (by decide))) (fun t ht hW => ⟨⟨v_7, ws, rfl, ⟨⟨r_v_7.to (by decide), (fun h0 => trivial), (fun h0 => absurd (Int32.toInt_inj.mp (by have h8 := r_v_7; unfold RI at h8; rw [Int32.toInt_zero]; omega)) h0)⟩, hw.1, hw.2.2.2.2.1⟩, by rw [ht]; exact hw.2.1, va_K.moved hW.alike hK, hw.2.2.1⟩, hw.2.2.2.1.F ht⟩) hw.2.2.2.1.2.2 dX10_readNumber_13
abbrev wr_X10_keep__2 : List (Nat × Nat) := []
abbrev wa_X10_keep__2 : List Nat := []
set_option maxHeartbeats 4000000 in
set_option maxRecDepth 100000 in
theorem c_X10_keep__2 (l : Launch) (D : va_G) (cy : Nat → ClassId) (z : Nat → Nat) (sz : Nat) (Ps : PSI) (w0 : va_W) (hT : HT cy GG Ps w0) (p0 : Nat) (p1 : Int32) (p2 : Int32) (F : (Nat → Int32) → Prop) (F2 : (Nat → Int32) → Prop) (h_p0 : (p0, 55) ∈ Ps) (r_p1 : RI p1 1 118) (r_p2 : RI p2 0 0) (x_F : AX 40 52 F Ps w0 p0) (hF : ∀ (f : Nat → Int32) (v : Int32), RI v (-2147483648) 2147483647 → F f → F2 (upd f (Int32.toNatClampNeg p1) v)) : Met l yX10_keep (Cond.code yX10_keep cX10_keep 3 (some .boolean) :: gT) ({ frames := 0, cells := 0, slots := 0, locals := 200 } : Room) (va_Pc [.ref p0, .int p1, .int p2] (PRE D cy z w0 sz)) (va_Qi (fun (r : Int32) (u : Unit) => RI r 0 0 ∧ (r = 0 → AX 40 52 F Ps w0 p0 ∧ True) ∧ (¬ r = 0 → AX 40 52 F2 Ps w0 p0 ∧ True)) (BB D cy (va_A w0 sz) (fun (u : Unit) => w0)) (va_A w0 sz)) 0 0 (va_A w0 sz) := by
  refine Met.ofW (cc := cX10_keep) (maxL := 3) (ret := (some .boolean)) (by decide) rfl ?_
  intro p e s m args below meth c s₁ B hml hv
  obtain ⟨rfl, hsz, hP, hK, hD0, hSD⟩ := hv
  have hx := B.exec
  have hb := B.bytes
  have hr := B.returns
  have hlocks := B.notSynchronized
  have hts : ∀ w ∈ gT, w.before _ s = true := fun w h => atoms_spec (ws := Cond.code yX10_keep cX10_keep 3 (some .boolean) :: gT) B.pre w (List.mem_cons_of_mem _ h)
  have hown : s.vm.findClass RX10 = some m.cls := findClass_of_methodNamed B.named
  subst hsz
  have hD := hD0.self (sz := s.heap.size)
  generalize hAe : va_A w0 s.heap.size = A at hD hSD ⊢
  have hA : ∀ q : Nat, s.heap.size ≤ q → A q := fun q h => by rw [← hAe]; exact Or.inr h
  have hl := lv_entry ([.ref p0, .int p1, .int p2]) (n := 3) (Nat.le_of_ble_eq_true rfl)
  rw [lg_entry_eq]
  generalize (lg_sl ([.ref p0, .int p1, .int p2]) ++ List.replicate (3 - (lg_sl ([.ref p0, .int p1, .int p2])).length) Slot.unset).toArray = ls at hl ⊢
  have hl : lv_has ls 3 [(0, .ref p0), (1, .int p1), (2, .int p2)] := hl
  refine nameQ (fun Q hQ => ?_)
  have hw : WD D cy GG A s wr_X10_keep__2 wa_X10_keep__2 Ps w0 Ps w0 s.heap [] := ⟨hT, hP, hD, va_S.rf, FR.rf, hT.1, [], (List.append_nil _).symm⟩
  refine lv_iload_n hx hb dX10_keep_0 rfl (lv_at hl 2 rfl) ?_
  refine lv_if_eq (tgt := 14) hx hb dX10_keep_1 (by decide) (fun c_1 => ?_) (fun c_1 => ?_)
  · refine lv_iload_n hx hb dX10_keep_14 rfl (lv_at hl 2 rfl) ?_
    subst hQ
    exact W.zret (v := p2) hx hb hr (tq_nz (r_p2.to (by decide))) (fun t ht hW => ⟨⟨p2, (), rfl, ⟨r_p2.to (by decide), (fun h0 => ⟨x_F, trivial⟩), (fun h0 => absurd (Int32.toInt_inj.mp (by have h8 := r_p2; unfold RI at h8; rw [Int32.toInt_zero]; omega)) h0)⟩, by rw [ht]; exact hw.2.1, va_K.moved hW.alike hK, hw.2.2.1⟩, hw.2.2.2.1.F ht⟩) hw.2.2.2.1.2.2 dX10_keep_15
  · exact absurd (r_p2.eq.trans rl_0.eq.symm) ((ti_ne c_1))
abbrev wr_X10_keep__3 : List (Nat × Nat) := []
abbrev wa_X10_keep__3 : List Nat := [52]
set_option maxHeartbeats 4000000 in
set_option maxRecDepth 100000 in
theorem c_X10_keep__3 (l : Launch) (D : va_G) (cy : Nat → ClassId) (z : Nat → Nat) (sz : Nat) (Ps : PSI) (w0 : va_W) (hT : HT cy GG Ps w0) (p0 : Nat) (p1 : Int32) (p2 : Int32) (f0_13 : Int32) (F : (Nat → Int32) → Prop) (F2 : (Nat → Int32) → Prop) (h_p0 : (p0, 55) ∈ Ps) (r_p1 : RI p1 1 118) (r_p2 : RI p2 1 1) (r_f0_13 : RI f0_13 1 60) (m_f0_13 : FLD w0 p0 10 13 (.int f0_13)) (x_F : AX 40 52 F Ps w0 p0) (hF : ∀ (f : Nat → Int32) (v : Int32), RI v 1 60 → F f → F2 (upd f (Int32.toNatClampNeg p1) v)) : Met l yX10_keep (Cond.code yX10_keep cX10_keep 3 (some .boolean) :: gT) ({ frames := 0, cells := 0, slots := 0, locals := 200 } : Room) (va_Pc [.ref p0, .int p1, .int p2] (PRE D cy z w0 sz)) (va_Qi (fun (r : Int32) (u : va_W) => (RI r 1 1 ∧ (r = 0 → AX 40 52 F Ps u p0 ∧ True) ∧ (¬ r = 0 → (∃ v9 : Int32, FLD u p0 10 13 (.int v9) ∧ RI v9 1 60) ∧ AX 40 52 F2 Ps u p0 ∧ True)) ∧ HT cy GG Ps u ∧ FR wr_X10_keep__3 wa_X10_keep__3 Ps w0 u) (BB D cy (va_A w0 sz) (fun (u : va_W) => u)) (va_A w0 sz)) 0 0 (va_A w0 sz) := by
  refine Met.ofW (cc := cX10_keep) (maxL := 3) (ret := (some .boolean)) (by decide) rfl ?_
  intro p e s m args below meth c s₁ B hml hv
  obtain ⟨rfl, hsz, hP, hK, hD0, hSD⟩ := hv
  have hx := B.exec
  have hb := B.bytes
  have hr := B.returns
  have hlocks := B.notSynchronized
  have hts : ∀ w ∈ gT, w.before _ s = true := fun w h => atoms_spec (ws := Cond.code yX10_keep cX10_keep 3 (some .boolean) :: gT) B.pre w (List.mem_cons_of_mem _ h)
  have hown : s.vm.findClass RX10 = some m.cls := findClass_of_methodNamed B.named
  subst hsz
  have hD := hD0.self (sz := s.heap.size)
  generalize hAe : va_A w0 s.heap.size = A at hD hSD ⊢
  have hA : ∀ q : Nat, s.heap.size ≤ q → A q := fun q h => by rw [← hAe]; exact Or.inr h
  have hl := lv_entry ([.ref p0, .int p1, .int p2]) (n := 3) (Nat.le_of_ble_eq_true rfl)
  rw [lg_entry_eq]
  generalize (lg_sl ([.ref p0, .int p1, .int p2]) ++ List.replicate (3 - (lg_sl ([.ref p0, .int p1, .int p2])).length) Slot.unset).toArray = ls at hl ⊢
  have hl : lv_has ls 3 [(0, .ref p0), (1, .int p1), (2, .int p2)] := hl
  refine nameQ (fun Q hQ => ?_)
  have hw : WD D cy GG A s wr_X10_keep__3 wa_X10_keep__3 Ps w0 Ps w0 s.heap [] := ⟨hT, hP, hD, va_S.rf, FR.rf, hT.1, [], (List.append_nil _).symm⟩
  refine lv_iload_n hx hb dX10_keep_0 rfl (lv_at hl 2 rfl) ?_
  refine lv_if_eq (tgt := 14) hx hb dX10_keep_1 (by decide) (fun c_1 => ?_) (fun c_1 => ?_)
  · have r_p2 : RI p2 1 0 := rc_eq1 r_p2 rl_0 (ti_eq c_1) (by decide)
    exact (r_p2.no (by decide)).elim
  · refine lv_aload_n hx hb dX10_keep_4 rfl (lv_at hl 0 rfl) ?_
    refine tg_get (ci := 10) (ts := ty_MODEL) (C := RX10) (T := TX10) (N := 49) hx hb hts inX10 hown hK hw h_p0 rfl rfl 40 (by decide) (hts _ tw_1177) (fun _ h9 => h9) (ft := vR 52) rfl dX10_keep_5 (fun u_1 hv_u_1 m_u_1 => ?_)
    obtain ⟨vu_1, rfl, h_vu_1⟩ := hv_u_1
    refine lv_iload_n hx hb dX10_keep_8 rfl (lv_at hl 1 rfl) ?_
    refine lv_aload_n hx hb dX10_keep_9 rfl (lv_at hl 0 rfl) ?_
    refine tg_mem (ci := 10) (C := RX10) (T := TX10) (N := 49) hx hb hts inX10 hown hK hw 13 m_f0_13 rfl (by decide) (hts _ tw_1150) (fun _ h9 => h9) dX10_keep_10 ?_
    refine tg_iast hx hb hK hw h_vu_1 rfl 1 118 r_p1 (by decide) r_f0_13 (by exact fun _ _ _ => by decide) (fun _ _ _ _ _ => trivial) (by decide) dX10_keep_13 (fun ws H locs hw hF9 hU9 => ?_)
    have x_GFLB_p0 : AX 40 52 F2 Ps ws p0 := AX.ast hF9 hU9 x_F m_u_1 (fun f9 h9 => hF f9 _ r_f0_13 h9)
    have m_f0_13 := FLD.over hF9 m_f0_13 (by decide)
    refine lv_iload_n hx hb dX10_keep_14 rfl (lv_at hl 2 rfl) ?_
    subst hQ
    exact W.zret (v := p2) hx hb hr (tq_nz (r_p2.to (by decide))) (fun t ht hW => ⟨⟨p2, ws, rfl, ⟨⟨r_p2.to (by decide), (fun h0 => absurd (ti_eq h0) (by have h8 := r_p2; unfold RI at h8; rw [Int32.toInt_zero]; omega)), (fun h0 => ⟨⟨_, m_f0_13, r_f0_13⟩, x_GFLB_p0, trivial⟩)⟩, hw.1, hw.2.2.2.2.1⟩, by rw [ht]; exact hw.2.1, va_K.moved hW.alike hK, hw.2.2.1⟩, hw.2.2.2.1.F ht⟩) hw.2.2.2.1.2.2 dX10_keep_15
abbrev wr_X10_keep__4 : List (Nat × Nat) := []
abbrev wa_X10_keep__4 : List Nat := [52]
set_option maxHeartbeats 4000000 in
set_option maxRecDepth 100000 in
theorem c_X10_keep__4 (l : Launch) (D : va_G) (cy : Nat → ClassId) (z : Nat → Nat) (sz : Nat) (Ps : PSI) (w0 : va_W) (hT : HT cy GG Ps w0) (p0 : Nat) (p1 : Int32) (p2 : Int32) (f0_13 : Int32) (F : (Nat → Int32) → Prop) (F2 : (Nat → Int32) → Prop) (h_p0 : (p0, 55) ∈ Ps) (r_p1 : RI p1 1 118) (r_p2 : RI p2 1 1) (r_f0_13 : RI f0_13 0 5) (m_f0_13 : FLD w0 p0 10 13 (.int f0_13)) (x_F : AX 40 52 F Ps w0 p0) (hF : ∀ (f : Nat → Int32) (v : Int32), RI v 0 5 → F f → F2 (upd f (Int32.toNatClampNeg p1) v)) : Met l yX10_keep (Cond.code yX10_keep cX10_keep 3 (some .boolean) :: gT) ({ frames := 0, cells := 0, slots := 0, locals := 200 } : Room) (va_Pc [.ref p0, .int p1, .int p2] (PRE D cy z w0 sz)) (va_Qi (fun (r : Int32) (u : va_W) => (RI r 1 1 ∧ (r = 0 → AX 40 52 F Ps u p0 ∧ True) ∧ (¬ r = 0 → (∃ v9 : Int32, FLD u p0 10 13 (.int v9) ∧ RI v9 0 5) ∧ AX 40 52 F2 Ps u p0 ∧ True)) ∧ HT cy GG Ps u ∧ FR wr_X10_keep__4 wa_X10_keep__4 Ps w0 u) (BB D cy (va_A w0 sz) (fun (u : va_W) => u)) (va_A w0 sz)) 0 0 (va_A w0 sz) := by
  refine Met.ofW (cc := cX10_keep) (maxL := 3) (ret := (some .boolean)) (by decide) rfl ?_
  intro p e s m args below meth c s₁ B hml hv
  obtain ⟨rfl, hsz, hP, hK, hD0, hSD⟩ := hv
  have hx := B.exec
  have hb := B.bytes
  have hr := B.returns
  have hlocks := B.notSynchronized
  have hts : ∀ w ∈ gT, w.before _ s = true := fun w h => atoms_spec (ws := Cond.code yX10_keep cX10_keep 3 (some .boolean) :: gT) B.pre w (List.mem_cons_of_mem _ h)
  have hown : s.vm.findClass RX10 = some m.cls := findClass_of_methodNamed B.named
  subst hsz
  have hD := hD0.self (sz := s.heap.size)
  generalize hAe : va_A w0 s.heap.size = A at hD hSD ⊢
  have hA : ∀ q : Nat, s.heap.size ≤ q → A q := fun q h => by rw [← hAe]; exact Or.inr h
  have hl := lv_entry ([.ref p0, .int p1, .int p2]) (n := 3) (Nat.le_of_ble_eq_true rfl)
  rw [lg_entry_eq]
  generalize (lg_sl ([.ref p0, .int p1, .int p2]) ++ List.replicate (3 - (lg_sl ([.ref p0, .int p1, .int p2])).length) Slot.unset).toArray = ls at hl ⊢
  have hl : lv_has ls 3 [(0, .ref p0), (1, .int p1), (2, .int p2)] := hl
  refine nameQ (fun Q hQ => ?_)
  have hw : WD D cy GG A s wr_X10_keep__4 wa_X10_keep__4 Ps w0 Ps w0 s.heap [] := ⟨hT, hP, hD, va_S.rf, FR.rf, hT.1, [], (List.append_nil _).symm⟩
  refine lv_iload_n hx hb dX10_keep_0 rfl (lv_at hl 2 rfl) ?_
  refine lv_if_eq (tgt := 14) hx hb dX10_keep_1 (by decide) (fun c_1 => ?_) (fun c_1 => ?_)
  · have r_p2 : RI p2 1 0 := rc_eq1 r_p2 rl_0 (ti_eq c_1) (by decide)
    exact (r_p2.no (by decide)).elim
  · refine lv_aload_n hx hb dX10_keep_4 rfl (lv_at hl 0 rfl) ?_
    refine tg_get (ci := 10) (ts := ty_MODEL) (C := RX10) (T := TX10) (N := 49) hx hb hts inX10 hown hK hw h_p0 rfl rfl 40 (by decide) (hts _ tw_1177) (fun _ h9 => h9) (ft := vR 52) rfl dX10_keep_5 (fun u_1 hv_u_1 m_u_1 => ?_)
    obtain ⟨vu_1, rfl, h_vu_1⟩ := hv_u_1
    refine lv_iload_n hx hb dX10_keep_8 rfl (lv_at hl 1 rfl) ?_
    refine lv_aload_n hx hb dX10_keep_9 rfl (lv_at hl 0 rfl) ?_
    refine tg_mem (ci := 10) (C := RX10) (T := TX10) (N := 49) hx hb hts inX10 hown hK hw 13 m_f0_13 rfl (by decide) (hts _ tw_1150) (fun _ h9 => h9) dX10_keep_10 ?_
    refine tg_iast hx hb hK hw h_vu_1 rfl 1 118 r_p1 (by decide) r_f0_13 (by exact fun _ _ _ => by decide) (fun _ _ _ _ _ => trivial) (by decide) dX10_keep_13 (fun ws H locs hw hF9 hU9 => ?_)
    have x_GFLB_p0 : AX 40 52 F2 Ps ws p0 := AX.ast hF9 hU9 x_F m_u_1 (fun f9 h9 => hF f9 _ r_f0_13 h9)
    have m_f0_13 := FLD.over hF9 m_f0_13 (by decide)
    refine lv_iload_n hx hb dX10_keep_14 rfl (lv_at hl 2 rfl) ?_
    subst hQ
    exact W.zret (v := p2) hx hb hr (tq_nz (r_p2.to (by decide))) (fun t ht hW => ⟨⟨p2, ws, rfl, ⟨⟨r_p2.to (by decide), (fun h0 => absurd (ti_eq h0) (by have h8 := r_p2; unfold RI at h8; rw [Int32.toInt_zero]; omega)), (fun h0 => ⟨⟨_, m_f0_13, r_f0_13⟩, x_GFLB_p0, trivial⟩)⟩, hw.1, hw.2.2.2.2.1⟩, by rw [ht]; exact hw.2.1, va_K.moved hW.alike hK, hw.2.2.1⟩, hw.2.2.2.1.F ht⟩) hw.2.2.2.1.2.2 dX10_keep_15
abbrev wr_X10_keep__5 : List (Nat × Nat) := []
abbrev wa_X10_keep__5 : List Nat := [52]
set_option maxHeartbeats 4000000 in
set_option maxRecDepth 100000 in
theorem c_X10_keep__5 (l : Launch) (D : va_G) (cy : Nat → ClassId) (z : Nat → Nat) (sz : Nat) (Ps : PSI) (w0 : va_W) (hT : HT cy GG Ps w0) (p0 : Nat) (p1 : Int32) (p2 : Int32) (f0_13 : Int32) (F : (Nat → Int32) → Prop) (F2 : (Nat → Int32) → Prop) (h_p0 : (p0, 55) ∈ Ps) (r_p1 : RI p1 2 119) (r_p2 : RI p2 1 1) (r_f0_13 : RI f0_13 0 3) (m_f0_13 : FLD w0 p0 10 13 (.int f0_13)) (x_F : AX 40 52 F Ps w0 p0) (hF : ∀ (f : Nat → Int32) (v : Int32), RI v 0 3 → F f → F2 (upd f (Int32.toNatClampNeg p1) v)) : Met l yX10_keep (Cond.code yX10_keep cX10_keep 3 (some .boolean) :: gT) ({ frames := 0, cells := 0, slots := 0, locals := 200 } : Room) (va_Pc [.ref p0, .int p1, .int p2] (PRE D cy z w0 sz)) (va_Qi (fun (r : Int32) (u : va_W) => (RI r 1 1 ∧ (r = 0 → AX 40 52 F Ps u p0 ∧ True) ∧ (¬ r = 0 → (∃ v9 : Int32, FLD u p0 10 13 (.int v9) ∧ RI v9 0 3) ∧ AX 40 52 F2 Ps u p0 ∧ True)) ∧ HT cy GG Ps u ∧ FR wr_X10_keep__5 wa_X10_keep__5 Ps w0 u) (BB D cy (va_A w0 sz) (fun (u : va_W) => u)) (va_A w0 sz)) 0 0 (va_A w0 sz) := by
  refine Met.ofW (cc := cX10_keep) (maxL := 3) (ret := (some .boolean)) (by decide) rfl ?_
  intro p e s m args below meth c s₁ B hml hv
  obtain ⟨rfl, hsz, hP, hK, hD0, hSD⟩ := hv
  have hx := B.exec
  have hb := B.bytes
  have hr := B.returns
  have hlocks := B.notSynchronized
  have hts : ∀ w ∈ gT, w.before _ s = true := fun w h => atoms_spec (ws := Cond.code yX10_keep cX10_keep 3 (some .boolean) :: gT) B.pre w (List.mem_cons_of_mem _ h)
  have hown : s.vm.findClass RX10 = some m.cls := findClass_of_methodNamed B.named
  subst hsz
  have hD := hD0.self (sz := s.heap.size)
  generalize hAe : va_A w0 s.heap.size = A at hD hSD ⊢
  have hA : ∀ q : Nat, s.heap.size ≤ q → A q := fun q h => by rw [← hAe]; exact Or.inr h
  have hl := lv_entry ([.ref p0, .int p1, .int p2]) (n := 3) (Nat.le_of_ble_eq_true rfl)
  rw [lg_entry_eq]
  generalize (lg_sl ([.ref p0, .int p1, .int p2]) ++ List.replicate (3 - (lg_sl ([.ref p0, .int p1, .int p2])).length) Slot.unset).toArray = ls at hl ⊢
  have hl : lv_has ls 3 [(0, .ref p0), (1, .int p1), (2, .int p2)] := hl
  refine nameQ (fun Q hQ => ?_)
  have hw : WD D cy GG A s wr_X10_keep__5 wa_X10_keep__5 Ps w0 Ps w0 s.heap [] := ⟨hT, hP, hD, va_S.rf, FR.rf, hT.1, [], (List.append_nil _).symm⟩
  refine lv_iload_n hx hb dX10_keep_0 rfl (lv_at hl 2 rfl) ?_
  refine lv_if_eq (tgt := 14) hx hb dX10_keep_1 (by decide) (fun c_1 => ?_) (fun c_1 => ?_)
  · have r_p2 : RI p2 1 0 := rc_eq1 r_p2 rl_0 (ti_eq c_1) (by decide)
    exact (r_p2.no (by decide)).elim
  · refine lv_aload_n hx hb dX10_keep_4 rfl (lv_at hl 0 rfl) ?_
    refine tg_get (ci := 10) (ts := ty_MODEL) (C := RX10) (T := TX10) (N := 49) hx hb hts inX10 hown hK hw h_p0 rfl rfl 40 (by decide) (hts _ tw_1177) (fun _ h9 => h9) (ft := vR 52) rfl dX10_keep_5 (fun u_1 hv_u_1 m_u_1 => ?_)
    obtain ⟨vu_1, rfl, h_vu_1⟩ := hv_u_1
    refine lv_iload_n hx hb dX10_keep_8 rfl (lv_at hl 1 rfl) ?_
    refine lv_aload_n hx hb dX10_keep_9 rfl (lv_at hl 0 rfl) ?_
    refine tg_mem (ci := 10) (C := RX10) (T := TX10) (N := 49) hx hb hts inX10 hown hK hw 13 m_f0_13 rfl (by decide) (hts _ tw_1150) (fun _ h9 => h9) dX10_keep_10 ?_
    refine tg_iast hx hb hK hw h_vu_1 rfl 2 119 r_p1 (by decide) r_f0_13 (by exact fun _ _ _ => by decide) (fun _ _ _ _ _ => trivial) (by decide) dX10_keep_13 (fun ws H locs hw hF9 hU9 => ?_)
    have x_GFLB_p0 : AX 40 52 F2 Ps ws p0 := AX.ast hF9 hU9 x_F m_u_1 (fun f9 h9 => hF f9 _ r_f0_13 h9)
    have m_f0_13 := FLD.over hF9 m_f0_13 (by decide)
    refine lv_iload_n hx hb dX10_keep_14 rfl (lv_at hl 2 rfl) ?_
    subst hQ
    exact W.zret (v := p2) hx hb hr (tq_nz (r_p2.to (by decide))) (fun t ht hW => ⟨⟨p2, ws, rfl, ⟨⟨r_p2.to (by decide), (fun h0 => absurd (ti_eq h0) (by have h8 := r_p2; unfold RI at h8; rw [Int32.toInt_zero]; omega)), (fun h0 => ⟨⟨_, m_f0_13, r_f0_13⟩, x_GFLB_p0, trivial⟩)⟩, hw.1, hw.2.2.2.2.1⟩, by rw [ht]; exact hw.2.1, va_K.moved hW.alike hK, hw.2.2.1⟩, hw.2.2.2.1.F ht⟩) hw.2.2.2.1.2.2 dX10_keep_15
abbrev wr_X10_readBookLine : List (Nat × Nat) := [(10, 5), (10, 6), (10, 7), (10, 8), (10, 9), (10, 10), (10, 11), (10, 12), (10, 13)]
abbrev wa_X10_readBookLine : List Nat := [52]
set_option maxHeartbeats 4000000 in
set_option maxRecDepth 100000 in
theorem c_X10_readBookLine (l : Launch) (D : va_G) (cy : Nat → ClassId) (z : Nat → Nat) (sz : Nat) (Ps : PSI) (w0 : va_W) (hT : HT cy GG Ps w0) (p0 : Nat) (h_p0 : (p0, 55) ∈ Ps) (x_LNS_p0 : LNS Ps w0 p0) : Met l yX10_readBookLine (Cond.code yX10_readBookLine cX10_readBookLine 6 (some .boolean) :: gT) ({ frames := 7, cells := 0, slots := 0, locals := 1400 } : Room) (va_Pc [.ref p0] (PRE D cy z w0 sz)) (va_Qi (fun (r : Int32) (u : va_W) => (RI r 0 1 ∧ (r = 0 → True) ∧ (¬ r = 0 → (∃ v9 : Int32, FLD u p0 10 42 (.int v9) ∧ RI v9 0 39) ∧ LNG Ps u p0 ∧ True)) ∧ HT cy GG Ps u ∧ FR wr_X10_readBookLine wa_X10_readBookLine Ps w0 u) (BB D cy (va_A w0 sz) (fun (u : va_W) => u)) (va_A w0 sz)) 0 0 (va_A w0 sz) := by
  refine Met.ofW (cc := cX10_readBookLine) (maxL := 6) (ret := (some .boolean)) (by decide) rfl ?_
  intro p e s m args below meth c s₁ B hml hv
  obtain ⟨rfl, hsz, hP, hK, hD0, hSD⟩ := hv
  have hx := B.exec
  have hb := B.bytes
  have hr := B.returns
  have hlocks := B.notSynchronized
  have hts : ∀ w ∈ gT, w.before _ s = true := fun w h => atoms_spec (ws := Cond.code yX10_readBookLine cX10_readBookLine 6 (some .boolean) :: gT) B.pre w (List.mem_cons_of_mem _ h)
  have hown : s.vm.findClass RX10 = some m.cls := findClass_of_methodNamed B.named
  subst hsz
  have hD := hD0.self (sz := s.heap.size)
  generalize hAe : va_A w0 s.heap.size = A at hD hSD ⊢
  have hA : ∀ q : Nat, s.heap.size ≤ q → A q := fun q h => by rw [← hAe]; exact Or.inr h
  have hl := lv_entry ([.ref p0]) (n := 6) (Nat.le_of_ble_eq_true rfl)
  rw [lg_entry_eq]
  generalize (lg_sl ([.ref p0]) ++ List.replicate (6 - (lg_sl ([.ref p0])).length) Slot.unset).toArray = ls at hl ⊢
  have hl : lv_has ls 6 [(0, .ref p0)] := hl
  refine nameQ (fun Q hQ => ?_)
  have hw : WD D cy GG A s wr_X10_readBookLine wa_X10_readBookLine Ps w0 Ps w0 s.heap [] := ⟨hT, hP, hD, va_S.rf, FR.rf, hT.1, [], (List.append_nil _).symm⟩
  refine lv_aload_n hx hb dX10_readBookLine_0 rfl (lv_at hl 0 rfl) ?_
  refine lv_bipush (v := 13) hx hb dX10_readBookLine_1 (by decide) ?_
  refine tk_ir (va_runV (As := [.int 13]) (rest := []) ⟨hx, hb, hml, hown, hts⟩ (c_X10_isWord__1 l D cy z s.heap.size Ps w0 hw.1 p0 13 h_p0 rl_13) (cwV 1 hts (gV tw_1318 tw_1320 ts_43 tw_15 tw_1321) rfl rfl rfl (by decide +kernel) ⟨Nat.le_of_ble_eq_true rfl, Nat.le_of_ble_eq_true rfl⟩) (tg_preV hw hK hSD hA (ci := 10) (q := (RX10, TX10, 49)) rfl h_p0 rfl) rfl rfl hl.1 rfl (lv_room (Nat.le_of_ble_eq_true rfl)) dX10_readBookLine_3 ⟨Nat.le_of_ble_eq_true rfl, Nat.le_of_ble_eq_true rfl⟩) hw hA (fun v_1  H locs hp_v_1 hw => ?_)
  have r_v_1 : RI v_1 0 1 := hp_v_1.1
  by_cases c9_v_1 : v_1 = 0
  · have r_v_1 : RI v_1 0 0 := by rw [c9_v_1]; exact rl_0
    refine lv_istore_n (lv' := [(1, .int v_1), (0, .ref p0)]) hx hb dX10_readBookLine_6 rfl hl (by decide) rfl (fun ls hl => ?_)
    refine lv_aload_n hx hb dX10_readBookLine_7 rfl (lv_at hl 1 rfl) ?_
    refine lv_bipush (v := 14) hx hb dX10_readBookLine_8 (by decide) ?_
    refine tk_ir (va_runV (As := [.int 14]) (rest := []) ⟨hx, hb, hml, hown, hts⟩ (c_X10_isWord__2 l D cy z H.size Ps w0 hw.1 p0 14 h_p0 rl_14) (cwV 1 hts (gV tw_1318 tw_1320 ts_43 tw_15 tw_1321) rfl rfl rfl (by decide +kernel) ⟨Nat.le_of_ble_eq_true rfl, Nat.le_of_ble_eq_true rfl⟩) (tg_preV hw hK hSD hA (ci := 10) (q := (RX10, TX10, 49)) rfl h_p0 rfl) rfl rfl hl.1 rfl (lv_room (Nat.le_of_ble_eq_true rfl)) dX10_readBookLine_10 ⟨Nat.le_of_ble_eq_true rfl, Nat.le_of_ble_eq_true rfl⟩) hw hA (fun v_2  H locs hp_v_2 hw => ?_)
    have r_v_2 : RI v_2 0 1 := hp_v_2.1
    by_cases c9_v_2 : v_2 = 0
    · have r_v_2 : RI v_2 0 0 := by rw [c9_v_2]; exact rl_0
      refine lv_istore_n (lv' := [(2, .int v_2), (1, .int v_1), (0, .ref p0)]) hx hb dX10_readBookLine_13 rfl hl (by decide) rfl (fun ls hl => ?_)
      refine lv_aload_n hx hb dX10_readBookLine_14 rfl (lv_at hl 2 rfl) ?_
      refine lv_bipush (v := 15) hx hb dX10_readBookLine_15 (by decide) ?_
      refine tk_ir (va_runV (As := [.int 15]) (rest := []) ⟨hx, hb, hml, hown, hts⟩ (c_X10_isWord__3 l D cy z H.size Ps w0 hw.1 p0 15 h_p0 rl_15) (cwV 1 hts (gV tw_1318 tw_1320 ts_43 tw_15 tw_1321) rfl rfl rfl (by decide +kernel) ⟨Nat.le_of_ble_eq_true rfl, Nat.le_of_ble_eq_true rfl⟩) (tg_preV hw hK hSD hA (ci := 10) (q := (RX10, TX10, 49)) rfl h_p0 rfl) rfl rfl hl.1 rfl (lv_room (Nat.le_of_ble_eq_true rfl)) dX10_readBookLine_17 ⟨Nat.le_of_ble_eq_true rfl, Nat.le_of_ble_eq_true rfl⟩) hw hA (fun v_3  H locs hp_v_3 hw => ?_)
      have r_v_3 : RI v_3 0 1 := hp_v_3.1
      by_cases c9_v_3 : v_3 = 0
      · have r_v_3 : RI v_3 0 0 := by rw [c9_v_3]; exact rl_0
        refine lv_istore_n (lv' := [(3, .int v_3), (2, .int v_2), (1, .int v_1), (0, .ref p0)]) hx hb dX10_readBookLine_20 rfl hl (by decide) rfl (fun ls hl => ?_)
        refine lv_iload_n hx hb dX10_readBookLine_21 rfl (lv_at hl 2 rfl) ?_
        refine lv_if_ne (tgt := 37) hx hb dX10_readBookLine_22 (by decide) (fun c_22 => ?_) (fun c_22 => ?_)
        · exact absurd (r_v_1.eq.trans rl_0.eq.symm) ((ti_ne c_22))
        · refine lv_iload_n hx hb dX10_readBookLine_25 rfl (lv_at hl 1 rfl) ?_
          refine lv_if_ne (tgt := 37) hx hb dX10_readBookLine_26 (by decide) (fun c_26 => ?_) (fun c_26 => ?_)
          · exact absurd (r_v_2.eq.trans rl_0.eq.symm) ((ti_ne c_26))
          · refine lv_iload_n hx hb dX10_readBookLine_29 rfl (lv_at hl 0 rfl) ?_
            refine lv_if_ne (tgt := 37) hx hb dX10_readBookLine_30 (by decide) (fun c_30 => ?_) (fun c_30 => ?_)
            · exact absurd (r_v_3.eq.trans rl_0.eq.symm) ((ti_ne c_30))
            · refine lv_iconst (v := 1) hx hb dX10_readBookLine_33 (by decide) ?_
              refine lv_goto (tgt := 38) hx hb dX10_readBookLine_34 (by decide) ?_
              refine lv_istore (lv' := [(4, .int 1), (3, .int v_3), (2, .int v_2), (1, .int v_1), (0, .ref p0)]) hx hb dX10_readBookLine_38 hl (by decide) rfl (fun ls hl => ?_)
              refine lv_iload hx hb dX10_readBookLine_40 (lv_at hl 0 rfl) ?_
              refine lv_if_eq (tgt := 87) hx hb dX10_readBookLine_42 (by decide) (fun c9 => absurd c9 (by decide)) (fun _ => ?_)
              refine lv_aload_n hx hb dX10_readBookLine_45 rfl (lv_at hl 4 rfl) ?_
              refine tk_ir (va_runV (As := []) (rest := []) ⟨hx, hb, hml, hown, hts⟩ (c_X10_isName l D cy z H.size Ps w0 hw.1 p0 h_p0) (cwV 0 hts (gV tw_1344 tw_1346 ts_48 tw_15 tw_1347) rfl rfl rfl (by decide +kernel) ⟨Nat.le_of_ble_eq_true rfl, Nat.le_of_ble_eq_true rfl⟩) (tg_preV hw hK hSD hA (ci := 10) (q := (RX10, TX10, 49)) rfl h_p0 rfl) rfl rfl hl.1 rfl (lv_room (Nat.le_of_ble_eq_true rfl)) dX10_readBookLine_46 ⟨Nat.le_of_ble_eq_true rfl, Nat.le_of_ble_eq_true rfl⟩) hw hA (fun v_4  H locs hp_v_4 hw => ?_)
              have r_v_4 : RI v_4 0 1 := hp_v_4.1
              refine lv_if_ne (tgt := 58) hx hb dX10_readBookLine_49 (by decide) (fun c_49 => ?_) (fun c_49 => ?_)
              · have r_v_4 : RI v_4 1 1 := rc_neL r_v_4 rl_0 (ti_ne c_49) (by decide)
                refine lv_aload_n hx hb dX10_readBookLine_58 rfl (lv_at hl 4 rfl) ?_
                refine tg_get (ci := 10) (ts := ty_MODEL) (C := RX10) (T := TX10) (N := 49) hx hb hts inX10 hown hK hw h_p0 rfl rfl 20 (by decide) (hts _ tw_1157) (fun _ h9 => h9) (ft := vR 41) rfl dX10_readBookLine_59 (fun u_5 hv_u_5 m_u_5 => ?_)
                obtain ⟨vu_5, rfl, h_vu_5⟩ := hv_u_5
                refine lv_bipush (v := 16) hx hb dX10_readBookLine_62 (by decide) ?_
                refine lv_aload_n hx hb dX10_readBookLine_64 rfl (lv_at hl 4 rfl) ?_
                refine tg_get (ci := 10) (ts := ty_MODEL) (C := RX10) (T := TX10) (N := 49) hx hb hts inX10 hown hK hw h_p0 rfl rfl 14 (by decide) (hts _ tw_1151) (fun _ h9 => h9) (ft := vR 34) rfl dX10_readBookLine_65 (fun u_6 hv_u_6 m_u_6 => ?_)
                obtain ⟨vu_6, rfl, h_vu_6⟩ := hv_u_6
                refine lv_iconst (v := 3) hx hb dX10_readBookLine_68 (by decide) ?_
                refine tg_iald (lo := 0) (hi := 8) hx hb hK hw h_vu_6 rfl 3 3 rl_3 (by decide) (by decide +kernel) dX10_readBookLine_69 (fun v_7 r_v_7 m_v_7 o_v_7 => ?_)
                refine lv_aload_n hx hb dX10_readBookLine_70 rfl (lv_at hl 4 rfl) ?_
                refine tg_get (ci := 10) (ts := ty_MODEL) (C := RX10) (T := TX10) (N := 49) hx hb hts inX10 hown hK hw h_p0 rfl rfl 12 (by decide) (hts _ tw_1149) (fun _ h9 => h9) (ft := vJ (-9223372036854775808) 9223372036854775807) rfl dX10_readBookLine_71 (fun u_8 hv_u_8 m_u_8 => ?_)
                obtain ⟨vu_8, rfl, r_vu_8⟩ := hv_u_8
                refine tk_ir (va_runS (As := [.ref vu_5, .int 16, .int v_7, .long vu_8]) (rest := []) ⟨hx, hb, hml, hown, hts⟩ (c_X10_findIn__7 l D cy z H.size Ps w0 hw.1 vu_5 16 v_7 vu_8 h_vu_5 rl_16 r_v_7 r_vu_8) (va_cwS 4 hts (gS tw_1352 tw_1353 tw_15 tw_1354) rfl rfl rfl (by decide +kernel) ⟨Nat.le_of_ble_eq_true rfl, Nat.le_of_ble_eq_true rfl⟩) (tg_preS hw hK hSD hA) rfl rfl hl.1 rfl (lv_room (Nat.le_of_ble_eq_true rfl)) dX10_readBookLine_74 ⟨Nat.le_of_ble_eq_true rfl, Nat.le_of_ble_eq_true rfl⟩) hw hA (fun v_9  H locs hp_v_9 hw => ?_)
                have r_v_9 : RI v_9 (-1) 7 := hp_v_9.1
                by_cases c9_v_9 : v_9.toInt < 0
                · have r_v_9 : RI v_9 (-1) (-1) := by unfold RI at r_v_9 ⊢; omega
                  have x_NF_vu_5_16_v_7_vu_8 := (hp_v_9.2.2.2.2.1 (by omega)).1
                  refine lv_iconst (v := (-1)) hx hb dX10_readBookLine_77 (by decide) ?_
                  refine lv_icmp_ne (tgt := 87) hx hb dX10_readBookLine_78 (by decide) (fun c_78 => ?_) (fun c_78 => ?_)
                  · exact absurd (r_v_9.eq.trans rl_m1.eq.symm) ((ti_ne c_78))
                  · refine lv_aload_n hx hb dX10_readBookLine_81 rfl (lv_at hl 4 rfl) ?_
                    refine lv_iconst (v := 3) hx hb dX10_readBookLine_82 (by decide) ?_
                    have hw8 := hw
                    refine tk_i (va_runV (As := [.int 3]) (rest := []) ⟨hx, hb, hml, hown, hts⟩ (c_X10_bad l D cy z H.size Ps w0 hw.1 p0 3 h_p0 (rl_3.to (by decide))) (cwV 1 hts (gV tw_1336 tw_1338 ts_46 tw_15 tw_1339) rfl rfl rfl (by decide +kernel) ⟨Nat.le_of_ble_eq_true rfl, Nat.le_of_ble_eq_true rfl⟩) (tg_preV hw hK hSD hA (ci := 10) (q := (RX10, TX10, 49)) rfl h_p0 rfl) rfl rfl hl.1 rfl (lv_room (Nat.le_of_ble_eq_true rfl)) dX10_readBookLine_83 ⟨Nat.le_of_ble_eq_true rfl, Nat.le_of_ble_eq_true rfl⟩) hw hA ⟨by decide, by decide⟩ (fun v_10 ws H locs hp_v_10 hw hF9 => ?_)
                    have m_v_7 := AEL.over hw8 hF9 h_vu_6 m_v_7 (by decide)
                    have m_u_5 := FLD.over hF9 m_u_5 (by decide)
                    have m_u_6 := FLD.over hF9 m_u_6 (by decide)
                    have m_u_8 := FLD.over hF9 m_u_8 (by decide)
                    have x_LNS_p0 := LNS.over hF9 x_LNS_p0 (by decide)
                    have x_NF_vu_5_16_v_7_vu_8 := NFD.over hw8 hF9 h_vu_5 x_NF_vu_5_16_v_7_vu_8 (by decide)
                    have r_v_10 : RI v_10 0 0 := hp_v_10.1
                    subst hQ
                    exact W.zret (v := v_10) hx hb hr (tq_nz (r_v_10.to (by decide))) (fun t ht hW => ⟨⟨v_10, ws, rfl, ⟨⟨r_v_10.to (by decide), (fun h0 => trivial), (fun h0 => absurd (Int32.toInt_inj.mp (by have h8 := r_v_10; unfold RI at h8; rw [Int32.toInt_zero]; omega)) h0)⟩, hw.1, hw.2.2.2.2.1⟩, by rw [ht]; exact hw.2.1, va_K.moved hW.alike hK, hw.2.2.1⟩, hw.2.2.2.1.F ht⟩) hw.2.2.2.1.2.2 dX10_readBookLine_86
                · have r_v_9 : RI v_9 0 7 := by unfold RI at r_v_9 ⊢; omega
                  have x_FD_vu_5_16_v_7_vu_8 := (hp_v_9.2.2.2.2.2 (by omega)).1
                  have x_POS_v_7 := (hp_v_9.2.2.2.2.2 (by omega)).2.1
                  have r_v_7 : RI v_7 1 8 := ⟨x_POS_v_7, r_v_7.2⟩
                  refine lv_iconst (v := (-1)) hx hb dX10_readBookLine_77 (by decide) ?_
                  refine lv_icmp_ne (tgt := 87) hx hb dX10_readBookLine_78 (by decide) (fun c_78 => ?_) (fun c_78 => ?_)
                  · refine lv_aload_n hx hb dX10_readBookLine_87 rfl (lv_at hl 4 rfl) ?_
                    refine tg_get (ci := 10) (ts := ty_MODEL) (C := RX10) (T := TX10) (N := 49) hx hb hts inX10 hown hK hw h_p0 rfl rfl 42 (by decide) (hts _ tw_1179) (fun _ h9 => h9) (ft := vI 0 40) rfl dX10_readBookLine_88 (fun u_11 hv_u_11 m_u_11 => ?_)
                    obtain ⟨vu_11, rfl, r_vu_11⟩ := hv_u_11
                    refine lv_bipush (v := 40) hx hb dX10_readBookLine_91 (by decide) ?_
                    refine lv_icmp_ne (tgt := 102) hx hb dX10_readBookLine_93 (by decide) (fun c_93 => ?_) (fun c_93 => ?_)
                    · have r_vu_11 : RI vu_11 0 39 := rc_neU r_vu_11 rl_40 (ti_ne c_93) (by decide)
                      refine lv_iconst (v := 3) hx hb dX10_readBookLine_102 (by decide) ?_
                      refine lv_aload_n hx hb dX10_readBookLine_103 rfl (lv_at hl 4 rfl) ?_
                      refine tg_mem (ci := 10) (C := RX10) (T := TX10) (N := 49) hx hb hts inX10 hown hK hw 42 m_u_11 rfl (by decide) (hts _ tw_1179) (fun _ h9 => h9) dX10_readBookLine_104 ?_
                      refine lv_imul hx hb dX10_readBookLine_107 (lv_topi (fun v_12 e_v_12 => ?_))
                      obtain ⟨t_v_12, r_v_12⟩ := tq_mul (lo := 0) (hi := 117) rl_3 r_vu_11 (by decide +kernel) e_v_12
                      have t_v_12 : v_12.toInt = 3 * vu_11.toInt := t_v_12
                      refine lv_istore (lv' := [(5, .int v_12), (4, .int 1), (3, .int v_3), (2, .int v_2), (1, .int v_1), (0, .ref p0)]) hx hb dX10_readBookLine_108 hl (by decide) rfl (fun ls hl => ?_)
                      have x_OL_p0_v_12 : AX 40 52 (fun f => OLp f v_12) Ps w0 p0 := LNS.ol hw x_LNS_p0 m_u_11 (by have k1 := t_v_12; omega)
                      have x_MUL3_v_12 : (∃ n : Int, Int32.toInt v_12 = 3 * n) := ⟨vu_11.toInt, by have k1 := t_v_12; omega⟩
                      have g_at := x_MUL3_v_12
                      have x_LE_p0_v_12_0_0_60 : AX 40 52 (fun f => 0 ≤ (f (Int32.toNatClampNeg v_12)).toInt ∧ (f (Int32.toNatClampNeg v_12)).toInt ≤ 60) Ps w0 p0 := AX.imp (ax_of (k := 40) (t := 52) hw h_p0 rfl (fun _ => rfl)) (fun f9 h9 => h9.2 _ (by have k1 := r_v_12.cl (by decide); have k2 := r_v_12.2; omega))
                      have x_LE_p0_v_12_1_0_60 : AX 40 52 (fun f => 0 ≤ (f (Int32.toNatClampNeg v_12 + 1)).toInt ∧ (f (Int32.toNatClampNeg v_12 + 1)).toInt ≤ 60) Ps w0 p0 := AX.imp (ax_of (k := 40) (t := 52) hw h_p0 rfl (fun _ => rfl)) (fun f9 h9 => h9.2 _ (by have k1 := r_v_12.cl (by decide); have k2 := r_v_12.2; omega))
                      have x_LE_p0_v_12_2_0_60 : AX 40 52 (fun f => 0 ≤ (f (Int32.toNatClampNeg v_12 + 2)).toInt ∧ (f (Int32.toNatClampNeg v_12 + 2)).toInt ≤ 60) Ps w0 p0 := AX.imp (ax_of (k := 40) (t := 52) hw h_p0 rfl (fun _ => rfl)) (fun f9 h9 => h9.2 _ (by have k1 := r_v_12.cl (by decide); have k2 := r_v_12.2; omega))
                      refine lv_aload_n hx hb dX10_readBookLine_110 rfl (lv_at hl 5 rfl) ?_
                      refine tg_get (ci := 10) (ts := ty_MODEL) (C := RX10) (T := TX10) (N := 49) hx hb hts inX10 hown hK hw h_p0 rfl rfl 40 (by decide) (hts _ tw_1177) (fun _ h9 => h9) (ft := vR 52) rfl dX10_readBookLine_111 (fun u_13 hv_u_13 m_u_13 => ?_)
                      obtain ⟨vu_13, rfl, h_vu_13⟩ := hv_u_13
                      refine lv_iload hx hb dX10_readBookLine_114 (lv_at hl 0 rfl) ?_
                      refine lv_iload_n hx hb dX10_readBookLine_116 rfl (lv_at hl 4 rfl) ?_
                      refine lv_if_eq (tgt := 124) hx hb dX10_readBookLine_117 (by decide) (fun c_117 => ?_) (fun c_117 => ?_)
                      · refine lv_iload_n hx hb dX10_readBookLine_124 rfl (lv_at hl 3 rfl) ?_
                        refine lv_if_eq (tgt := 132) hx hb dX10_readBookLine_125 (by decide) (fun c_125 => ?_) (fun c_125 => ?_)
                        · refine lv_bipush (v := 6) hx hb dX10_readBookLine_132 (by decide) ?_
                          have hw8 := hw
                          refine tg_iast hx hb hK hw h_vu_13 rfl 0 117 r_v_12 (by decide) rl_6 (by exact fun _ _ _ => by decide) (fun _ _ _ _ _ => trivial) (by decide) dX10_readBookLine_134 (fun ws H locs hw hF9 hU9 => ?_)
                          have x_OL_p0_v_12 : AX 40 52 (fun f => OLp f v_12) Ps ws p0 := AX.ast hF9 hU9 x_OL_p0_v_12 m_u_13 (fun f9 h9 => OL_upd h9 g_at (by have k1 := r_v_12.cl (by decide); have k2 := r_v_12.1; omega))
                          have x_LE_p0_v_12_0_6_6 : AX 40 52 (fun f => 6 ≤ (f (Int32.toNatClampNeg v_12)).toInt ∧ (f (Int32.toNatClampNeg v_12)).toInt ≤ 6) Ps ws p0 := AX.ast hF9 hU9 x_LE_p0_v_12_0_0_60 m_u_13 (fun f9 h9 => by show _ ∧ _; rw [pk_us]; exact rl_6)
                          have x_LE_p0_v_12_1_0_60 : AX 40 52 (fun f => 0 ≤ (f (Int32.toNatClampNeg v_12 + 1)).toInt ∧ (f (Int32.toNatClampNeg v_12 + 1)).toInt ≤ 60) Ps ws p0 := AX.ast hF9 hU9 x_LE_p0_v_12_1_0_60 m_u_13 (fun f9 h9 => by have j9 : Int32.toNatClampNeg v_12 = Int32.toNatClampNeg v_12 + 0 := (by have k1 := r_v_12.cl (by decide); have k2 := r_v_12.cl (by decide); omega); show _ ∧ _; rw [pk_un (by omega)]; exact h9)
                          have x_LE_p0_v_12_2_0_60 : AX 40 52 (fun f => 0 ≤ (f (Int32.toNatClampNeg v_12 + 2)).toInt ∧ (f (Int32.toNatClampNeg v_12 + 2)).toInt ≤ 60) Ps ws p0 := AX.ast hF9 hU9 x_LE_p0_v_12_2_0_60 m_u_13 (fun f9 h9 => by have j9 : Int32.toNatClampNeg v_12 = Int32.toNatClampNeg v_12 + 0 := (by have k1 := r_v_12.cl (by decide); have k2 := r_v_12.cl (by decide); omega); show _ ∧ _; rw [pk_un (by omega)]; exact h9)
                          have m_v_7 := AEL.over hw8 hF9 h_vu_6 m_v_7 (by decide)
                          have x_FD_vu_5_16_v_7_vu_8 := FDD.over hw8 hF9 h_vu_5 x_FD_vu_5_16_v_7_vu_8 (by decide)
                          have m_u_5 := FLD.over hF9 m_u_5 (by decide)
                          have m_u_6 := FLD.over hF9 m_u_6 (by decide)
                          have m_u_8 := FLD.over hF9 m_u_8 (by decide)
                          have m_u_11 := FLD.over hF9 m_u_11 (by decide)
                          have m_u_13 := FLD.over hF9 m_u_13 (by decide)
                          refine lv_aload_n hx hb dX10_readBookLine_135 rfl (lv_at hl 5 rfl) ?_
                          refine tg_mem (ci := 10) (C := RX10) (T := TX10) (N := 49) hx hb hts inX10 hown hK hw 40 m_u_13 rfl (by decide) (hts _ tw_1177) (fun _ h9 => h9) dX10_readBookLine_136 ?_
                          refine lv_iload hx hb dX10_readBookLine_139 (lv_at hl 0 rfl) ?_
                          refine lv_iconst (v := 1) hx hb dX10_readBookLine_141 (by decide) ?_
                          refine lv_iadd hx hb dX10_readBookLine_142 (lv_topi (fun v_14 e_v_14 => ?_))
                          obtain ⟨t_v_14, r_v_14⟩ := tq_add (lo := 1) (hi := 118) r_v_12 rl_1 (by decide +kernel) e_v_14
                          have t_v_14 : v_14.toInt = v_12.toInt + 1 := t_v_14
                          refine lv_iload hx hb dX10_readBookLine_143 (lv_at hl 1 rfl) ?_
                          refine lv_if_eq (tgt := 170) hx hb dX10_readBookLine_145 (by decide) (fun c9 => absurd c9 (by decide)) (fun _ => ?_)
                          refine lv_aload_n hx hb dX10_readBookLine_148 rfl (lv_at hl 5 rfl) ?_
                          refine tg_mem (ci := 10) (C := RX10) (T := TX10) (N := 49) hx hb hts inX10 hown hK hw 20 m_u_5 rfl (by decide) (hts _ tw_1157) (fun _ h9 => h9) dX10_readBookLine_149 ?_
                          refine lv_bipush (v := 16) hx hb dX10_readBookLine_152 (by decide) ?_
                          refine lv_aload_n hx hb dX10_readBookLine_154 rfl (lv_at hl 5 rfl) ?_
                          refine tg_mem (ci := 10) (C := RX10) (T := TX10) (N := 49) hx hb hts inX10 hown hK hw 14 m_u_6 rfl (by decide) (hts _ tw_1151) (fun _ h9 => h9) dX10_readBookLine_155 ?_
                          refine lv_iconst (v := 3) hx hb dX10_readBookLine_158 (by decide) ?_
                          refine tg_imem hx hb hK hw h_vu_6 rfl rl_3 (by decide) m_v_7 dX10_readBookLine_159 ?_
                          refine lv_aload_n hx hb dX10_readBookLine_160 rfl (lv_at hl 5 rfl) ?_
                          refine tg_mem (ci := 10) (C := RX10) (T := TX10) (N := 49) hx hb hts inX10 hown hK hw 12 m_u_8 rfl (by decide) (hts _ tw_1149) (fun _ h9 => h9) dX10_readBookLine_161 ?_
                          refine tk_ir (va_runS (As := [.ref vu_5, .int 16, .int v_7, .long vu_8]) (rest := [.int v_14, .ref vu_13]) ⟨hx, hb, hml, hown, hts⟩ (c_X10_findIn__8 l D cy z H.size Ps ws hw.1 vu_5 16 v_7 vu_8 h_vu_5 rl_16 r_v_7 r_vu_8) (va_cwS 4 hts (gS tw_1352 tw_1353 tw_15 tw_1354) rfl rfl rfl (by decide +kernel) ⟨Nat.le_of_ble_eq_true rfl, Nat.le_of_ble_eq_true rfl⟩) (tg_preS hw hK hSD hA) rfl rfl hl.1 rfl (lv_room (Nat.le_of_ble_eq_true rfl)) dX10_readBookLine_164 ⟨Nat.le_of_ble_eq_true rfl, Nat.le_of_ble_eq_true rfl⟩) hw hA (fun v_16  H locs hp_v_16 hw => ?_)
                          have r_v_16 : RI v_16 (-1) 7 := hp_v_16.1
                          by_cases c9_v_16 : v_16.toInt < 0
                          · have r_v_16 : RI v_16 (-1) (-1) := by unfold RI at r_v_16 ⊢; omega
                            have x_NF_vu_5_16_v_7_vu_8 := (hp_v_16.2.2.2.2.1 (by omega)).1
                            exact (FDD.no hw x_FD_vu_5_16_v_7_vu_8 x_NF_vu_5_16_v_7_vu_8).elim
                          · have r_v_16 : RI v_16 0 7 := by unfold RI at r_v_16 ⊢; omega
                            have x_FD_vu_5_16_v_7_vu_8 := (hp_v_16.2.2.2.2.2 (by omega)).1
                            have x_POS_v_7 := (hp_v_16.2.2.2.2.2 (by omega)).2.1
                            refine lv_goto (tgt := 171) hx hb dX10_readBookLine_167 (by decide) ?_
                            have hw8 := hw
                            refine tg_iast hx hb hK hw h_vu_13 rfl 1 118 r_v_14 (by decide) r_v_16 (by exact fun _ _ _ => by decide) (fun _ _ _ _ _ => trivial) (by decide) dX10_readBookLine_171 (fun ws H locs hw hF9 hU9 => ?_)
                            have x_OL_p0_v_12 : AX 40 52 (fun f => OLp f v_12) Ps ws p0 := AX.ast hF9 hU9 x_OL_p0_v_12 m_u_13 (fun f9 h9 => OL_upd h9 g_at (by have k1 := r_v_14.cl (by decide); have k2 := r_v_12.1; omega))
                            have x_LE_p0_v_12_0_6_6 : AX 40 52 (fun f => 6 ≤ (f (Int32.toNatClampNeg v_12)).toInt ∧ (f (Int32.toNatClampNeg v_12)).toInt ≤ 6) Ps ws p0 := AX.ast hF9 hU9 x_LE_p0_v_12_0_6_6 m_u_13 (fun f9 h9 => by have j9 : Int32.toNatClampNeg v_14 = Int32.toNatClampNeg v_12 + 1 := (by have k1 := r_v_14.cl (by decide); have k2 := r_v_12.cl (by decide); omega); show _ ∧ _; rw [pk_un (by omega)]; exact h9)
                            have x_LE_p0_v_12_1_0_7 : AX 40 52 (fun f => 0 ≤ (f (Int32.toNatClampNeg v_12 + 1)).toInt ∧ (f (Int32.toNatClampNeg v_12 + 1)).toInt ≤ 7) Ps ws p0 := AX.ast hF9 hU9 x_LE_p0_v_12_1_0_60 m_u_13 (fun f9 h9 => by have j9 : Int32.toNatClampNeg v_14 = Int32.toNatClampNeg v_12 + 1 := (by have k1 := r_v_14.cl (by decide); have k2 := r_v_12.cl (by decide); omega); show _ ∧ _; rw [← j9, pk_us]; exact r_v_16)
                            have x_LE_p0_v_12_2_0_60 : AX 40 52 (fun f => 0 ≤ (f (Int32.toNatClampNeg v_12 + 2)).toInt ∧ (f (Int32.toNatClampNeg v_12 + 2)).toInt ≤ 60) Ps ws p0 := AX.ast hF9 hU9 x_LE_p0_v_12_2_0_60 m_u_13 (fun f9 h9 => by have j9 : Int32.toNatClampNeg v_14 = Int32.toNatClampNeg v_12 + 1 := (by have k1 := r_v_14.cl (by decide); have k2 := r_v_12.cl (by decide); omega); show _ ∧ _; rw [pk_un (by omega)]; exact h9)
                            have m_v_7 := AEL.over hw8 hF9 h_vu_6 m_v_7 (by decide)
                            have x_FD_vu_5_16_v_7_vu_8 := FDD.over hw8 hF9 h_vu_5 x_FD_vu_5_16_v_7_vu_8 (by decide)
                            have m_u_5 := FLD.over hF9 m_u_5 (by decide)
                            have m_u_6 := FLD.over hF9 m_u_6 (by decide)
                            have m_u_8 := FLD.over hF9 m_u_8 (by decide)
                            have m_u_11 := FLD.over hF9 m_u_11 (by decide)
                            have m_u_13 := FLD.over hF9 m_u_13 (by decide)
                            refine lv_aload_n hx hb dX10_readBookLine_172 rfl (lv_at hl 5 rfl) ?_
                            refine tg_mem (ci := 10) (C := RX10) (T := TX10) (N := 49) hx hb hts inX10 hown hK hw 40 m_u_13 rfl (by decide) (hts _ tw_1177) (fun _ h9 => h9) dX10_readBookLine_173 ?_
                            refine lv_iload hx hb dX10_readBookLine_176 (lv_at hl 0 rfl) ?_
                            refine lv_iconst (v := 2) hx hb dX10_readBookLine_178 (by decide) ?_
                            refine lv_iadd hx hb dX10_readBookLine_179 (lv_topi (fun v_17 e_v_17 => ?_))
                            obtain ⟨t_v_17, r_v_17⟩ := tq_add (lo := 2) (hi := 119) r_v_12 rl_2 (by decide +kernel) e_v_17
                            have t_v_17 : v_17.toInt = v_12.toInt + 2 := t_v_17
                            refine lv_iconst (v := 0) hx hb dX10_readBookLine_180 (by decide) ?_
                            have hw8 := hw
                            refine tg_iast hx hb hK hw h_vu_13 rfl 2 119 r_v_17 (by decide) rl_0 (by exact fun _ _ _ => by decide) (fun _ _ _ _ _ => trivial) (by decide) dX10_readBookLine_181 (fun ws H locs hw hF9 hU9 => ?_)
                            have x_OL_p0_v_12 : AX 40 52 (fun f => OLp f v_12) Ps ws p0 := AX.ast hF9 hU9 x_OL_p0_v_12 m_u_13 (fun f9 h9 => OL_upd h9 g_at (by have k1 := r_v_17.cl (by decide); have k2 := r_v_12.1; omega))
                            have x_LE_p0_v_12_0_6_6 : AX 40 52 (fun f => 6 ≤ (f (Int32.toNatClampNeg v_12)).toInt ∧ (f (Int32.toNatClampNeg v_12)).toInt ≤ 6) Ps ws p0 := AX.ast hF9 hU9 x_LE_p0_v_12_0_6_6 m_u_13 (fun f9 h9 => by have j9 : Int32.toNatClampNeg v_17 = Int32.toNatClampNeg v_12 + 2 := (by have k1 := r_v_17.cl (by decide); have k2 := r_v_12.cl (by decide); omega); show _ ∧ _; rw [pk_un (by omega)]; exact h9)
                            have x_LE_p0_v_12_1_0_7 : AX 40 52 (fun f => 0 ≤ (f (Int32.toNatClampNeg v_12 + 1)).toInt ∧ (f (Int32.toNatClampNeg v_12 + 1)).toInt ≤ 7) Ps ws p0 := AX.ast hF9 hU9 x_LE_p0_v_12_1_0_7 m_u_13 (fun f9 h9 => by have j9 : Int32.toNatClampNeg v_17 = Int32.toNatClampNeg v_12 + 2 := (by have k1 := r_v_17.cl (by decide); have k2 := r_v_12.cl (by decide); omega); show _ ∧ _; rw [pk_un (by omega)]; exact h9)
                            have x_LE_p0_v_12_2_0_0 : AX 40 52 (fun f => 0 ≤ (f (Int32.toNatClampNeg v_12 + 2)).toInt ∧ (f (Int32.toNatClampNeg v_12 + 2)).toInt ≤ 0) Ps ws p0 := AX.ast hF9 hU9 x_LE_p0_v_12_2_0_60 m_u_13 (fun f9 h9 => by have j9 : Int32.toNatClampNeg v_17 = Int32.toNatClampNeg v_12 + 2 := (by have k1 := r_v_17.cl (by decide); have k2 := r_v_12.cl (by decide); omega); show _ ∧ _; rw [← j9, pk_us]; exact rl_0)
                            have m_v_7 := AEL.over hw8 hF9 h_vu_6 m_v_7 (by decide)
                            have x_FD_vu_5_16_v_7_vu_8 := FDD.over hw8 hF9 h_vu_5 x_FD_vu_5_16_v_7_vu_8 (by decide)
                            have m_u_5 := FLD.over hF9 m_u_5 (by decide)
                            have m_u_6 := FLD.over hF9 m_u_6 (by decide)
                            have m_u_8 := FLD.over hF9 m_u_8 (by decide)
                            have m_u_11 := FLD.over hF9 m_u_11 (by decide)
                            have m_u_13 := FLD.over hF9 m_u_13 (by decide)
                            refine lv_aload_n hx hb dX10_readBookLine_182 rfl (lv_at hl 5 rfl) ?_
                            have hw8 := hw
                            refine tk_v (va_runV (As := []) (rest := []) ⟨hx, hb, hml, hown, hts⟩ (c_X10_go l D cy z H.size Ps ws hw.1 p0 h_p0) (cwV 0 hts (gV tw_1298 tw_1300 ts_40 tw_15 tw_1301) rfl rfl rfl (by decide +kernel) ⟨Nat.le_of_ble_eq_true rfl, Nat.le_of_ble_eq_true rfl⟩) (tg_preV hw hK hSD hA (ci := 10) (q := (RX10, TX10, 49)) rfl h_p0 rfl) rfl rfl hl.1 rfl (lv_room (Nat.le_of_ble_eq_true rfl)) dX10_readBookLine_183 ⟨Nat.le_of_ble_eq_true rfl, Nat.le_of_ble_eq_true rfl⟩) hw hA ⟨by decide, by decide⟩ (fun ws H locs hp_v_18 hw hF9 => ?_)
                            have m_v_7 := AEL.over hw8 hF9 h_vu_6 m_v_7 (by decide)
                            have m_u_5 := FLD.over hF9 m_u_5 (by decide)
                            have m_u_6 := FLD.over hF9 m_u_6 (by decide)
                            have m_u_11 := FLD.over hF9 m_u_11 (by decide)
                            have m_u_13 := FLD.over hF9 m_u_13 (by decide)
                            have x_FD_vu_5_16_v_7_vu_8 := FDD.over hw8 hF9 h_vu_5 x_FD_vu_5_16_v_7_vu_8 (by decide)
                            have x_OL_p0_v_12 := AX.over hF9 x_OL_p0_v_12 (by decide)
                            have x_LE_p0_v_12_0_6_6 := AX.over hF9 x_LE_p0_v_12_0_6_6 (by decide)
                            have x_LE_p0_v_12_1_0_7 := AX.over hF9 x_LE_p0_v_12_1_0_7 (by decide)
                            have x_LE_p0_v_12_2_0_0 := AX.over hF9 x_LE_p0_v_12_2_0_0 (by decide)
                            refine lv_iload hx hb dX10_readBookLine_186 (lv_at hl 1 rfl) ?_
                            refine lv_if_eq (tgt := 213) hx hb dX10_readBookLine_188 (by decide) (fun c9 => absurd c9 (by decide)) (fun _ => ?_)
                            refine lv_aload_n hx hb dX10_readBookLine_191 rfl (lv_at hl 5 rfl) ?_
                            refine lv_iload hx hb dX10_readBookLine_192 (lv_at hl 0 rfl) ?_
                            have hw8 := hw
                            refine tk_i (va_runV (As := [.int v_12]) (rest := []) ⟨hx, hb, hml, hown, hts⟩ (c_X10_readDoes l D cy z H.size Ps ws hw.1 p0 v_12 h_p0 r_v_12 x_OL_p0_v_12 x_LE_p0_v_12_1_0_7 x_LE_p0_v_12_2_0_0 x_MUL3_v_12) (cwV 1 hts (gV tw_1715 tw_1717 ts_104 tw_15 tw_1718) rfl rfl rfl (by decide +kernel) ⟨Nat.le_of_ble_eq_true rfl, Nat.le_of_ble_eq_true rfl⟩) (tg_preV hw hK hSD hA (ci := 10) (q := (RX10, TX10, 49)) rfl h_p0 rfl) rfl rfl hl.1 rfl (lv_room (Nat.le_of_ble_eq_true rfl)) dX10_readBookLine_194 ⟨Nat.le_of_ble_eq_true rfl, Nat.le_of_ble_eq_true rfl⟩) hw hA ⟨by decide, by decide⟩ (fun v_19 ws H locs hp_v_19 hw hF9 => ?_)
                            have m_v_7 := AEL.over hw8 hF9 h_vu_6 m_v_7 (by decide)
                            have m_u_5 := FLD.over hF9 m_u_5 (by decide)
                            have m_u_6 := FLD.over hF9 m_u_6 (by decide)
                            have m_u_11 := FLD.over hF9 m_u_11 (by decide)
                            have m_u_13 := FLD.over hF9 m_u_13 (by decide)
                            have x_FD_vu_5_16_v_7_vu_8 := FDD.over hw8 hF9 h_vu_5 x_FD_vu_5_16_v_7_vu_8 (by decide)
                            have r_v_19 : RI v_19 0 1 := hp_v_19.1
                            by_cases c9_v_19 : v_19 = 0
                            · have r_v_19 : RI v_19 0 0 := by rw [c9_v_19]; exact rl_0
                              refine lv_if_eq (tgt := 211) hx hb dX10_readBookLine_197 (by decide) (fun c_197 => ?_) (fun c_197 => ?_)
                              · refine lv_iconst (v := 0) hx hb dX10_readBookLine_211 (by decide) ?_
                                subst hQ
                                exact W.zret (v := 0) hx hb hr (rfl) (fun t ht hW => ⟨⟨0, ws, rfl, ⟨⟨rl_0.to (by decide), (fun h0 => trivial), (fun h0 => absurd rfl h0)⟩, hw.1, hw.2.2.2.2.1⟩, by rw [ht]; exact hw.2.1, va_K.moved hW.alike hK, hw.2.2.1⟩, hw.2.2.2.1.F ht⟩) hw.2.2.2.1.2.2 dX10_readBookLine_212
                              · exact absurd (r_v_19.eq.trans rl_0.eq.symm) ((ti_ne c_197))
                            · have r_v_19 : RI v_19 1 1 := rc_neL r_v_19 rl_0 (ti_ne c9_v_19) (by decide)
                              have x_OL_p0_v_12 := ((hp_v_19.2.2 c9_v_19).1)
                              have x_GL_p0_v_12 := ((hp_v_19.2.2 c9_v_19).2.1)
                              refine lv_if_eq (tgt := 211) hx hb dX10_readBookLine_197 (by decide) (fun c_197 => ?_) (fun c_197 => ?_)
                              · have r_v_19 : RI v_19 1 0 := rc_eq1 r_v_19 rl_0 (ti_eq c_197) (by decide)
                                exact (r_v_19.no (by decide)).elim
                              · refine lv_aload_n hx hb dX10_readBookLine_200 rfl (lv_at hl 5 rfl) ?_
                                have hw8 := hw
                                refine tk_i (va_runV (As := []) (rest := []) ⟨hx, hb, hml, hown, hts⟩ (c_X10_readEnd l D cy z H.size Ps ws hw.1 p0 h_p0) (cwV 0 hts (gV tw_1409 tw_1411 ts_62 tw_15 tw_1412) rfl rfl rfl (by decide +kernel) ⟨Nat.le_of_ble_eq_true rfl, Nat.le_of_ble_eq_true rfl⟩) (tg_preV hw hK hSD hA (ci := 10) (q := (RX10, TX10, 49)) rfl h_p0 rfl) rfl rfl hl.1 rfl (lv_room (Nat.le_of_ble_eq_true rfl)) dX10_readBookLine_201 ⟨Nat.le_of_ble_eq_true rfl, Nat.le_of_ble_eq_true rfl⟩) hw hA ⟨by decide, by decide⟩ (fun v_20 ws H locs hp_v_20 hw hF9 => ?_)
                                have m_v_7 := AEL.over hw8 hF9 h_vu_6 m_v_7 (by decide)
                                have m_u_5 := FLD.over hF9 m_u_5 (by decide)
                                have m_u_6 := FLD.over hF9 m_u_6 (by decide)
                                have m_u_11 := FLD.over hF9 m_u_11 (by decide)
                                have m_u_13 := FLD.over hF9 m_u_13 (by decide)
                                have x_FD_vu_5_16_v_7_vu_8 := FDD.over hw8 hF9 h_vu_5 x_FD_vu_5_16_v_7_vu_8 (by decide)
                                have x_OL_p0_v_12 := AX.over hF9 x_OL_p0_v_12 (by decide)
                                have x_GL_p0_v_12 := AX.over hF9 x_GL_p0_v_12 (by decide)
                                have r_v_20 : RI v_20 0 1 := hp_v_20.1
                                refine lv_if_eq (tgt := 211) hx hb dX10_readBookLine_204 (by decide) (fun c_204 => ?_) (fun c_204 => ?_)
                                · have r_v_20 : RI v_20 0 0 := rc_eq1 r_v_20 rl_0 (ti_eq c_204) (by decide)
                                  refine lv_iconst (v := 0) hx hb dX10_readBookLine_211 (by decide) ?_
                                  subst hQ
                                  exact W.zret (v := 0) hx hb hr (rfl) (fun t ht hW => ⟨⟨0, ws, rfl, ⟨⟨rl_0.to (by decide), (fun h0 => trivial), (fun h0 => absurd rfl h0)⟩, hw.1, hw.2.2.2.2.1⟩, by rw [ht]; exact hw.2.1, va_K.moved hW.alike hK, hw.2.2.1⟩, hw.2.2.2.1.F ht⟩) hw.2.2.2.1.2.2 dX10_readBookLine_212
                                · have r_v_20 : RI v_20 1 1 := rc_neL r_v_20 rl_0 (ti_ne c_204) (by decide)
                                  have x_LNG_p0 : LNG Ps ws p0 := LNG.mk m_u_11 (by have k1 := t_v_12; omega) r_vu_11.1 (AX.and hw x_OL_p0_v_12 x_GL_p0_v_12)
                                  refine lv_iconst (v := 1) hx hb dX10_readBookLine_207 (by decide) ?_
                                  refine lv_goto (tgt := 212) hx hb dX10_readBookLine_208 (by decide) ?_
                                  subst hQ
                                  exact W.zret (v := 1) hx hb hr (rfl) (fun t ht hW => ⟨⟨1, ws, rfl, ⟨⟨rl_1.to (by decide), (fun _ => trivial), (fun h0 => ⟨⟨_, m_u_11, r_vu_11⟩, x_LNG_p0, trivial⟩)⟩, hw.1, hw.2.2.2.2.1⟩, by rw [ht]; exact hw.2.1, va_K.moved hW.alike hK, hw.2.2.1⟩, hw.2.2.2.1.F ht⟩) hw.2.2.2.1.2.2 dX10_readBookLine_212
                        · exact absurd (r_v_2.eq.trans rl_0.eq.symm) ((ti_ne c_125))
                      · exact absurd (r_v_1.eq.trans rl_0.eq.symm) ((ti_ne c_117))
                    · have r_vu_11 : RI vu_11 40 40 := rc_eq1 r_vu_11 rl_40 (ti_eq c_93) (by decide)
                      refine lv_aload_n hx hb dX10_readBookLine_96 rfl (lv_at hl 4 rfl) ?_
                      refine lv_iconst (v := 4) hx hb dX10_readBookLine_97 (by decide) ?_
                      have hw8 := hw
                      refine tk_i (va_runV (As := [.int 4]) (rest := []) ⟨hx, hb, hml, hown, hts⟩ (c_X10_bad l D cy z H.size Ps w0 hw.1 p0 4 h_p0 (rl_4.to (by decide))) (cwV 1 hts (gV tw_1336 tw_1338 ts_46 tw_15 tw_1339) rfl rfl rfl (by decide +kernel) ⟨Nat.le_of_ble_eq_true rfl, Nat.le_of_ble_eq_true rfl⟩) (tg_preV hw hK hSD hA (ci := 10) (q := (RX10, TX10, 49)) rfl h_p0 rfl) rfl rfl hl.1 rfl (lv_room (Nat.le_of_ble_eq_true rfl)) dX10_readBookLine_98 ⟨Nat.le_of_ble_eq_true rfl, Nat.le_of_ble_eq_true rfl⟩) hw hA ⟨by decide, by decide⟩ (fun v_21 ws H locs hp_v_21 hw hF9 => ?_)
                      have m_v_7 := AEL.over hw8 hF9 h_vu_6 m_v_7 (by decide)
                      have m_u_5 := FLD.over hF9 m_u_5 (by decide)
                      have m_u_6 := FLD.over hF9 m_u_6 (by decide)
                      have m_u_8 := FLD.over hF9 m_u_8 (by decide)
                      have m_u_11 := FLD.over hF9 m_u_11 (by decide)
                      have x_LNS_p0 := LNS.over hF9 x_LNS_p0 (by decide)
                      have x_FD_vu_5_16_v_7_vu_8 := FDD.over hw8 hF9 h_vu_5 x_FD_vu_5_16_v_7_vu_8 (by decide)
                      have r_v_21 : RI v_21 0 0 := hp_v_21.1
                      subst hQ
                      exact W.zret (v := v_21) hx hb hr (tq_nz (r_v_21.to (by decide))) (fun t ht hW => ⟨⟨v_21, ws, rfl, ⟨⟨r_v_21.to (by decide), (fun h0 => trivial), (fun h0 => absurd (Int32.toInt_inj.mp (by have h8 := r_v_21; unfold RI at h8; rw [Int32.toInt_zero]; omega)) h0)⟩, hw.1, hw.2.2.2.2.1⟩, by rw [ht]; exact hw.2.1, va_K.moved hW.alike hK, hw.2.2.1⟩, hw.2.2.2.1.F ht⟩) hw.2.2.2.1.2.2 dX10_readBookLine_101
                  · have r_v_9 : RI v_9 0 (-1) := rc_eq1 r_v_9 rl_m1 (ti_eq c_78) (by decide)
                    exact (r_v_9.no (by decide)).elim
              · have r_v_4 : RI v_4 0 0 := rc_eq1 r_v_4 rl_0 (ti_eq c_49) (by decide)
                refine lv_aload_n hx hb dX10_readBookLine_52 rfl (lv_at hl 4 rfl) ?_
                refine lv_iconst (v := 1) hx hb dX10_readBookLine_53 (by decide) ?_
                refine tk_i (va_runV (As := [.int 1]) (rest := []) ⟨hx, hb, hml, hown, hts⟩ (c_X10_bad l D cy z H.size Ps w0 hw.1 p0 1 h_p0 (rl_1.to (by decide))) (cwV 1 hts (gV tw_1336 tw_1338 ts_46 tw_15 tw_1339) rfl rfl rfl (by decide +kernel) ⟨Nat.le_of_ble_eq_true rfl, Nat.le_of_ble_eq_true rfl⟩) (tg_preV hw hK hSD hA (ci := 10) (q := (RX10, TX10, 49)) rfl h_p0 rfl) rfl rfl hl.1 rfl (lv_room (Nat.le_of_ble_eq_true rfl)) dX10_readBookLine_54 ⟨Nat.le_of_ble_eq_true rfl, Nat.le_of_ble_eq_true rfl⟩) hw hA ⟨by decide, by decide⟩ (fun v_22 ws H locs hp_v_22 hw hF9 => ?_)
                have x_LNS_p0 := LNS.over hF9 x_LNS_p0 (by decide)
                have r_v_22 : RI v_22 0 0 := hp_v_22.1
                subst hQ
                exact W.zret (v := v_22) hx hb hr (tq_nz (r_v_22.to (by decide))) (fun t ht hW => ⟨⟨v_22, ws, rfl, ⟨⟨r_v_22.to (by decide), (fun h0 => trivial), (fun h0 => absurd (Int32.toInt_inj.mp (by have h8 := r_v_22; unfold RI at h8; rw [Int32.toInt_zero]; omega)) h0)⟩, hw.1, hw.2.2.2.2.1⟩, by rw [ht]; exact hw.2.1, va_K.moved hW.alike hK, hw.2.2.1⟩, hw.2.2.2.1.F ht⟩) hw.2.2.2.1.2.2 dX10_readBookLine_57
      · have r_v_3 : RI v_3 1 1 := rc_neL r_v_3 rl_0 (ti_ne c9_v_3) (by decide)
        have x_WRD_p0_2968 := ((hp_v_3.2.2 c9_v_3).1)
        refine lv_istore_n (lv' := [(3, .int v_3), (2, .int v_2), (1, .int v_1), (0, .ref p0)]) hx hb dX10_readBookLine_20 rfl hl (by decide) rfl (fun ls hl => ?_)
        refine lv_iload_n hx hb dX10_readBookLine_21 rfl (lv_at hl 2 rfl) ?_
        refine lv_if_ne (tgt := 37) hx hb dX10_readBookLine_22 (by decide) (fun c_22 => ?_) (fun c_22 => ?_)
        · exact absurd (r_v_1.eq.trans rl_0.eq.symm) ((ti_ne c_22))
        · refine lv_iload_n hx hb dX10_readBookLine_25 rfl (lv_at hl 1 rfl) ?_
          refine lv_if_ne (tgt := 37) hx hb dX10_readBookLine_26 (by decide) (fun c_26 => ?_) (fun c_26 => ?_)
          · exact absurd (r_v_2.eq.trans rl_0.eq.symm) ((ti_ne c_26))
          · refine lv_iload_n hx hb dX10_readBookLine_29 rfl (lv_at hl 0 rfl) ?_
            refine lv_if_ne (tgt := 37) hx hb dX10_readBookLine_30 (by decide) (fun c_30 => ?_) (fun c_30 => ?_)
            · refine lv_iconst (v := 0) hx hb dX10_readBookLine_37 (by decide) ?_
              refine lv_istore (lv' := [(4, .int 0), (3, .int v_3), (2, .int v_2), (1, .int v_1), (0, .ref p0)]) hx hb dX10_readBookLine_38 hl (by decide) rfl (fun ls hl => ?_)
              refine lv_iload hx hb dX10_readBookLine_40 (lv_at hl 0 rfl) ?_
              refine lv_if_eq (tgt := 87) hx hb dX10_readBookLine_42 (by decide) (fun _ => ?_) (fun c9 => absurd (by decide) c9)
              refine lv_aload_n hx hb dX10_readBookLine_87 rfl (lv_at hl 4 rfl) ?_
              refine tg_get (ci := 10) (ts := ty_MODEL) (C := RX10) (T := TX10) (N := 49) hx hb hts inX10 hown hK hw h_p0 rfl rfl 42 (by decide) (hts _ tw_1179) (fun _ h9 => h9) (ft := vI 0 40) rfl dX10_readBookLine_88 (fun u_23 hv_u_23 m_u_23 => ?_)
              obtain ⟨vu_23, rfl, r_vu_23⟩ := hv_u_23
              refine lv_bipush (v := 40) hx hb dX10_readBookLine_91 (by decide) ?_
              refine lv_icmp_ne (tgt := 102) hx hb dX10_readBookLine_93 (by decide) (fun c_93 => ?_) (fun c_93 => ?_)
              · have r_vu_23 : RI vu_23 0 39 := rc_neU r_vu_23 rl_40 (ti_ne c_93) (by decide)
                refine lv_iconst (v := 3) hx hb dX10_readBookLine_102 (by decide) ?_
                refine lv_aload_n hx hb dX10_readBookLine_103 rfl (lv_at hl 4 rfl) ?_
                refine tg_mem (ci := 10) (C := RX10) (T := TX10) (N := 49) hx hb hts inX10 hown hK hw 42 m_u_23 rfl (by decide) (hts _ tw_1179) (fun _ h9 => h9) dX10_readBookLine_104 ?_
                refine lv_imul hx hb dX10_readBookLine_107 (lv_topi (fun v_24 e_v_24 => ?_))
                obtain ⟨t_v_24, r_v_24⟩ := tq_mul (lo := 0) (hi := 117) rl_3 r_vu_23 (by decide +kernel) e_v_24
                have t_v_24 : v_24.toInt = 3 * vu_23.toInt := t_v_24
                refine lv_istore (lv' := [(5, .int v_24), (4, .int 0), (3, .int v_3), (2, .int v_2), (1, .int v_1), (0, .ref p0)]) hx hb dX10_readBookLine_108 hl (by decide) rfl (fun ls hl => ?_)
                have x_OL_p0_v_24 : AX 40 52 (fun f => OLp f v_24) Ps w0 p0 := LNS.ol hw x_LNS_p0 m_u_23 (by have k1 := t_v_24; omega)
                have x_MUL3_v_24 : (∃ n : Int, Int32.toInt v_24 = 3 * n) := ⟨vu_23.toInt, by have k1 := t_v_24; omega⟩
                have g_at := x_MUL3_v_24
                have x_LE_p0_v_24_0_0_60 : AX 40 52 (fun f => 0 ≤ (f (Int32.toNatClampNeg v_24)).toInt ∧ (f (Int32.toNatClampNeg v_24)).toInt ≤ 60) Ps w0 p0 := AX.imp (ax_of (k := 40) (t := 52) hw h_p0 rfl (fun _ => rfl)) (fun f9 h9 => h9.2 _ (by have k1 := r_v_24.cl (by decide); have k2 := r_v_24.2; omega))
                have x_LE_p0_v_24_1_0_60 : AX 40 52 (fun f => 0 ≤ (f (Int32.toNatClampNeg v_24 + 1)).toInt ∧ (f (Int32.toNatClampNeg v_24 + 1)).toInt ≤ 60) Ps w0 p0 := AX.imp (ax_of (k := 40) (t := 52) hw h_p0 rfl (fun _ => rfl)) (fun f9 h9 => h9.2 _ (by have k1 := r_v_24.cl (by decide); have k2 := r_v_24.2; omega))
                have x_LE_p0_v_24_2_0_60 : AX 40 52 (fun f => 0 ≤ (f (Int32.toNatClampNeg v_24 + 2)).toInt ∧ (f (Int32.toNatClampNeg v_24 + 2)).toInt ≤ 60) Ps w0 p0 := AX.imp (ax_of (k := 40) (t := 52) hw h_p0 rfl (fun _ => rfl)) (fun f9 h9 => h9.2 _ (by have k1 := r_v_24.cl (by decide); have k2 := r_v_24.2; omega))
                refine lv_aload_n hx hb dX10_readBookLine_110 rfl (lv_at hl 5 rfl) ?_
                refine tg_get (ci := 10) (ts := ty_MODEL) (C := RX10) (T := TX10) (N := 49) hx hb hts inX10 hown hK hw h_p0 rfl rfl 40 (by decide) (hts _ tw_1177) (fun _ h9 => h9) (ft := vR 52) rfl dX10_readBookLine_111 (fun u_25 hv_u_25 m_u_25 => ?_)
                obtain ⟨vu_25, rfl, h_vu_25⟩ := hv_u_25
                refine lv_iload hx hb dX10_readBookLine_114 (lv_at hl 0 rfl) ?_
                refine lv_iload_n hx hb dX10_readBookLine_116 rfl (lv_at hl 4 rfl) ?_
                refine lv_if_eq (tgt := 124) hx hb dX10_readBookLine_117 (by decide) (fun c_117 => ?_) (fun c_117 => ?_)
                · refine lv_iload_n hx hb dX10_readBookLine_124 rfl (lv_at hl 3 rfl) ?_
                  refine lv_if_eq (tgt := 132) hx hb dX10_readBookLine_125 (by decide) (fun c_125 => ?_) (fun c_125 => ?_)
                  · refine lv_bipush (v := 6) hx hb dX10_readBookLine_132 (by decide) ?_
                    refine tg_iast hx hb hK hw h_vu_25 rfl 0 117 r_v_24 (by decide) rl_6 (by exact fun _ _ _ => by decide) (fun _ _ _ _ _ => trivial) (by decide) dX10_readBookLine_134 (fun ws H locs hw hF9 hU9 => ?_)
                    have x_OL_p0_v_24 : AX 40 52 (fun f => OLp f v_24) Ps ws p0 := AX.ast hF9 hU9 x_OL_p0_v_24 m_u_25 (fun f9 h9 => OL_upd h9 g_at (by have k1 := r_v_24.cl (by decide); have k2 := r_v_24.1; omega))
                    have x_LE_p0_v_24_0_6_6 : AX 40 52 (fun f => 6 ≤ (f (Int32.toNatClampNeg v_24)).toInt ∧ (f (Int32.toNatClampNeg v_24)).toInt ≤ 6) Ps ws p0 := AX.ast hF9 hU9 x_LE_p0_v_24_0_0_60 m_u_25 (fun f9 h9 => by show _ ∧ _; rw [pk_us]; exact rl_6)
                    have x_LE_p0_v_24_1_0_60 : AX 40 52 (fun f => 0 ≤ (f (Int32.toNatClampNeg v_24 + 1)).toInt ∧ (f (Int32.toNatClampNeg v_24 + 1)).toInt ≤ 60) Ps ws p0 := AX.ast hF9 hU9 x_LE_p0_v_24_1_0_60 m_u_25 (fun f9 h9 => by have j9 : Int32.toNatClampNeg v_24 = Int32.toNatClampNeg v_24 + 0 := (by have k1 := r_v_24.cl (by decide); have k2 := r_v_24.cl (by decide); omega); show _ ∧ _; rw [pk_un (by omega)]; exact h9)
                    have x_LE_p0_v_24_2_0_60 : AX 40 52 (fun f => 0 ≤ (f (Int32.toNatClampNeg v_24 + 2)).toInt ∧ (f (Int32.toNatClampNeg v_24 + 2)).toInt ≤ 60) Ps ws p0 := AX.ast hF9 hU9 x_LE_p0_v_24_2_0_60 m_u_25 (fun f9 h9 => by have j9 : Int32.toNatClampNeg v_24 = Int32.toNatClampNeg v_24 + 0 := (by have k1 := r_v_24.cl (by decide); have k2 := r_v_24.cl (by decide); omega); show _ ∧ _; rw [pk_un (by omega)]; exact h9)
                    have x_WRD_p0_2968 := WRD.over hF9 x_WRD_p0_2968 (by decide)
                    have m_u_23 := FLD.over hF9 m_u_23 (by decide)
                    have m_u_25 := FLD.over hF9 m_u_25 (by decide)
                    refine lv_aload_n hx hb dX10_readBookLine_135 rfl (lv_at hl 5 rfl) ?_
                    refine tg_mem (ci := 10) (C := RX10) (T := TX10) (N := 49) hx hb hts inX10 hown hK hw 40 m_u_25 rfl (by decide) (hts _ tw_1177) (fun _ h9 => h9) dX10_readBookLine_136 ?_
                    refine lv_iload hx hb dX10_readBookLine_139 (lv_at hl 0 rfl) ?_
                    refine lv_iconst (v := 1) hx hb dX10_readBookLine_141 (by decide) ?_
                    refine lv_iadd hx hb dX10_readBookLine_142 (lv_topi (fun v_26 e_v_26 => ?_))
                    obtain ⟨t_v_26, r_v_26⟩ := tq_add (lo := 1) (hi := 118) r_v_24 rl_1 (by decide +kernel) e_v_26
                    have t_v_26 : v_26.toInt = v_24.toInt + 1 := t_v_26
                    refine lv_iload hx hb dX10_readBookLine_143 (lv_at hl 1 rfl) ?_
                    refine lv_if_eq (tgt := 170) hx hb dX10_readBookLine_145 (by decide) (fun _ => ?_) (fun c9 => absurd (by decide) c9)
                    refine lv_iconst (v := 0) hx hb dX10_readBookLine_170 (by decide) ?_
                    refine tg_iast hx hb hK hw h_vu_25 rfl 1 118 r_v_26 (by decide) rl_0 (by exact fun _ _ _ => by decide) (fun _ _ _ _ _ => trivial) (by decide) dX10_readBookLine_171 (fun ws H locs hw hF9 hU9 => ?_)
                    have x_OL_p0_v_24 : AX 40 52 (fun f => OLp f v_24) Ps ws p0 := AX.ast hF9 hU9 x_OL_p0_v_24 m_u_25 (fun f9 h9 => OL_upd h9 g_at (by have k1 := r_v_26.cl (by decide); have k2 := r_v_24.1; omega))
                    have x_LE_p0_v_24_0_6_6 : AX 40 52 (fun f => 6 ≤ (f (Int32.toNatClampNeg v_24)).toInt ∧ (f (Int32.toNatClampNeg v_24)).toInt ≤ 6) Ps ws p0 := AX.ast hF9 hU9 x_LE_p0_v_24_0_6_6 m_u_25 (fun f9 h9 => by have j9 : Int32.toNatClampNeg v_26 = Int32.toNatClampNeg v_24 + 1 := (by have k1 := r_v_26.cl (by decide); have k2 := r_v_24.cl (by decide); omega); show _ ∧ _; rw [pk_un (by omega)]; exact h9)
                    have x_LE_p0_v_24_1_0_0 : AX 40 52 (fun f => 0 ≤ (f (Int32.toNatClampNeg v_24 + 1)).toInt ∧ (f (Int32.toNatClampNeg v_24 + 1)).toInt ≤ 0) Ps ws p0 := AX.ast hF9 hU9 x_LE_p0_v_24_1_0_60 m_u_25 (fun f9 h9 => by have j9 : Int32.toNatClampNeg v_26 = Int32.toNatClampNeg v_24 + 1 := (by have k1 := r_v_26.cl (by decide); have k2 := r_v_24.cl (by decide); omega); show _ ∧ _; rw [← j9, pk_us]; exact rl_0)
                    have x_LE_p0_v_24_2_0_60 : AX 40 52 (fun f => 0 ≤ (f (Int32.toNatClampNeg v_24 + 2)).toInt ∧ (f (Int32.toNatClampNeg v_24 + 2)).toInt ≤ 60) Ps ws p0 := AX.ast hF9 hU9 x_LE_p0_v_24_2_0_60 m_u_25 (fun f9 h9 => by have j9 : Int32.toNatClampNeg v_26 = Int32.toNatClampNeg v_24 + 1 := (by have k1 := r_v_26.cl (by decide); have k2 := r_v_24.cl (by decide); omega); show _ ∧ _; rw [pk_un (by omega)]; exact h9)
                    have x_WRD_p0_2968 := WRD.over hF9 x_WRD_p0_2968 (by decide)
                    have m_u_23 := FLD.over hF9 m_u_23 (by decide)
                    have m_u_25 := FLD.over hF9 m_u_25 (by decide)
                    refine lv_aload_n hx hb dX10_readBookLine_172 rfl (lv_at hl 5 rfl) ?_
                    refine tg_mem (ci := 10) (C := RX10) (T := TX10) (N := 49) hx hb hts inX10 hown hK hw 40 m_u_25 rfl (by decide) (hts _ tw_1177) (fun _ h9 => h9) dX10_readBookLine_173 ?_
                    refine lv_iload hx hb dX10_readBookLine_176 (lv_at hl 0 rfl) ?_
                    refine lv_iconst (v := 2) hx hb dX10_readBookLine_178 (by decide) ?_
                    refine lv_iadd hx hb dX10_readBookLine_179 (lv_topi (fun v_27 e_v_27 => ?_))
                    obtain ⟨t_v_27, r_v_27⟩ := tq_add (lo := 2) (hi := 119) r_v_24 rl_2 (by decide +kernel) e_v_27
                    have t_v_27 : v_27.toInt = v_24.toInt + 2 := t_v_27
                    refine lv_iconst (v := 0) hx hb dX10_readBookLine_180 (by decide) ?_
                    refine tg_iast hx hb hK hw h_vu_25 rfl 2 119 r_v_27 (by decide) rl_0 (by exact fun _ _ _ => by decide) (fun _ _ _ _ _ => trivial) (by decide) dX10_readBookLine_181 (fun ws H locs hw hF9 hU9 => ?_)
                    have x_OL_p0_v_24 : AX 40 52 (fun f => OLp f v_24) Ps ws p0 := AX.ast hF9 hU9 x_OL_p0_v_24 m_u_25 (fun f9 h9 => OL_upd h9 g_at (by have k1 := r_v_27.cl (by decide); have k2 := r_v_24.1; omega))
                    have x_LE_p0_v_24_0_6_6 : AX 40 52 (fun f => 6 ≤ (f (Int32.toNatClampNeg v_24)).toInt ∧ (f (Int32.toNatClampNeg v_24)).toInt ≤ 6) Ps ws p0 := AX.ast hF9 hU9 x_LE_p0_v_24_0_6_6 m_u_25 (fun f9 h9 => by have j9 : Int32.toNatClampNeg v_27 = Int32.toNatClampNeg v_24 + 2 := (by have k1 := r_v_27.cl (by decide); have k2 := r_v_24.cl (by decide); omega); show _ ∧ _; rw [pk_un (by omega)]; exact h9)
                    have x_LE_p0_v_24_1_0_0 : AX 40 52 (fun f => 0 ≤ (f (Int32.toNatClampNeg v_24 + 1)).toInt ∧ (f (Int32.toNatClampNeg v_24 + 1)).toInt ≤ 0) Ps ws p0 := AX.ast hF9 hU9 x_LE_p0_v_24_1_0_0 m_u_25 (fun f9 h9 => by have j9 : Int32.toNatClampNeg v_27 = Int32.toNatClampNeg v_24 + 2 := (by have k1 := r_v_27.cl (by decide); have k2 := r_v_24.cl (by decide); omega); show _ ∧ _; rw [pk_un (by omega)]; exact h9)
                    have x_LE_p0_v_24_2_0_0 : AX 40 52 (fun f => 0 ≤ (f (Int32.toNatClampNeg v_24 + 2)).toInt ∧ (f (Int32.toNatClampNeg v_24 + 2)).toInt ≤ 0) Ps ws p0 := AX.ast hF9 hU9 x_LE_p0_v_24_2_0_60 m_u_25 (fun f9 h9 => by have j9 : Int32.toNatClampNeg v_27 = Int32.toNatClampNeg v_24 + 2 := (by have k1 := r_v_27.cl (by decide); have k2 := r_v_24.cl (by decide); omega); show _ ∧ _; rw [← j9, pk_us]; exact rl_0)
                    have x_WRD_p0_2968 := WRD.over hF9 x_WRD_p0_2968 (by decide)
                    have m_u_23 := FLD.over hF9 m_u_23 (by decide)
                    have m_u_25 := FLD.over hF9 m_u_25 (by decide)
                    refine lv_aload_n hx hb dX10_readBookLine_182 rfl (lv_at hl 5 rfl) ?_
                    refine tk_v (va_runV (As := []) (rest := []) ⟨hx, hb, hml, hown, hts⟩ (c_X10_go l D cy z H.size Ps ws hw.1 p0 h_p0) (cwV 0 hts (gV tw_1298 tw_1300 ts_40 tw_15 tw_1301) rfl rfl rfl (by decide +kernel) ⟨Nat.le_of_ble_eq_true rfl, Nat.le_of_ble_eq_true rfl⟩) (tg_preV hw hK hSD hA (ci := 10) (q := (RX10, TX10, 49)) rfl h_p0 rfl) rfl rfl hl.1 rfl (lv_room (Nat.le_of_ble_eq_true rfl)) dX10_readBookLine_183 ⟨Nat.le_of_ble_eq_true rfl, Nat.le_of_ble_eq_true rfl⟩) hw hA ⟨by decide, by decide⟩ (fun ws H locs hp_v_28 hw hF9 => ?_)
                    have m_u_23 := FLD.over hF9 m_u_23 (by decide)
                    have m_u_25 := FLD.over hF9 m_u_25 (by decide)
                    have x_OL_p0_v_24 := AX.over hF9 x_OL_p0_v_24 (by decide)
                    have x_LE_p0_v_24_0_6_6 := AX.over hF9 x_LE_p0_v_24_0_6_6 (by decide)
                    have x_LE_p0_v_24_1_0_0 := AX.over hF9 x_LE_p0_v_24_1_0_0 (by decide)
                    have x_LE_p0_v_24_2_0_0 := AX.over hF9 x_LE_p0_v_24_2_0_0 (by decide)
                    refine lv_iload hx hb dX10_readBookLine_186 (lv_at hl 1 rfl) ?_
                    refine lv_if_eq (tgt := 213) hx hb dX10_readBookLine_188 (by decide) (fun _ => ?_) (fun c9 => absurd (by decide) c9)
                    refine lv_iload_n hx hb dX10_readBookLine_213 rfl (lv_at hl 2 rfl) ?_
                    refine lv_if_eq (tgt := 248) hx hb dX10_readBookLine_214 (by decide) (fun c_214 => ?_) (fun c_214 => ?_)
                    · have r_v_3 : RI v_3 1 0 := rc_eq1 r_v_3 rl_0 (ti_eq c_214) (by decide)
                      exact (r_v_3.no (by decide)).elim
                    · refine lv_aload_n hx hb dX10_readBookLine_217 rfl (lv_at hl 5 rfl) ?_
                      refine lv_iload hx hb dX10_readBookLine_218 (lv_at hl 0 rfl) ?_
                      refine lv_iconst (v := 1) hx hb dX10_readBookLine_220 (by decide) ?_
                      refine lv_iadd hx hb dX10_readBookLine_221 (lv_topi (fun v_29 e_v_29 => ?_))
                      obtain ⟨t_v_29, r_v_29⟩ := tq_add (lo := 1) (hi := 118) r_v_24 rl_1 (by decide +kernel) e_v_29
                      have t_v_29 : v_29.toInt = v_24.toInt + 1 := t_v_29
                      refine lv_aload_n hx hb dX10_readBookLine_222 rfl (lv_at hl 5 rfl) ?_
                      refine lv_iconst (v := 1) hx hb dX10_readBookLine_223 (by decide) ?_
                      refine lv_bipush (v := 60) hx hb dX10_readBookLine_224 (by decide) ?_
                      refine tk_i (va_runV (As := [.int 1, .int 60]) (rest := [.int v_29, .ref p0]) ⟨hx, hb, hml, hown, hts⟩ (c_X10_readNumber__6 l D cy z H.size Ps ws hw.1 p0 1 60 h_p0 rl_1 rl_60) (cwV 2 hts (gV tw_1355 tw_1357 ts_50 tw_15 tw_1358) rfl rfl rfl (by decide +kernel) ⟨Nat.le_of_ble_eq_true rfl, Nat.le_of_ble_eq_true rfl⟩) (tg_preV hw hK hSD hA (ci := 10) (q := (RX10, TX10, 49)) rfl h_p0 rfl) rfl rfl hl.1 rfl (lv_room (Nat.le_of_ble_eq_true rfl)) dX10_readBookLine_226 ⟨Nat.le_of_ble_eq_true rfl, Nat.le_of_ble_eq_true rfl⟩) hw hA ⟨by decide, by decide⟩ (fun v_30 ws H locs hp_v_30 hw hF9 => ?_)
                      have m_u_23 := FLD.over hF9 m_u_23 (by decide)
                      have m_u_25 := FLD.over hF9 m_u_25 (by decide)
                      have x_OL_p0_v_24 := AX.over hF9 x_OL_p0_v_24 (by decide)
                      have x_LE_p0_v_24_0_6_6 := AX.over hF9 x_LE_p0_v_24_0_6_6 (by decide)
                      have x_LE_p0_v_24_1_0_0 := AX.over hF9 x_LE_p0_v_24_1_0_0 (by decide)
                      have x_LE_p0_v_24_2_0_0 := AX.over hF9 x_LE_p0_v_24_2_0_0 (by decide)
                      have r_v_30 : RI v_30 0 1 := hp_v_30.1
                      by_cases c9_v_30 : v_30 = 0
                      · have r_v_30 : RI v_30 0 0 := by rw [c9_v_30]; exact rl_0
                        refine tk_ir (va_runV (As := [.int v_29, .int v_30]) (rest := []) ⟨hx, hb, hml, hown, hts⟩ (c_X10_keep__2 l D cy z H.size Ps ws hw.1 p0 v_29 v_30 (fun f => OLp f v_24 ∧ (6 ≤ (f (Int32.toNatClampNeg v_24)).toInt ∧ (f (Int32.toNatClampNeg v_24)).toInt ≤ 6) ∧ (0 ≤ (f (Int32.toNatClampNeg v_24 + 1)).toInt ∧ (f (Int32.toNatClampNeg v_24 + 1)).toInt ≤ 0) ∧ (0 ≤ (f (Int32.toNatClampNeg v_24 + 2)).toInt ∧ (f (Int32.toNatClampNeg v_24 + 2)).toInt ≤ 0) ∧ True) (fun f => OLp f v_24 ∧ (6 ≤ (f (Int32.toNatClampNeg v_24)).toInt ∧ (f (Int32.toNatClampNeg v_24)).toInt ≤ 6) ∧ ((-2147483648) ≤ (f (Int32.toNatClampNeg v_24 + 1)).toInt ∧ (f (Int32.toNatClampNeg v_24 + 1)).toInt ≤ 2147483647) ∧ (0 ≤ (f (Int32.toNatClampNeg v_24 + 2)).toInt ∧ (f (Int32.toNatClampNeg v_24 + 2)).toInt ≤ 0) ∧ True) h_p0 r_v_29 r_v_30 (AX.and hw x_OL_p0_v_24 (AX.and hw x_LE_p0_v_24_0_6_6 (AX.and hw x_LE_p0_v_24_1_0_0 (AX.and hw x_LE_p0_v_24_2_0_0 (lx_true hw h_p0))))) (fun f9 v9 hv9 H9 => ⟨(have h9 := H9.1; OL_upd h9 g_at (by have k1 := r_v_29.cl (by decide); have k2 := r_v_24.1; omega)), (have h9 := H9.2.1; by have j9 : Int32.toNatClampNeg v_29 = Int32.toNatClampNeg v_24 + 1 := (by have k1 := r_v_29.cl (by decide); have k2 := r_v_24.cl (by decide); omega); show _ ∧ _; rw [pk_un (by omega)]; exact h9), (have h9 := H9.2.2.1; by have j9 : Int32.toNatClampNeg v_29 = Int32.toNatClampNeg v_24 + 1 := (by have k1 := r_v_29.cl (by decide); have k2 := r_v_24.cl (by decide); omega); show _ ∧ _; rw [← j9, pk_us]; exact hv9), (have h9 := H9.2.2.2.1; by have j9 : Int32.toNatClampNeg v_29 = Int32.toNatClampNeg v_24 + 1 := (by have k1 := r_v_29.cl (by decide); have k2 := r_v_24.cl (by decide); omega); show _ ∧ _; rw [pk_un (by omega)]; exact h9), trivial⟩)) (cwV 2 hts (gV tw_1727 tw_1729 ts_107 tw_15 tw_1730) rfl rfl rfl (by decide +kernel) ⟨Nat.le_of_ble_eq_true rfl, Nat.le_of_ble_eq_true rfl⟩) (tg_preV hw hK hSD hA (ci := 10) (q := (RX10, TX10, 49)) rfl h_p0 rfl) rfl rfl hl.1 rfl (lv_room (Nat.le_of_ble_eq_true rfl)) dX10_readBookLine_229 ⟨Nat.le_of_ble_eq_true rfl, Nat.le_of_ble_eq_true rfl⟩) hw hA (fun v_31  H locs hp_v_31 hw => ?_)
                        have r_v_31 : RI v_31 0 0 := hp_v_31.1
                        by_cases c9_v_31 : v_31 = 0
                        · have r_v_31 : RI v_31 0 0 := by rw [c9_v_31]; exact rl_0
                          have x_OL_p0_v_24 : AX 40 52 (fun f => OLp f v_24) Ps ws p0 := AX.imp ((hp_v_31.2.1 c9_v_31).1) (fun _ h9 => h9.1)
                          have x_LE_p0_v_24_0_6_6 : AX 40 52 (fun f => 6 ≤ (f (Int32.toNatClampNeg v_24)).toInt ∧ (f (Int32.toNatClampNeg v_24)).toInt ≤ 6) Ps ws p0 := AX.imp ((hp_v_31.2.1 c9_v_31).1) (fun _ h9 => h9.2.1)
                          have x_LE_p0_v_24_1_0_0 : AX 40 52 (fun f => 0 ≤ (f (Int32.toNatClampNeg v_24 + 1)).toInt ∧ (f (Int32.toNatClampNeg v_24 + 1)).toInt ≤ 0) Ps ws p0 := AX.imp ((hp_v_31.2.1 c9_v_31).1) (fun _ h9 => h9.2.2.1)
                          have x_LE_p0_v_24_2_0_0 : AX 40 52 (fun f => 0 ≤ (f (Int32.toNatClampNeg v_24 + 2)).toInt ∧ (f (Int32.toNatClampNeg v_24 + 2)).toInt ≤ 0) Ps ws p0 := AX.imp ((hp_v_31.2.1 c9_v_31).1) (fun _ h9 => h9.2.2.2.1)
                          refine lv_if_eq (tgt := 246) hx hb dX10_readBookLine_232 (by decide) (fun c_232 => ?_) (fun c_232 => ?_)
                          · refine lv_iconst (v := 0) hx hb dX10_readBookLine_246 (by decide) ?_
                            subst hQ
                            exact W.zret (v := 0) hx hb hr (rfl) (fun t ht hW => ⟨⟨0, ws, rfl, ⟨⟨rl_0.to (by decide), (fun h0 => trivial), (fun h0 => absurd rfl h0)⟩, hw.1, hw.2.2.2.2.1⟩, by rw [ht]; exact hw.2.1, va_K.moved hW.alike hK, hw.2.2.1⟩, hw.2.2.2.1.F ht⟩) hw.2.2.2.1.2.2 dX10_readBookLine_247
                          · exact absurd (r_v_31.eq.trans rl_0.eq.symm) ((ti_ne c_232))
                        · exact absurd (Int32.toInt_inj.mp (by rw [Int32.toInt_zero]; unfold RI at r_v_31; omega)) c9_v_31
                      · have r_v_30 : RI v_30 1 1 := rc_neL r_v_30 rl_0 (ti_ne c9_v_30) (by decide)
                        obtain ⟨v_32, m_v_32, r_v_32⟩ := ((hp_v_30.2.2 c9_v_30).1)
                        refine tk_i (va_runV (As := [.int v_29, .int v_30]) (rest := []) ⟨hx, hb, hml, hown, hts⟩ (c_X10_keep__3 l D cy z H.size Ps ws hw.1 p0 v_29 v_30 v_32 (fun f => OLp f v_24 ∧ (6 ≤ (f (Int32.toNatClampNeg v_24)).toInt ∧ (f (Int32.toNatClampNeg v_24)).toInt ≤ 6) ∧ (0 ≤ (f (Int32.toNatClampNeg v_24 + 1)).toInt ∧ (f (Int32.toNatClampNeg v_24 + 1)).toInt ≤ 0) ∧ (0 ≤ (f (Int32.toNatClampNeg v_24 + 2)).toInt ∧ (f (Int32.toNatClampNeg v_24 + 2)).toInt ≤ 0) ∧ True) (fun f => OLp f v_24 ∧ (6 ≤ (f (Int32.toNatClampNeg v_24)).toInt ∧ (f (Int32.toNatClampNeg v_24)).toInt ≤ 6) ∧ (1 ≤ (f (Int32.toNatClampNeg v_24 + 1)).toInt ∧ (f (Int32.toNatClampNeg v_24 + 1)).toInt ≤ 60) ∧ (0 ≤ (f (Int32.toNatClampNeg v_24 + 2)).toInt ∧ (f (Int32.toNatClampNeg v_24 + 2)).toInt ≤ 0) ∧ True) h_p0 r_v_29 r_v_30 r_v_32 m_v_32 (AX.and hw x_OL_p0_v_24 (AX.and hw x_LE_p0_v_24_0_6_6 (AX.and hw x_LE_p0_v_24_1_0_0 (AX.and hw x_LE_p0_v_24_2_0_0 (lx_true hw h_p0))))) (fun f9 v9 hv9 H9 => ⟨(have h9 := H9.1; OL_upd h9 g_at (by have k1 := r_v_29.cl (by decide); have k2 := r_v_24.1; omega)), (have h9 := H9.2.1; by have j9 : Int32.toNatClampNeg v_29 = Int32.toNatClampNeg v_24 + 1 := (by have k1 := r_v_29.cl (by decide); have k2 := r_v_24.cl (by decide); omega); show _ ∧ _; rw [pk_un (by omega)]; exact h9), (have h9 := H9.2.2.1; by have j9 : Int32.toNatClampNeg v_29 = Int32.toNatClampNeg v_24 + 1 := (by have k1 := r_v_29.cl (by decide); have k2 := r_v_24.cl (by decide); omega); show _ ∧ _; rw [← j9, pk_us]; exact hv9), (have h9 := H9.2.2.2.1; by have j9 : Int32.toNatClampNeg v_29 = Int32.toNatClampNeg v_24 + 1 := (by have k1 := r_v_29.cl (by decide); have k2 := r_v_24.cl (by decide); omega); show _ ∧ _; rw [pk_un (by omega)]; exact h9), trivial⟩)) (cwV 2 hts (gV tw_1727 tw_1729 ts_107 tw_15 tw_1730) rfl rfl rfl (by decide +kernel) ⟨Nat.le_of_ble_eq_true rfl, Nat.le_of_ble_eq_true rfl⟩) (tg_preV hw hK hSD hA (ci := 10) (q := (RX10, TX10, 49)) rfl h_p0 rfl) rfl rfl hl.1 rfl (lv_room (Nat.le_of_ble_eq_true rfl)) dX10_readBookLine_229 ⟨Nat.le_of_ble_eq_true rfl, Nat.le_of_ble_eq_true rfl⟩) hw hA ⟨by decide, by decide⟩ (fun v_33 ws H locs hp_v_33 hw hF9 => ?_)
                        have m_u_23 := FLD.over hF9 m_u_23 (by decide)
                        have m_u_25 := FLD.over hF9 m_u_25 (by decide)
                        have m_v_32 := FLD.over hF9 m_v_32 (by decide)
                        have r_v_33 : RI v_33 1 1 := hp_v_33.1
                        by_cases c9_v_33 : v_33 = 0
                        · exact absurd (ti_eq c9_v_33) (by unfold RI at r_v_33; rw [Int32.toInt_zero]; omega)
                        · obtain ⟨v_34, m_v_34, r_v_34⟩ := ((hp_v_33.2.2 c9_v_33).1)
                          have x_OL_p0_v_24 : AX 40 52 (fun f => OLp f v_24) Ps ws p0 := AX.imp ((hp_v_33.2.2 c9_v_33).2.1) (fun _ h9 => h9.1)
                          have x_LE_p0_v_24_0_6_6 : AX 40 52 (fun f => 6 ≤ (f (Int32.toNatClampNeg v_24)).toInt ∧ (f (Int32.toNatClampNeg v_24)).toInt ≤ 6) Ps ws p0 := AX.imp ((hp_v_33.2.2 c9_v_33).2.1) (fun _ h9 => h9.2.1)
                          have x_LE_p0_v_24_1_1_60 : AX 40 52 (fun f => 1 ≤ (f (Int32.toNatClampNeg v_24 + 1)).toInt ∧ (f (Int32.toNatClampNeg v_24 + 1)).toInt ≤ 60) Ps ws p0 := AX.imp ((hp_v_33.2.2 c9_v_33).2.1) (fun _ h9 => h9.2.2.1)
                          have x_LE_p0_v_24_2_0_0 : AX 40 52 (fun f => 0 ≤ (f (Int32.toNatClampNeg v_24 + 2)).toInt ∧ (f (Int32.toNatClampNeg v_24 + 2)).toInt ≤ 0) Ps ws p0 := AX.imp ((hp_v_33.2.2 c9_v_33).2.1) (fun _ h9 => h9.2.2.2.1)
                          refine lv_if_eq (tgt := 246) hx hb dX10_readBookLine_232 (by decide) (fun c_232 => ?_) (fun c_232 => ?_)
                          · have r_v_33 : RI v_33 1 0 := rc_eq1 r_v_33 rl_0 (ti_eq c_232) (by decide)
                            exact (r_v_33.no (by decide)).elim
                          · refine lv_aload_n hx hb dX10_readBookLine_235 rfl (lv_at hl 5 rfl) ?_
                            refine tk_i (va_runV (As := []) (rest := []) ⟨hx, hb, hml, hown, hts⟩ (c_X10_readEnd l D cy z H.size Ps ws hw.1 p0 h_p0) (cwV 0 hts (gV tw_1409 tw_1411 ts_62 tw_15 tw_1412) rfl rfl rfl (by decide +kernel) ⟨Nat.le_of_ble_eq_true rfl, Nat.le_of_ble_eq_true rfl⟩) (tg_preV hw hK hSD hA (ci := 10) (q := (RX10, TX10, 49)) rfl h_p0 rfl) rfl rfl hl.1 rfl (lv_room (Nat.le_of_ble_eq_true rfl)) dX10_readBookLine_236 ⟨Nat.le_of_ble_eq_true rfl, Nat.le_of_ble_eq_true rfl⟩) hw hA ⟨by decide, by decide⟩ (fun v_35 ws H locs hp_v_35 hw hF9 => ?_)
                            have m_u_23 := FLD.over hF9 m_u_23 (by decide)
                            have m_u_25 := FLD.over hF9 m_u_25 (by decide)
                            have m_v_34 := FLD.over hF9 m_v_34 (by decide)
                            have x_OL_p0_v_24 := AX.over hF9 x_OL_p0_v_24 (by decide)
                            have x_LE_p0_v_24_0_6_6 := AX.over hF9 x_LE_p0_v_24_0_6_6 (by decide)
                            have x_LE_p0_v_24_1_1_60 := AX.over hF9 x_LE_p0_v_24_1_1_60 (by decide)
                            have x_LE_p0_v_24_2_0_0 := AX.over hF9 x_LE_p0_v_24_2_0_0 (by decide)
                            have r_v_35 : RI v_35 0 1 := hp_v_35.1
                            refine lv_if_eq (tgt := 246) hx hb dX10_readBookLine_239 (by decide) (fun c_239 => ?_) (fun c_239 => ?_)
                            · have r_v_35 : RI v_35 0 0 := rc_eq1 r_v_35 rl_0 (ti_eq c_239) (by decide)
                              refine lv_iconst (v := 0) hx hb dX10_readBookLine_246 (by decide) ?_
                              subst hQ
                              exact W.zret (v := 0) hx hb hr (rfl) (fun t ht hW => ⟨⟨0, ws, rfl, ⟨⟨rl_0.to (by decide), (fun h0 => trivial), (fun h0 => absurd rfl h0)⟩, hw.1, hw.2.2.2.2.1⟩, by rw [ht]; exact hw.2.1, va_K.moved hW.alike hK, hw.2.2.1⟩, hw.2.2.2.1.F ht⟩) hw.2.2.2.1.2.2 dX10_readBookLine_247
                            · have r_v_35 : RI v_35 1 1 := rc_neL r_v_35 rl_0 (ti_ne c_239) (by decide)
                              have x_L9 := AX.and hw x_LE_p0_v_24_0_6_6 (AX.and hw x_LE_p0_v_24_1_1_60 x_LE_p0_v_24_2_0_0)
                              have x_GL_p0_v_24 : AX 40 52 (fun f => GLk f (Int32.toNatClampNeg v_24)) Ps ws p0 := AX.imp x_L9 (fun f9 h9 => ⟨⟨by have k1 := h9.1.1; omega, by have k1 := h9.1.2; omega⟩, by have k1 := h9.1.1; have k2 := h9.2.1.2; omega, by have k3 := h9.2.2.2; omega⟩)
                              have x_LNG_p0 : LNG Ps ws p0 := LNG.mk m_u_23 (by have k1 := t_v_24; omega) r_vu_23.1 (AX.and hw x_OL_p0_v_24 x_GL_p0_v_24)
                              refine lv_iconst (v := 1) hx hb dX10_readBookLine_242 (by decide) ?_
                              refine lv_goto (tgt := 247) hx hb dX10_readBookLine_243 (by decide) ?_
                              subst hQ
                              exact W.zret (v := 1) hx hb hr (rfl) (fun t ht hW => ⟨⟨1, ws, rfl, ⟨⟨rl_1.to (by decide), (fun _ => trivial), (fun h0 => ⟨⟨_, m_u_23, r_vu_23⟩, x_LNG_p0, trivial⟩)⟩, hw.1, hw.2.2.2.2.1⟩, by rw [ht]; exact hw.2.1, va_K.moved hW.alike hK, hw.2.2.1⟩, hw.2.2.2.1.F ht⟩) hw.2.2.2.1.2.2 dX10_readBookLine_247
                  · exact absurd (r_v_2.eq.trans rl_0.eq.symm) ((ti_ne c_125))
                · exact absurd (r_v_1.eq.trans rl_0.eq.symm) ((ti_ne c_117))
              · have r_vu_23 : RI vu_23 40 40 := rc_eq1 r_vu_23 rl_40 (ti_eq c_93) (by decide)
                refine lv_aload_n hx hb dX10_readBookLine_96 rfl (lv_at hl 4 rfl) ?_
                refine lv_iconst (v := 4) hx hb dX10_readBookLine_97 (by decide) ?_
                refine tk_i (va_runV (As := [.int 4]) (rest := []) ⟨hx, hb, hml, hown, hts⟩ (c_X10_bad l D cy z H.size Ps w0 hw.1 p0 4 h_p0 (rl_4.to (by decide))) (cwV 1 hts (gV tw_1336 tw_1338 ts_46 tw_15 tw_1339) rfl rfl rfl (by decide +kernel) ⟨Nat.le_of_ble_eq_true rfl, Nat.le_of_ble_eq_true rfl⟩) (tg_preV hw hK hSD hA (ci := 10) (q := (RX10, TX10, 49)) rfl h_p0 rfl) rfl rfl hl.1 rfl (lv_room (Nat.le_of_ble_eq_true rfl)) dX10_readBookLine_98 ⟨Nat.le_of_ble_eq_true rfl, Nat.le_of_ble_eq_true rfl⟩) hw hA ⟨by decide, by decide⟩ (fun v_36 ws H locs hp_v_36 hw hF9 => ?_)
                have m_u_23 := FLD.over hF9 m_u_23 (by decide)
                have x_LNS_p0 := LNS.over hF9 x_LNS_p0 (by decide)
                have x_WRD_p0_2968 := WRD.over hF9 x_WRD_p0_2968 (by decide)
                have r_v_36 : RI v_36 0 0 := hp_v_36.1
                subst hQ
                exact W.zret (v := v_36) hx hb hr (tq_nz (r_v_36.to (by decide))) (fun t ht hW => ⟨⟨v_36, ws, rfl, ⟨⟨r_v_36.to (by decide), (fun h0 => trivial), (fun h0 => absurd (Int32.toInt_inj.mp (by have h8 := r_v_36; unfold RI at h8; rw [Int32.toInt_zero]; omega)) h0)⟩, hw.1, hw.2.2.2.2.1⟩, by rw [ht]; exact hw.2.1, va_K.moved hW.alike hK, hw.2.2.1⟩, hw.2.2.2.1.F ht⟩) hw.2.2.2.1.2.2 dX10_readBookLine_101
            · have r_v_3 : RI v_3 1 0 := rc_eq1 r_v_3 rl_0 (ti_eq c_30) (by decide)
              exact (r_v_3.no (by decide)).elim
    · have r_v_2 : RI v_2 1 1 := rc_neL r_v_2 rl_0 (ti_ne c9_v_2) (by decide)
      have x_WRD_p0_1627639 := ((hp_v_2.2.2 c9_v_2).1)
      refine lv_istore_n (lv' := [(2, .int v_2), (1, .int v_1), (0, .ref p0)]) hx hb dX10_readBookLine_13 rfl hl (by decide) rfl (fun ls hl => ?_)
      refine lv_aload_n hx hb dX10_readBookLine_14 rfl (lv_at hl 2 rfl) ?_
      refine lv_bipush (v := 15) hx hb dX10_readBookLine_15 (by decide) ?_
      refine tk_ir (va_runV (As := [.int 15]) (rest := []) ⟨hx, hb, hml, hown, hts⟩ (c_X10_isWord__3 l D cy z H.size Ps w0 hw.1 p0 15 h_p0 rl_15) (cwV 1 hts (gV tw_1318 tw_1320 ts_43 tw_15 tw_1321) rfl rfl rfl (by decide +kernel) ⟨Nat.le_of_ble_eq_true rfl, Nat.le_of_ble_eq_true rfl⟩) (tg_preV hw hK hSD hA (ci := 10) (q := (RX10, TX10, 49)) rfl h_p0 rfl) rfl rfl hl.1 rfl (lv_room (Nat.le_of_ble_eq_true rfl)) dX10_readBookLine_17 ⟨Nat.le_of_ble_eq_true rfl, Nat.le_of_ble_eq_true rfl⟩) hw hA (fun v_37  H locs hp_v_37 hw => ?_)
      have r_v_37 : RI v_37 0 1 := hp_v_37.1
      by_cases c9_v_37 : v_37 = 0
      · have r_v_37 : RI v_37 0 0 := by rw [c9_v_37]; exact rl_0
        refine lv_istore_n (lv' := [(3, .int v_37), (2, .int v_2), (1, .int v_1), (0, .ref p0)]) hx hb dX10_readBookLine_20 rfl hl (by decide) rfl (fun ls hl => ?_)
        refine lv_iload_n hx hb dX10_readBookLine_21 rfl (lv_at hl 2 rfl) ?_
        refine lv_if_ne (tgt := 37) hx hb dX10_readBookLine_22 (by decide) (fun c_22 => ?_) (fun c_22 => ?_)
        · exact absurd (r_v_1.eq.trans rl_0.eq.symm) ((ti_ne c_22))
        · refine lv_iload_n hx hb dX10_readBookLine_25 rfl (lv_at hl 1 rfl) ?_
          refine lv_if_ne (tgt := 37) hx hb dX10_readBookLine_26 (by decide) (fun c_26 => ?_) (fun c_26 => ?_)
          · refine lv_iconst (v := 0) hx hb dX10_readBookLine_37 (by decide) ?_
            refine lv_istore (lv' := [(4, .int 0), (3, .int v_37), (2, .int v_2), (1, .int v_1), (0, .ref p0)]) hx hb dX10_readBookLine_38 hl (by decide) rfl (fun ls hl => ?_)
            refine lv_iload hx hb dX10_readBookLine_40 (lv_at hl 0 rfl) ?_
            refine lv_if_eq (tgt := 87) hx hb dX10_readBookLine_42 (by decide) (fun _ => ?_) (fun c9 => absurd (by decide) c9)
            refine lv_aload_n hx hb dX10_readBookLine_87 rfl (lv_at hl 4 rfl) ?_
            refine tg_get (ci := 10) (ts := ty_MODEL) (C := RX10) (T := TX10) (N := 49) hx hb hts inX10 hown hK hw h_p0 rfl rfl 42 (by decide) (hts _ tw_1179) (fun _ h9 => h9) (ft := vI 0 40) rfl dX10_readBookLine_88 (fun u_38 hv_u_38 m_u_38 => ?_)
            obtain ⟨vu_38, rfl, r_vu_38⟩ := hv_u_38
            refine lv_bipush (v := 40) hx hb dX10_readBookLine_91 (by decide) ?_
            refine lv_icmp_ne (tgt := 102) hx hb dX10_readBookLine_93 (by decide) (fun c_93 => ?_) (fun c_93 => ?_)
            · have r_vu_38 : RI vu_38 0 39 := rc_neU r_vu_38 rl_40 (ti_ne c_93) (by decide)
              refine lv_iconst (v := 3) hx hb dX10_readBookLine_102 (by decide) ?_
              refine lv_aload_n hx hb dX10_readBookLine_103 rfl (lv_at hl 4 rfl) ?_
              refine tg_mem (ci := 10) (C := RX10) (T := TX10) (N := 49) hx hb hts inX10 hown hK hw 42 m_u_38 rfl (by decide) (hts _ tw_1179) (fun _ h9 => h9) dX10_readBookLine_104 ?_
              refine lv_imul hx hb dX10_readBookLine_107 (lv_topi (fun v_39 e_v_39 => ?_))
              obtain ⟨t_v_39, r_v_39⟩ := tq_mul (lo := 0) (hi := 117) rl_3 r_vu_38 (by decide +kernel) e_v_39
              have t_v_39 : v_39.toInt = 3 * vu_38.toInt := t_v_39
              refine lv_istore (lv' := [(5, .int v_39), (4, .int 0), (3, .int v_37), (2, .int v_2), (1, .int v_1), (0, .ref p0)]) hx hb dX10_readBookLine_108 hl (by decide) rfl (fun ls hl => ?_)
              have x_OL_p0_v_39 : AX 40 52 (fun f => OLp f v_39) Ps w0 p0 := LNS.ol hw x_LNS_p0 m_u_38 (by have k1 := t_v_39; omega)
              have x_MUL3_v_39 : (∃ n : Int, Int32.toInt v_39 = 3 * n) := ⟨vu_38.toInt, by have k1 := t_v_39; omega⟩
              have g_at := x_MUL3_v_39
              have x_LE_p0_v_39_0_0_60 : AX 40 52 (fun f => 0 ≤ (f (Int32.toNatClampNeg v_39)).toInt ∧ (f (Int32.toNatClampNeg v_39)).toInt ≤ 60) Ps w0 p0 := AX.imp (ax_of (k := 40) (t := 52) hw h_p0 rfl (fun _ => rfl)) (fun f9 h9 => h9.2 _ (by have k1 := r_v_39.cl (by decide); have k2 := r_v_39.2; omega))
              have x_LE_p0_v_39_1_0_60 : AX 40 52 (fun f => 0 ≤ (f (Int32.toNatClampNeg v_39 + 1)).toInt ∧ (f (Int32.toNatClampNeg v_39 + 1)).toInt ≤ 60) Ps w0 p0 := AX.imp (ax_of (k := 40) (t := 52) hw h_p0 rfl (fun _ => rfl)) (fun f9 h9 => h9.2 _ (by have k1 := r_v_39.cl (by decide); have k2 := r_v_39.2; omega))
              have x_LE_p0_v_39_2_0_60 : AX 40 52 (fun f => 0 ≤ (f (Int32.toNatClampNeg v_39 + 2)).toInt ∧ (f (Int32.toNatClampNeg v_39 + 2)).toInt ≤ 60) Ps w0 p0 := AX.imp (ax_of (k := 40) (t := 52) hw h_p0 rfl (fun _ => rfl)) (fun f9 h9 => h9.2 _ (by have k1 := r_v_39.cl (by decide); have k2 := r_v_39.2; omega))
              refine lv_aload_n hx hb dX10_readBookLine_110 rfl (lv_at hl 5 rfl) ?_
              refine tg_get (ci := 10) (ts := ty_MODEL) (C := RX10) (T := TX10) (N := 49) hx hb hts inX10 hown hK hw h_p0 rfl rfl 40 (by decide) (hts _ tw_1177) (fun _ h9 => h9) (ft := vR 52) rfl dX10_readBookLine_111 (fun u_40 hv_u_40 m_u_40 => ?_)
              obtain ⟨vu_40, rfl, h_vu_40⟩ := hv_u_40
              refine lv_iload hx hb dX10_readBookLine_114 (lv_at hl 0 rfl) ?_
              refine lv_iload_n hx hb dX10_readBookLine_116 rfl (lv_at hl 4 rfl) ?_
              refine lv_if_eq (tgt := 124) hx hb dX10_readBookLine_117 (by decide) (fun c_117 => ?_) (fun c_117 => ?_)
              · refine lv_iload_n hx hb dX10_readBookLine_124 rfl (lv_at hl 3 rfl) ?_
                refine lv_if_eq (tgt := 132) hx hb dX10_readBookLine_125 (by decide) (fun c_125 => ?_) (fun c_125 => ?_)
                · have r_v_2 : RI v_2 1 0 := rc_eq1 r_v_2 rl_0 (ti_eq c_125) (by decide)
                  exact (r_v_2.no (by decide)).elim
                · refine lv_iconst (v := 5) hx hb dX10_readBookLine_128 (by decide) ?_
                  refine lv_goto (tgt := 134) hx hb dX10_readBookLine_129 (by decide) ?_
                  refine tg_iast hx hb hK hw h_vu_40 rfl 0 117 r_v_39 (by decide) rl_5 (by exact fun _ _ _ => by decide) (fun _ _ _ _ _ => trivial) (by decide) dX10_readBookLine_134 (fun ws H locs hw hF9 hU9 => ?_)
                  have x_OL_p0_v_39 : AX 40 52 (fun f => OLp f v_39) Ps ws p0 := AX.ast hF9 hU9 x_OL_p0_v_39 m_u_40 (fun f9 h9 => OL_upd h9 g_at (by have k1 := r_v_39.cl (by decide); have k2 := r_v_39.1; omega))
                  have x_LE_p0_v_39_0_5_5 : AX 40 52 (fun f => 5 ≤ (f (Int32.toNatClampNeg v_39)).toInt ∧ (f (Int32.toNatClampNeg v_39)).toInt ≤ 5) Ps ws p0 := AX.ast hF9 hU9 x_LE_p0_v_39_0_0_60 m_u_40 (fun f9 h9 => by show _ ∧ _; rw [pk_us]; exact rl_5)
                  have x_LE_p0_v_39_1_0_60 : AX 40 52 (fun f => 0 ≤ (f (Int32.toNatClampNeg v_39 + 1)).toInt ∧ (f (Int32.toNatClampNeg v_39 + 1)).toInt ≤ 60) Ps ws p0 := AX.ast hF9 hU9 x_LE_p0_v_39_1_0_60 m_u_40 (fun f9 h9 => by have j9 : Int32.toNatClampNeg v_39 = Int32.toNatClampNeg v_39 + 0 := (by have k1 := r_v_39.cl (by decide); have k2 := r_v_39.cl (by decide); omega); show _ ∧ _; rw [pk_un (by omega)]; exact h9)
                  have x_LE_p0_v_39_2_0_60 : AX 40 52 (fun f => 0 ≤ (f (Int32.toNatClampNeg v_39 + 2)).toInt ∧ (f (Int32.toNatClampNeg v_39 + 2)).toInt ≤ 60) Ps ws p0 := AX.ast hF9 hU9 x_LE_p0_v_39_2_0_60 m_u_40 (fun f9 h9 => by have j9 : Int32.toNatClampNeg v_39 = Int32.toNatClampNeg v_39 + 0 := (by have k1 := r_v_39.cl (by decide); have k2 := r_v_39.cl (by decide); omega); show _ ∧ _; rw [pk_un (by omega)]; exact h9)
                  have x_WRD_p0_1627639 := WRD.over hF9 x_WRD_p0_1627639 (by decide)
                  have m_u_38 := FLD.over hF9 m_u_38 (by decide)
                  have m_u_40 := FLD.over hF9 m_u_40 (by decide)
                  refine lv_aload_n hx hb dX10_readBookLine_135 rfl (lv_at hl 5 rfl) ?_
                  refine tg_mem (ci := 10) (C := RX10) (T := TX10) (N := 49) hx hb hts inX10 hown hK hw 40 m_u_40 rfl (by decide) (hts _ tw_1177) (fun _ h9 => h9) dX10_readBookLine_136 ?_
                  refine lv_iload hx hb dX10_readBookLine_139 (lv_at hl 0 rfl) ?_
                  refine lv_iconst (v := 1) hx hb dX10_readBookLine_141 (by decide) ?_
                  refine lv_iadd hx hb dX10_readBookLine_142 (lv_topi (fun v_41 e_v_41 => ?_))
                  obtain ⟨t_v_41, r_v_41⟩ := tq_add (lo := 1) (hi := 118) r_v_39 rl_1 (by decide +kernel) e_v_41
                  have t_v_41 : v_41.toInt = v_39.toInt + 1 := t_v_41
                  refine lv_iload hx hb dX10_readBookLine_143 (lv_at hl 1 rfl) ?_
                  refine lv_if_eq (tgt := 170) hx hb dX10_readBookLine_145 (by decide) (fun _ => ?_) (fun c9 => absurd (by decide) c9)
                  refine lv_iconst (v := 0) hx hb dX10_readBookLine_170 (by decide) ?_
                  refine tg_iast hx hb hK hw h_vu_40 rfl 1 118 r_v_41 (by decide) rl_0 (by exact fun _ _ _ => by decide) (fun _ _ _ _ _ => trivial) (by decide) dX10_readBookLine_171 (fun ws H locs hw hF9 hU9 => ?_)
                  have x_OL_p0_v_39 : AX 40 52 (fun f => OLp f v_39) Ps ws p0 := AX.ast hF9 hU9 x_OL_p0_v_39 m_u_40 (fun f9 h9 => OL_upd h9 g_at (by have k1 := r_v_41.cl (by decide); have k2 := r_v_39.1; omega))
                  have x_LE_p0_v_39_0_5_5 : AX 40 52 (fun f => 5 ≤ (f (Int32.toNatClampNeg v_39)).toInt ∧ (f (Int32.toNatClampNeg v_39)).toInt ≤ 5) Ps ws p0 := AX.ast hF9 hU9 x_LE_p0_v_39_0_5_5 m_u_40 (fun f9 h9 => by have j9 : Int32.toNatClampNeg v_41 = Int32.toNatClampNeg v_39 + 1 := (by have k1 := r_v_41.cl (by decide); have k2 := r_v_39.cl (by decide); omega); show _ ∧ _; rw [pk_un (by omega)]; exact h9)
                  have x_LE_p0_v_39_1_0_0 : AX 40 52 (fun f => 0 ≤ (f (Int32.toNatClampNeg v_39 + 1)).toInt ∧ (f (Int32.toNatClampNeg v_39 + 1)).toInt ≤ 0) Ps ws p0 := AX.ast hF9 hU9 x_LE_p0_v_39_1_0_60 m_u_40 (fun f9 h9 => by have j9 : Int32.toNatClampNeg v_41 = Int32.toNatClampNeg v_39 + 1 := (by have k1 := r_v_41.cl (by decide); have k2 := r_v_39.cl (by decide); omega); show _ ∧ _; rw [← j9, pk_us]; exact rl_0)
                  have x_LE_p0_v_39_2_0_60 : AX 40 52 (fun f => 0 ≤ (f (Int32.toNatClampNeg v_39 + 2)).toInt ∧ (f (Int32.toNatClampNeg v_39 + 2)).toInt ≤ 60) Ps ws p0 := AX.ast hF9 hU9 x_LE_p0_v_39_2_0_60 m_u_40 (fun f9 h9 => by have j9 : Int32.toNatClampNeg v_41 = Int32.toNatClampNeg v_39 + 1 := (by have k1 := r_v_41.cl (by decide); have k2 := r_v_39.cl (by decide); omega); show _ ∧ _; rw [pk_un (by omega)]; exact h9)
                  have x_WRD_p0_1627639 := WRD.over hF9 x_WRD_p0_1627639 (by decide)
                  have m_u_38 := FLD.over hF9 m_u_38 (by decide)
                  have m_u_40 := FLD.over hF9 m_u_40 (by decide)
                  refine lv_aload_n hx hb dX10_readBookLine_172 rfl (lv_at hl 5 rfl) ?_
                  refine tg_mem (ci := 10) (C := RX10) (T := TX10) (N := 49) hx hb hts inX10 hown hK hw 40 m_u_40 rfl (by decide) (hts _ tw_1177) (fun _ h9 => h9) dX10_readBookLine_173 ?_
                  refine lv_iload hx hb dX10_readBookLine_176 (lv_at hl 0 rfl) ?_
                  refine lv_iconst (v := 2) hx hb dX10_readBookLine_178 (by decide) ?_
                  refine lv_iadd hx hb dX10_readBookLine_179 (lv_topi (fun v_42 e_v_42 => ?_))
                  obtain ⟨t_v_42, r_v_42⟩ := tq_add (lo := 2) (hi := 119) r_v_39 rl_2 (by decide +kernel) e_v_42
                  have t_v_42 : v_42.toInt = v_39.toInt + 2 := t_v_42
                  refine lv_iconst (v := 0) hx hb dX10_readBookLine_180 (by decide) ?_
                  refine tg_iast hx hb hK hw h_vu_40 rfl 2 119 r_v_42 (by decide) rl_0 (by exact fun _ _ _ => by decide) (fun _ _ _ _ _ => trivial) (by decide) dX10_readBookLine_181 (fun ws H locs hw hF9 hU9 => ?_)
                  have x_OL_p0_v_39 : AX 40 52 (fun f => OLp f v_39) Ps ws p0 := AX.ast hF9 hU9 x_OL_p0_v_39 m_u_40 (fun f9 h9 => OL_upd h9 g_at (by have k1 := r_v_42.cl (by decide); have k2 := r_v_39.1; omega))
                  have x_LE_p0_v_39_0_5_5 : AX 40 52 (fun f => 5 ≤ (f (Int32.toNatClampNeg v_39)).toInt ∧ (f (Int32.toNatClampNeg v_39)).toInt ≤ 5) Ps ws p0 := AX.ast hF9 hU9 x_LE_p0_v_39_0_5_5 m_u_40 (fun f9 h9 => by have j9 : Int32.toNatClampNeg v_42 = Int32.toNatClampNeg v_39 + 2 := (by have k1 := r_v_42.cl (by decide); have k2 := r_v_39.cl (by decide); omega); show _ ∧ _; rw [pk_un (by omega)]; exact h9)
                  have x_LE_p0_v_39_1_0_0 : AX 40 52 (fun f => 0 ≤ (f (Int32.toNatClampNeg v_39 + 1)).toInt ∧ (f (Int32.toNatClampNeg v_39 + 1)).toInt ≤ 0) Ps ws p0 := AX.ast hF9 hU9 x_LE_p0_v_39_1_0_0 m_u_40 (fun f9 h9 => by have j9 : Int32.toNatClampNeg v_42 = Int32.toNatClampNeg v_39 + 2 := (by have k1 := r_v_42.cl (by decide); have k2 := r_v_39.cl (by decide); omega); show _ ∧ _; rw [pk_un (by omega)]; exact h9)
                  have x_LE_p0_v_39_2_0_0 : AX 40 52 (fun f => 0 ≤ (f (Int32.toNatClampNeg v_39 + 2)).toInt ∧ (f (Int32.toNatClampNeg v_39 + 2)).toInt ≤ 0) Ps ws p0 := AX.ast hF9 hU9 x_LE_p0_v_39_2_0_60 m_u_40 (fun f9 h9 => by have j9 : Int32.toNatClampNeg v_42 = Int32.toNatClampNeg v_39 + 2 := (by have k1 := r_v_42.cl (by decide); have k2 := r_v_39.cl (by decide); omega); show _ ∧ _; rw [← j9, pk_us]; exact rl_0)
                  have x_WRD_p0_1627639 := WRD.over hF9 x_WRD_p0_1627639 (by decide)
                  have m_u_38 := FLD.over hF9 m_u_38 (by decide)
                  have m_u_40 := FLD.over hF9 m_u_40 (by decide)
                  refine lv_aload_n hx hb dX10_readBookLine_182 rfl (lv_at hl 5 rfl) ?_
                  refine tk_v (va_runV (As := []) (rest := []) ⟨hx, hb, hml, hown, hts⟩ (c_X10_go l D cy z H.size Ps ws hw.1 p0 h_p0) (cwV 0 hts (gV tw_1298 tw_1300 ts_40 tw_15 tw_1301) rfl rfl rfl (by decide +kernel) ⟨Nat.le_of_ble_eq_true rfl, Nat.le_of_ble_eq_true rfl⟩) (tg_preV hw hK hSD hA (ci := 10) (q := (RX10, TX10, 49)) rfl h_p0 rfl) rfl rfl hl.1 rfl (lv_room (Nat.le_of_ble_eq_true rfl)) dX10_readBookLine_183 ⟨Nat.le_of_ble_eq_true rfl, Nat.le_of_ble_eq_true rfl⟩) hw hA ⟨by decide, by decide⟩ (fun ws H locs hp_v_43 hw hF9 => ?_)
                  have m_u_38 := FLD.over hF9 m_u_38 (by decide)
                  have m_u_40 := FLD.over hF9 m_u_40 (by decide)
                  have x_OL_p0_v_39 := AX.over hF9 x_OL_p0_v_39 (by decide)
                  have x_LE_p0_v_39_0_5_5 := AX.over hF9 x_LE_p0_v_39_0_5_5 (by decide)
                  have x_LE_p0_v_39_1_0_0 := AX.over hF9 x_LE_p0_v_39_1_0_0 (by decide)
                  have x_LE_p0_v_39_2_0_0 := AX.over hF9 x_LE_p0_v_39_2_0_0 (by decide)
                  refine lv_iload hx hb dX10_readBookLine_186 (lv_at hl 1 rfl) ?_
                  refine lv_if_eq (tgt := 213) hx hb dX10_readBookLine_188 (by decide) (fun _ => ?_) (fun c9 => absurd (by decide) c9)
                  refine lv_iload_n hx hb dX10_readBookLine_213 rfl (lv_at hl 2 rfl) ?_
                  refine lv_if_eq (tgt := 248) hx hb dX10_readBookLine_214 (by decide) (fun c_214 => ?_) (fun c_214 => ?_)
                  · refine lv_aload_n hx hb dX10_readBookLine_248 rfl (lv_at hl 5 rfl) ?_
                    refine lv_iload hx hb dX10_readBookLine_249 (lv_at hl 0 rfl) ?_
                    refine lv_iconst (v := 1) hx hb dX10_readBookLine_251 (by decide) ?_
                    refine lv_iadd hx hb dX10_readBookLine_252 (lv_topi (fun v_44 e_v_44 => ?_))
                    obtain ⟨t_v_44, r_v_44⟩ := tq_add (lo := 1) (hi := 118) r_v_39 rl_1 (by decide +kernel) e_v_44
                    have t_v_44 : v_44.toInt = v_39.toInt + 1 := t_v_44
                    refine lv_aload_n hx hb dX10_readBookLine_253 rfl (lv_at hl 5 rfl) ?_
                    refine tk_i (va_runV (As := []) (rest := [.int v_44, .ref p0]) ⟨hx, hb, hml, hown, hts⟩ (c_X10_readParcelName l D cy z H.size Ps ws hw.1 p0 h_p0) (cwV 0 hts (gV tw_1719 tw_1721 ts_105 tw_15 tw_1722) rfl rfl rfl (by decide +kernel) ⟨Nat.le_of_ble_eq_true rfl, Nat.le_of_ble_eq_true rfl⟩) (tg_preV hw hK hSD hA (ci := 10) (q := (RX10, TX10, 49)) rfl h_p0 rfl) rfl rfl hl.1 rfl (lv_room (Nat.le_of_ble_eq_true rfl)) dX10_readBookLine_254 ⟨Nat.le_of_ble_eq_true rfl, Nat.le_of_ble_eq_true rfl⟩) hw hA ⟨by decide, by decide⟩ (fun v_45 ws H locs hp_v_45 hw hF9 => ?_)
                    have m_u_38 := FLD.over hF9 m_u_38 (by decide)
                    have m_u_40 := FLD.over hF9 m_u_40 (by decide)
                    have x_OL_p0_v_39 := AX.over hF9 x_OL_p0_v_39 (by decide)
                    have x_LE_p0_v_39_0_5_5 := AX.over hF9 x_LE_p0_v_39_0_5_5 (by decide)
                    have x_LE_p0_v_39_1_0_0 := AX.over hF9 x_LE_p0_v_39_1_0_0 (by decide)
                    have x_LE_p0_v_39_2_0_0 := AX.over hF9 x_LE_p0_v_39_2_0_0 (by decide)
                    have r_v_45 : RI v_45 0 1 := hp_v_45.1
                    by_cases c9_v_45 : v_45 = 0
                    · have r_v_45 : RI v_45 0 0 := by rw [c9_v_45]; exact rl_0
                      refine tk_ir (va_runV (As := [.int v_44, .int v_45]) (rest := []) ⟨hx, hb, hml, hown, hts⟩ (c_X10_keep__2 l D cy z H.size Ps ws hw.1 p0 v_44 v_45 (fun f => OLp f v_39 ∧ (5 ≤ (f (Int32.toNatClampNeg v_39)).toInt ∧ (f (Int32.toNatClampNeg v_39)).toInt ≤ 5) ∧ (0 ≤ (f (Int32.toNatClampNeg v_39 + 1)).toInt ∧ (f (Int32.toNatClampNeg v_39 + 1)).toInt ≤ 0) ∧ (0 ≤ (f (Int32.toNatClampNeg v_39 + 2)).toInt ∧ (f (Int32.toNatClampNeg v_39 + 2)).toInt ≤ 0) ∧ True) (fun f => OLp f v_39 ∧ (5 ≤ (f (Int32.toNatClampNeg v_39)).toInt ∧ (f (Int32.toNatClampNeg v_39)).toInt ≤ 5) ∧ ((-2147483648) ≤ (f (Int32.toNatClampNeg v_39 + 1)).toInt ∧ (f (Int32.toNatClampNeg v_39 + 1)).toInt ≤ 2147483647) ∧ (0 ≤ (f (Int32.toNatClampNeg v_39 + 2)).toInt ∧ (f (Int32.toNatClampNeg v_39 + 2)).toInt ≤ 0) ∧ True) h_p0 r_v_44 r_v_45 (AX.and hw x_OL_p0_v_39 (AX.and hw x_LE_p0_v_39_0_5_5 (AX.and hw x_LE_p0_v_39_1_0_0 (AX.and hw x_LE_p0_v_39_2_0_0 (lx_true hw h_p0))))) (fun f9 v9 hv9 H9 => ⟨(have h9 := H9.1; OL_upd h9 g_at (by have k1 := r_v_44.cl (by decide); have k2 := r_v_39.1; omega)), (have h9 := H9.2.1; by have j9 : Int32.toNatClampNeg v_44 = Int32.toNatClampNeg v_39 + 1 := (by have k1 := r_v_44.cl (by decide); have k2 := r_v_39.cl (by decide); omega); show _ ∧ _; rw [pk_un (by omega)]; exact h9), (have h9 := H9.2.2.1; by have j9 : Int32.toNatClampNeg v_44 = Int32.toNatClampNeg v_39 + 1 := (by have k1 := r_v_44.cl (by decide); have k2 := r_v_39.cl (by decide); omega); show _ ∧ _; rw [← j9, pk_us]; exact hv9), (have h9 := H9.2.2.2.1; by have j9 : Int32.toNatClampNeg v_44 = Int32.toNatClampNeg v_39 + 1 := (by have k1 := r_v_44.cl (by decide); have k2 := r_v_39.cl (by decide); omega); show _ ∧ _; rw [pk_un (by omega)]; exact h9), trivial⟩)) (cwV 2 hts (gV tw_1727 tw_1729 ts_107 tw_15 tw_1730) rfl rfl rfl (by decide +kernel) ⟨Nat.le_of_ble_eq_true rfl, Nat.le_of_ble_eq_true rfl⟩) (tg_preV hw hK hSD hA (ci := 10) (q := (RX10, TX10, 49)) rfl h_p0 rfl) rfl rfl hl.1 rfl (lv_room (Nat.le_of_ble_eq_true rfl)) dX10_readBookLine_257 ⟨Nat.le_of_ble_eq_true rfl, Nat.le_of_ble_eq_true rfl⟩) hw hA (fun v_46  H locs hp_v_46 hw => ?_)
                      have r_v_46 : RI v_46 0 0 := hp_v_46.1
                      by_cases c9_v_46 : v_46 = 0
                      · have r_v_46 : RI v_46 0 0 := by rw [c9_v_46]; exact rl_0
                        have x_OL_p0_v_39 : AX 40 52 (fun f => OLp f v_39) Ps ws p0 := AX.imp ((hp_v_46.2.1 c9_v_46).1) (fun _ h9 => h9.1)
                        have x_LE_p0_v_39_0_5_5 : AX 40 52 (fun f => 5 ≤ (f (Int32.toNatClampNeg v_39)).toInt ∧ (f (Int32.toNatClampNeg v_39)).toInt ≤ 5) Ps ws p0 := AX.imp ((hp_v_46.2.1 c9_v_46).1) (fun _ h9 => h9.2.1)
                        have x_LE_p0_v_39_1_0_0 : AX 40 52 (fun f => 0 ≤ (f (Int32.toNatClampNeg v_39 + 1)).toInt ∧ (f (Int32.toNatClampNeg v_39 + 1)).toInt ≤ 0) Ps ws p0 := AX.imp ((hp_v_46.2.1 c9_v_46).1) (fun _ h9 => h9.2.2.1)
                        have x_LE_p0_v_39_2_0_0 : AX 40 52 (fun f => 0 ≤ (f (Int32.toNatClampNeg v_39 + 2)).toInt ∧ (f (Int32.toNatClampNeg v_39 + 2)).toInt ≤ 0) Ps ws p0 := AX.imp ((hp_v_46.2.1 c9_v_46).1) (fun _ h9 => h9.2.2.2.1)
                        refine lv_if_ne (tgt := 265) hx hb dX10_readBookLine_260 (by decide) (fun c_260 => ?_) (fun c_260 => ?_)
                        · exact absurd (r_v_46.eq.trans rl_0.eq.symm) ((ti_ne c_260))
                        · refine lv_iconst (v := 0) hx hb dX10_readBookLine_263 (by decide) ?_
                          subst hQ
                          exact W.zret (v := 0) hx hb hr (rfl) (fun t ht hW => ⟨⟨0, ws, rfl, ⟨⟨rl_0.to (by decide), (fun h0 => trivial), (fun h0 => absurd rfl h0)⟩, hw.1, hw.2.2.2.2.1⟩, by rw [ht]; exact hw.2.1, va_K.moved hW.alike hK, hw.2.2.1⟩, hw.2.2.2.1.F ht⟩) hw.2.2.2.1.2.2 dX10_readBookLine_264
                      · exact absurd (Int32.toInt_inj.mp (by rw [Int32.toInt_zero]; unfold RI at r_v_46; omega)) c9_v_46
                    · have r_v_45 : RI v_45 1 1 := rc_neL r_v_45 rl_0 (ti_ne c9_v_45) (by decide)
                      obtain ⟨v_47, m_v_47, r_v_47⟩ := ((hp_v_45.2.2 c9_v_45).1)
                      refine tk_i (va_runV (As := [.int v_44, .int v_45]) (rest := []) ⟨hx, hb, hml, hown, hts⟩ (c_X10_keep__4 l D cy z H.size Ps ws hw.1 p0 v_44 v_45 v_47 (fun f => OLp f v_39 ∧ (5 ≤ (f (Int32.toNatClampNeg v_39)).toInt ∧ (f (Int32.toNatClampNeg v_39)).toInt ≤ 5) ∧ (0 ≤ (f (Int32.toNatClampNeg v_39 + 1)).toInt ∧ (f (Int32.toNatClampNeg v_39 + 1)).toInt ≤ 0) ∧ (0 ≤ (f (Int32.toNatClampNeg v_39 + 2)).toInt ∧ (f (Int32.toNatClampNeg v_39 + 2)).toInt ≤ 0) ∧ True) (fun f => OLp f v_39 ∧ (5 ≤ (f (Int32.toNatClampNeg v_39)).toInt ∧ (f (Int32.toNatClampNeg v_39)).toInt ≤ 5) ∧ (0 ≤ (f (Int32.toNatClampNeg v_39 + 1)).toInt ∧ (f (Int32.toNatClampNeg v_39 + 1)).toInt ≤ 5) ∧ (0 ≤ (f (Int32.toNatClampNeg v_39 + 2)).toInt ∧ (f (Int32.toNatClampNeg v_39 + 2)).toInt ≤ 0) ∧ True) h_p0 r_v_44 r_v_45 r_v_47 m_v_47 (AX.and hw x_OL_p0_v_39 (AX.and hw x_LE_p0_v_39_0_5_5 (AX.and hw x_LE_p0_v_39_1_0_0 (AX.and hw x_LE_p0_v_39_2_0_0 (lx_true hw h_p0))))) (fun f9 v9 hv9 H9 => ⟨(have h9 := H9.1; OL_upd h9 g_at (by have k1 := r_v_44.cl (by decide); have k2 := r_v_39.1; omega)), (have h9 := H9.2.1; by have j9 : Int32.toNatClampNeg v_44 = Int32.toNatClampNeg v_39 + 1 := (by have k1 := r_v_44.cl (by decide); have k2 := r_v_39.cl (by decide); omega); show _ ∧ _; rw [pk_un (by omega)]; exact h9), (have h9 := H9.2.2.1; by have j9 : Int32.toNatClampNeg v_44 = Int32.toNatClampNeg v_39 + 1 := (by have k1 := r_v_44.cl (by decide); have k2 := r_v_39.cl (by decide); omega); show _ ∧ _; rw [← j9, pk_us]; exact hv9), (have h9 := H9.2.2.2.1; by have j9 : Int32.toNatClampNeg v_44 = Int32.toNatClampNeg v_39 + 1 := (by have k1 := r_v_44.cl (by decide); have k2 := r_v_39.cl (by decide); omega); show _ ∧ _; rw [pk_un (by omega)]; exact h9), trivial⟩)) (cwV 2 hts (gV tw_1727 tw_1729 ts_107 tw_15 tw_1730) rfl rfl rfl (by decide +kernel) ⟨Nat.le_of_ble_eq_true rfl, Nat.le_of_ble_eq_true rfl⟩) (tg_preV hw hK hSD hA (ci := 10) (q := (RX10, TX10, 49)) rfl h_p0 rfl) rfl rfl hl.1 rfl (lv_room (Nat.le_of_ble_eq_true rfl)) dX10_readBookLine_257 ⟨Nat.le_of_ble_eq_true rfl, Nat.le_of_ble_eq_true rfl⟩) hw hA ⟨by decide, by decide⟩ (fun v_48 ws H locs hp_v_48 hw hF9 => ?_)
                      have m_u_38 := FLD.over hF9 m_u_38 (by decide)
                      have m_u_40 := FLD.over hF9 m_u_40 (by decide)
                      have m_v_47 := FLD.over hF9 m_v_47 (by decide)
                      have r_v_48 : RI v_48 1 1 := hp_v_48.1
                      by_cases c9_v_48 : v_48 = 0
                      · exact absurd (ti_eq c9_v_48) (by unfold RI at r_v_48; rw [Int32.toInt_zero]; omega)
                      · obtain ⟨v_49, m_v_49, r_v_49⟩ := ((hp_v_48.2.2 c9_v_48).1)
                        have x_OL_p0_v_39 : AX 40 52 (fun f => OLp f v_39) Ps ws p0 := AX.imp ((hp_v_48.2.2 c9_v_48).2.1) (fun _ h9 => h9.1)
                        have x_LE_p0_v_39_0_5_5 : AX 40 52 (fun f => 5 ≤ (f (Int32.toNatClampNeg v_39)).toInt ∧ (f (Int32.toNatClampNeg v_39)).toInt ≤ 5) Ps ws p0 := AX.imp ((hp_v_48.2.2 c9_v_48).2.1) (fun _ h9 => h9.2.1)
                        have x_LE_p0_v_39_1_0_5 : AX 40 52 (fun f => 0 ≤ (f (Int32.toNatClampNeg v_39 + 1)).toInt ∧ (f (Int32.toNatClampNeg v_39 + 1)).toInt ≤ 5) Ps ws p0 := AX.imp ((hp_v_48.2.2 c9_v_48).2.1) (fun _ h9 => h9.2.2.1)
                        have x_LE_p0_v_39_2_0_0 : AX 40 52 (fun f => 0 ≤ (f (Int32.toNatClampNeg v_39 + 2)).toInt ∧ (f (Int32.toNatClampNeg v_39 + 2)).toInt ≤ 0) Ps ws p0 := AX.imp ((hp_v_48.2.2 c9_v_48).2.1) (fun _ h9 => h9.2.2.2.1)
                        refine lv_if_ne (tgt := 265) hx hb dX10_readBookLine_260 (by decide) (fun c_260 => ?_) (fun c_260 => ?_)
                        · refine lv_iload_n hx hb dX10_readBookLine_265 rfl (lv_at hl 4 rfl) ?_
                          refine lv_if_ne (tgt := 292) hx hb dX10_readBookLine_266 (by decide) (fun c_266 => ?_) (fun c_266 => ?_)
                          · exact absurd (r_v_1.eq.trans rl_0.eq.symm) ((ti_ne c_266))
                          · refine lv_aload_n hx hb dX10_readBookLine_269 rfl (lv_at hl 5 rfl) ?_
                            refine lv_iload hx hb dX10_readBookLine_270 (lv_at hl 0 rfl) ?_
                            refine lv_iconst (v := 2) hx hb dX10_readBookLine_272 (by decide) ?_
                            refine lv_iadd hx hb dX10_readBookLine_273 (lv_topi (fun v_50 e_v_50 => ?_))
                            obtain ⟨t_v_50, r_v_50⟩ := tq_add (lo := 2) (hi := 119) r_v_39 rl_2 (by decide +kernel) e_v_50
                            have t_v_50 : v_50.toInt = v_39.toInt + 2 := t_v_50
                            refine lv_aload_n hx hb dX10_readBookLine_274 rfl (lv_at hl 5 rfl) ?_
                            refine lv_bipush (v := 6) hx hb dX10_readBookLine_275 (by decide) ?_
                            refine lv_aload_n hx hb dX10_readBookLine_277 rfl (lv_at hl 5 rfl) ?_
                            refine tg_get (ci := 10) (ts := ty_MODEL) (C := RX10) (T := TX10) (N := 49) hx hb hts inX10 hown hK hw h_p0 rfl rfl 14 (by decide) (hts _ tw_1151) (fun _ h9 => h9) (ft := vR 34) rfl dX10_readBookLine_278 (fun u_51 hv_u_51 m_u_51 => ?_)
                            obtain ⟨vu_51, rfl, h_vu_51⟩ := hv_u_51
                            refine lv_iconst (v := 1) hx hb dX10_readBookLine_281 (by decide) ?_
                            refine tg_iald (lo := 0) (hi := 4) hx hb hK hw h_vu_51 rfl 1 1 rl_1 (by decide) (by decide +kernel) dX10_readBookLine_282 (fun v_52 r_v_52 m_v_52 o_v_52 => ?_)
                            have hw8 := hw
                            refine tk_i (va_runV (As := [.int 6, .int v_52]) (rest := [.int v_50, .ref p0]) ⟨hx, hb, hml, hown, hts⟩ (c_X10_readNamed__2 l D cy z H.size Ps ws hw.1 p0 6 v_52 h_p0 rl_6 r_v_52) (cwV 2 hts (gV tw_1723 tw_1725 ts_106 tw_15 tw_1726) rfl rfl rfl (by decide +kernel) ⟨Nat.le_of_ble_eq_true rfl, Nat.le_of_ble_eq_true rfl⟩) (tg_preV hw hK hSD hA (ci := 10) (q := (RX10, TX10, 49)) rfl h_p0 rfl) rfl rfl hl.1 rfl (lv_room (Nat.le_of_ble_eq_true rfl)) dX10_readBookLine_283 ⟨Nat.le_of_ble_eq_true rfl, Nat.le_of_ble_eq_true rfl⟩) hw hA ⟨by decide, by decide⟩ (fun v_53 ws H locs hp_v_53 hw hF9 => ?_)
                            have m_v_52 := AEL.over hw8 hF9 h_vu_51 m_v_52 (by decide)
                            have m_u_38 := FLD.over hF9 m_u_38 (by decide)
                            have m_u_40 := FLD.over hF9 m_u_40 (by decide)
                            have m_u_51 := FLD.over hF9 m_u_51 (by decide)
                            have x_OL_p0_v_39 := AX.over hF9 x_OL_p0_v_39 (by decide)
                            have x_LE_p0_v_39_0_5_5 := AX.over hF9 x_LE_p0_v_39_0_5_5 (by decide)
                            have x_LE_p0_v_39_1_0_5 := AX.over hF9 x_LE_p0_v_39_1_0_5 (by decide)
                            have x_LE_p0_v_39_2_0_0 := AX.over hF9 x_LE_p0_v_39_2_0_0 (by decide)
                            have r_v_53 : RI v_53 0 1 := hp_v_53.1
                            by_cases c9_v_53 : v_53 = 0
                            · have r_v_53 : RI v_53 0 0 := by rw [c9_v_53]; exact rl_0
                              refine tk_ir (va_runV (As := [.int v_50, .int v_53]) (rest := []) ⟨hx, hb, hml, hown, hts⟩ (c_X10_keep l D cy z H.size Ps ws hw.1 p0 v_50 v_53 (fun f => OLp f v_39 ∧ (5 ≤ (f (Int32.toNatClampNeg v_39)).toInt ∧ (f (Int32.toNatClampNeg v_39)).toInt ≤ 5) ∧ (0 ≤ (f (Int32.toNatClampNeg v_39 + 1)).toInt ∧ (f (Int32.toNatClampNeg v_39 + 1)).toInt ≤ 5) ∧ (0 ≤ (f (Int32.toNatClampNeg v_39 + 2)).toInt ∧ (f (Int32.toNatClampNeg v_39 + 2)).toInt ≤ 0) ∧ True) (fun f => OLp f v_39 ∧ (5 ≤ (f (Int32.toNatClampNeg v_39)).toInt ∧ (f (Int32.toNatClampNeg v_39)).toInt ≤ 5) ∧ (0 ≤ (f (Int32.toNatClampNeg v_39 + 1)).toInt ∧ (f (Int32.toNatClampNeg v_39 + 1)).toInt ≤ 5) ∧ ((-2147483648) ≤ (f (Int32.toNatClampNeg v_39 + 2)).toInt ∧ (f (Int32.toNatClampNeg v_39 + 2)).toInt ≤ 2147483647) ∧ True) h_p0 r_v_50 r_v_53 (AX.and hw x_OL_p0_v_39 (AX.and hw x_LE_p0_v_39_0_5_5 (AX.and hw x_LE_p0_v_39_1_0_5 (AX.and hw x_LE_p0_v_39_2_0_0 (lx_true hw h_p0))))) (fun f9 v9 hv9 H9 => ⟨(have h9 := H9.1; OL_upd h9 g_at (by have k1 := r_v_50.cl (by decide); have k2 := r_v_39.1; omega)), (have h9 := H9.2.1; by have j9 : Int32.toNatClampNeg v_50 = Int32.toNatClampNeg v_39 + 2 := (by have k1 := r_v_50.cl (by decide); have k2 := r_v_39.cl (by decide); omega); show _ ∧ _; rw [pk_un (by omega)]; exact h9), (have h9 := H9.2.2.1; by have j9 : Int32.toNatClampNeg v_50 = Int32.toNatClampNeg v_39 + 2 := (by have k1 := r_v_50.cl (by decide); have k2 := r_v_39.cl (by decide); omega); show _ ∧ _; rw [pk_un (by omega)]; exact h9), (have h9 := H9.2.2.2.1; by have j9 : Int32.toNatClampNeg v_50 = Int32.toNatClampNeg v_39 + 2 := (by have k1 := r_v_50.cl (by decide); have k2 := r_v_39.cl (by decide); omega); show _ ∧ _; rw [← j9, pk_us]; exact hv9), trivial⟩)) (cwV 2 hts (gV tw_1727 tw_1729 ts_107 tw_15 tw_1730) rfl rfl rfl (by decide +kernel) ⟨Nat.le_of_ble_eq_true rfl, Nat.le_of_ble_eq_true rfl⟩) (tg_preV hw hK hSD hA (ci := 10) (q := (RX10, TX10, 49)) rfl h_p0 rfl) rfl rfl hl.1 rfl (lv_room (Nat.le_of_ble_eq_true rfl)) dX10_readBookLine_286 ⟨Nat.le_of_ble_eq_true rfl, Nat.le_of_ble_eq_true rfl⟩) hw hA (fun v_54  H locs hp_v_54 hw => ?_)
                              have r_v_54 : RI v_54 0 0 := hp_v_54.1
                              by_cases c9_v_54 : v_54 = 0
                              · have r_v_54 : RI v_54 0 0 := by rw [c9_v_54]; exact rl_0
                                have x_OL_p0_v_39 : AX 40 52 (fun f => OLp f v_39) Ps ws p0 := AX.imp ((hp_v_54.2.1 c9_v_54).1) (fun _ h9 => h9.1)
                                have x_LE_p0_v_39_0_5_5 : AX 40 52 (fun f => 5 ≤ (f (Int32.toNatClampNeg v_39)).toInt ∧ (f (Int32.toNatClampNeg v_39)).toInt ≤ 5) Ps ws p0 := AX.imp ((hp_v_54.2.1 c9_v_54).1) (fun _ h9 => h9.2.1)
                                have x_LE_p0_v_39_1_0_5 : AX 40 52 (fun f => 0 ≤ (f (Int32.toNatClampNeg v_39 + 1)).toInt ∧ (f (Int32.toNatClampNeg v_39 + 1)).toInt ≤ 5) Ps ws p0 := AX.imp ((hp_v_54.2.1 c9_v_54).1) (fun _ h9 => h9.2.2.1)
                                have x_LE_p0_v_39_2_0_0 : AX 40 52 (fun f => 0 ≤ (f (Int32.toNatClampNeg v_39 + 2)).toInt ∧ (f (Int32.toNatClampNeg v_39 + 2)).toInt ≤ 0) Ps ws p0 := AX.imp ((hp_v_54.2.1 c9_v_54).1) (fun _ h9 => h9.2.2.2.1)
                                refine lv_if_eq (tgt := 303) hx hb dX10_readBookLine_289 (by decide) (fun c_289 => ?_) (fun c_289 => ?_)
                                · refine lv_iconst (v := 0) hx hb dX10_readBookLine_303 (by decide) ?_
                                  subst hQ
                                  exact W.zret (v := 0) hx hb hr (rfl) (fun t ht hW => ⟨⟨0, ws, rfl, ⟨⟨rl_0.to (by decide), (fun h0 => trivial), (fun h0 => absurd rfl h0)⟩, hw.1, hw.2.2.2.2.1⟩, by rw [ht]; exact hw.2.1, va_K.moved hW.alike hK, hw.2.2.1⟩, hw.2.2.2.1.F ht⟩) hw.2.2.2.1.2.2 dX10_readBookLine_304
                                · exact absurd (r_v_54.eq.trans rl_0.eq.symm) ((ti_ne c_289))
                              · exact absurd (Int32.toInt_inj.mp (by rw [Int32.toInt_zero]; unfold RI at r_v_54; omega)) c9_v_54
                            · have r_v_53 : RI v_53 1 1 := rc_neL r_v_53 rl_0 (ti_ne c9_v_53) (by decide)
                              have r_v_52 : RI v_52 1 4 := ((hp_v_53.2.2 c9_v_53).1)
                              obtain ⟨v_55, m_v_55, r_v_55⟩ := ((hp_v_53.2.2 c9_v_53).2.1)
                              have hw8 := hw
                              refine tk_i (va_runV (As := [.int v_50, .int v_53]) (rest := []) ⟨hx, hb, hml, hown, hts⟩ (c_X10_keep__5 l D cy z H.size Ps ws hw.1 p0 v_50 v_53 v_55 (fun f => OLp f v_39 ∧ (5 ≤ (f (Int32.toNatClampNeg v_39)).toInt ∧ (f (Int32.toNatClampNeg v_39)).toInt ≤ 5) ∧ (0 ≤ (f (Int32.toNatClampNeg v_39 + 1)).toInt ∧ (f (Int32.toNatClampNeg v_39 + 1)).toInt ≤ 5) ∧ (0 ≤ (f (Int32.toNatClampNeg v_39 + 2)).toInt ∧ (f (Int32.toNatClampNeg v_39 + 2)).toInt ≤ 0) ∧ True) (fun f => OLp f v_39 ∧ (5 ≤ (f (Int32.toNatClampNeg v_39)).toInt ∧ (f (Int32.toNatClampNeg v_39)).toInt ≤ 5) ∧ (0 ≤ (f (Int32.toNatClampNeg v_39 + 1)).toInt ∧ (f (Int32.toNatClampNeg v_39 + 1)).toInt ≤ 5) ∧ (0 ≤ (f (Int32.toNatClampNeg v_39 + 2)).toInt ∧ (f (Int32.toNatClampNeg v_39 + 2)).toInt ≤ 3) ∧ True) h_p0 r_v_50 r_v_53 r_v_55 m_v_55 (AX.and hw x_OL_p0_v_39 (AX.and hw x_LE_p0_v_39_0_5_5 (AX.and hw x_LE_p0_v_39_1_0_5 (AX.and hw x_LE_p0_v_39_2_0_0 (lx_true hw h_p0))))) (fun f9 v9 hv9 H9 => ⟨(have h9 := H9.1; OL_upd h9 g_at (by have k1 := r_v_50.cl (by decide); have k2 := r_v_39.1; omega)), (have h9 := H9.2.1; by have j9 : Int32.toNatClampNeg v_50 = Int32.toNatClampNeg v_39 + 2 := (by have k1 := r_v_50.cl (by decide); have k2 := r_v_39.cl (by decide); omega); show _ ∧ _; rw [pk_un (by omega)]; exact h9), (have h9 := H9.2.2.1; by have j9 : Int32.toNatClampNeg v_50 = Int32.toNatClampNeg v_39 + 2 := (by have k1 := r_v_50.cl (by decide); have k2 := r_v_39.cl (by decide); omega); show _ ∧ _; rw [pk_un (by omega)]; exact h9), (have h9 := H9.2.2.2.1; by have j9 : Int32.toNatClampNeg v_50 = Int32.toNatClampNeg v_39 + 2 := (by have k1 := r_v_50.cl (by decide); have k2 := r_v_39.cl (by decide); omega); show _ ∧ _; rw [← j9, pk_us]; exact hv9), trivial⟩)) (cwV 2 hts (gV tw_1727 tw_1729 ts_107 tw_15 tw_1730) rfl rfl rfl (by decide +kernel) ⟨Nat.le_of_ble_eq_true rfl, Nat.le_of_ble_eq_true rfl⟩) (tg_preV hw hK hSD hA (ci := 10) (q := (RX10, TX10, 49)) rfl h_p0 rfl) rfl rfl hl.1 rfl (lv_room (Nat.le_of_ble_eq_true rfl)) dX10_readBookLine_286 ⟨Nat.le_of_ble_eq_true rfl, Nat.le_of_ble_eq_true rfl⟩) hw hA ⟨by decide, by decide⟩ (fun v_56 ws H locs hp_v_56 hw hF9 => ?_)
                              have m_v_52 := AEL.over hw8 hF9 h_vu_51 m_v_52 (by decide)
                              have m_u_38 := FLD.over hF9 m_u_38 (by decide)
                              have m_u_40 := FLD.over hF9 m_u_40 (by decide)
                              have m_u_51 := FLD.over hF9 m_u_51 (by decide)
                              have m_v_55 := FLD.over hF9 m_v_55 (by decide)
                              have r_v_56 : RI v_56 1 1 := hp_v_56.1
                              by_cases c9_v_56 : v_56 = 0
                              · exact absurd (ti_eq c9_v_56) (by unfold RI at r_v_56; rw [Int32.toInt_zero]; omega)
                              · obtain ⟨v_57, m_v_57, r_v_57⟩ := ((hp_v_56.2.2 c9_v_56).1)
                                have x_OL_p0_v_39 : AX 40 52 (fun f => OLp f v_39) Ps ws p0 := AX.imp ((hp_v_56.2.2 c9_v_56).2.1) (fun _ h9 => h9.1)
                                have x_LE_p0_v_39_0_5_5 : AX 40 52 (fun f => 5 ≤ (f (Int32.toNatClampNeg v_39)).toInt ∧ (f (Int32.toNatClampNeg v_39)).toInt ≤ 5) Ps ws p0 := AX.imp ((hp_v_56.2.2 c9_v_56).2.1) (fun _ h9 => h9.2.1)
                                have x_LE_p0_v_39_1_0_5 : AX 40 52 (fun f => 0 ≤ (f (Int32.toNatClampNeg v_39 + 1)).toInt ∧ (f (Int32.toNatClampNeg v_39 + 1)).toInt ≤ 5) Ps ws p0 := AX.imp ((hp_v_56.2.2 c9_v_56).2.1) (fun _ h9 => h9.2.2.1)
                                have x_LE_p0_v_39_2_0_3 : AX 40 52 (fun f => 0 ≤ (f (Int32.toNatClampNeg v_39 + 2)).toInt ∧ (f (Int32.toNatClampNeg v_39 + 2)).toInt ≤ 3) Ps ws p0 := AX.imp ((hp_v_56.2.2 c9_v_56).2.1) (fun _ h9 => h9.2.2.2.1)
                                refine lv_if_eq (tgt := 303) hx hb dX10_readBookLine_289 (by decide) (fun c_289 => ?_) (fun c_289 => ?_)
                                · have r_v_56 : RI v_56 1 0 := rc_eq1 r_v_56 rl_0 (ti_eq c_289) (by decide)
                                  exact (r_v_56.no (by decide)).elim
                                · refine lv_aload_n hx hb dX10_readBookLine_292 rfl (lv_at hl 5 rfl) ?_
                                  have hw8 := hw
                                  refine tk_i (va_runV (As := []) (rest := []) ⟨hx, hb, hml, hown, hts⟩ (c_X10_readEnd l D cy z H.size Ps ws hw.1 p0 h_p0) (cwV 0 hts (gV tw_1409 tw_1411 ts_62 tw_15 tw_1412) rfl rfl rfl (by decide +kernel) ⟨Nat.le_of_ble_eq_true rfl, Nat.le_of_ble_eq_true rfl⟩) (tg_preV hw hK hSD hA (ci := 10) (q := (RX10, TX10, 49)) rfl h_p0 rfl) rfl rfl hl.1 rfl (lv_room (Nat.le_of_ble_eq_true rfl)) dX10_readBookLine_293 ⟨Nat.le_of_ble_eq_true rfl, Nat.le_of_ble_eq_true rfl⟩) hw hA ⟨by decide, by decide⟩ (fun v_58 ws H locs hp_v_58 hw hF9 => ?_)
                                  have m_v_52 := AEL.over hw8 hF9 h_vu_51 m_v_52 (by decide)
                                  have m_u_38 := FLD.over hF9 m_u_38 (by decide)
                                  have m_u_40 := FLD.over hF9 m_u_40 (by decide)
                                  have m_u_51 := FLD.over hF9 m_u_51 (by decide)
                                  have m_v_57 := FLD.over hF9 m_v_57 (by decide)
                                  have x_OL_p0_v_39 := AX.over hF9 x_OL_p0_v_39 (by decide)
                                  have x_LE_p0_v_39_0_5_5 := AX.over hF9 x_LE_p0_v_39_0_5_5 (by decide)
                                  have x_LE_p0_v_39_1_0_5 := AX.over hF9 x_LE_p0_v_39_1_0_5 (by decide)
                                  have x_LE_p0_v_39_2_0_3 := AX.over hF9 x_LE_p0_v_39_2_0_3 (by decide)
                                  have r_v_58 : RI v_58 0 1 := hp_v_58.1
                                  refine lv_if_eq (tgt := 303) hx hb dX10_readBookLine_296 (by decide) (fun c_296 => ?_) (fun c_296 => ?_)
                                  · have r_v_58 : RI v_58 0 0 := rc_eq1 r_v_58 rl_0 (ti_eq c_296) (by decide)
                                    refine lv_iconst (v := 0) hx hb dX10_readBookLine_303 (by decide) ?_
                                    subst hQ
                                    exact W.zret (v := 0) hx hb hr (rfl) (fun t ht hW => ⟨⟨0, ws, rfl, ⟨⟨rl_0.to (by decide), (fun h0 => trivial), (fun h0 => absurd rfl h0)⟩, hw.1, hw.2.2.2.2.1⟩, by rw [ht]; exact hw.2.1, va_K.moved hW.alike hK, hw.2.2.1⟩, hw.2.2.2.1.F ht⟩) hw.2.2.2.1.2.2 dX10_readBookLine_304
                                  · have r_v_58 : RI v_58 1 1 := rc_neL r_v_58 rl_0 (ti_ne c_296) (by decide)
                                    have x_L9 := AX.and hw x_LE_p0_v_39_0_5_5 (AX.and hw x_LE_p0_v_39_1_0_5 x_LE_p0_v_39_2_0_3)
                                    have x_GL_p0_v_39 : AX 40 52 (fun f => GLk f (Int32.toNatClampNeg v_39)) Ps ws p0 := AX.imp x_L9 (fun f9 h9 => ⟨⟨by have k1 := h9.1.1; omega, by have k1 := h9.1.2; omega⟩, by have k1 := h9.1.1; have k2 := h9.2.1.2; omega, by have k3 := h9.2.2.2; omega⟩)
                                    have x_LNG_p0 : LNG Ps ws p0 := LNG.mk m_u_38 (by have k1 := t_v_39; omega) r_vu_38.1 (AX.and hw x_OL_p0_v_39 x_GL_p0_v_39)
                                    refine lv_iconst (v := 1) hx hb dX10_readBookLine_299 (by decide) ?_
                                    refine lv_goto (tgt := 304) hx hb dX10_readBookLine_300 (by decide) ?_
                                    subst hQ
                                    exact W.zret (v := 1) hx hb hr (rfl) (fun t ht hW => ⟨⟨1, ws, rfl, ⟨⟨rl_1.to (by decide), (fun _ => trivial), (fun h0 => ⟨⟨_, m_u_38, r_vu_38⟩, x_LNG_p0, trivial⟩)⟩, hw.1, hw.2.2.2.2.1⟩, by rw [ht]; exact hw.2.1, va_K.moved hW.alike hK, hw.2.2.1⟩, hw.2.2.2.1.F ht⟩) hw.2.2.2.1.2.2 dX10_readBookLine_304
                        · have r_v_48 : RI v_48 1 0 := rc_eq1 r_v_48 rl_0 (ti_eq c_260) (by decide)
                          exact (r_v_48.no (by decide)).elim
                  · exact absurd (r_v_37.eq.trans rl_0.eq.symm) ((ti_ne c_214))
              · exact absurd (r_v_1.eq.trans rl_0.eq.symm) ((ti_ne c_117))
            · have r_vu_38 : RI vu_38 40 40 := rc_eq1 r_vu_38 rl_40 (ti_eq c_93) (by decide)
              refine lv_aload_n hx hb dX10_readBookLine_96 rfl (lv_at hl 4 rfl) ?_
              refine lv_iconst (v := 4) hx hb dX10_readBookLine_97 (by decide) ?_
              refine tk_i (va_runV (As := [.int 4]) (rest := []) ⟨hx, hb, hml, hown, hts⟩ (c_X10_bad l D cy z H.size Ps w0 hw.1 p0 4 h_p0 (rl_4.to (by decide))) (cwV 1 hts (gV tw_1336 tw_1338 ts_46 tw_15 tw_1339) rfl rfl rfl (by decide +kernel) ⟨Nat.le_of_ble_eq_true rfl, Nat.le_of_ble_eq_true rfl⟩) (tg_preV hw hK hSD hA (ci := 10) (q := (RX10, TX10, 49)) rfl h_p0 rfl) rfl rfl hl.1 rfl (lv_room (Nat.le_of_ble_eq_true rfl)) dX10_readBookLine_98 ⟨Nat.le_of_ble_eq_true rfl, Nat.le_of_ble_eq_true rfl⟩) hw hA ⟨by decide, by decide⟩ (fun v_59 ws H locs hp_v_59 hw hF9 => ?_)
              have m_u_38 := FLD.over hF9 m_u_38 (by decide)
              have x_LNS_p0 := LNS.over hF9 x_LNS_p0 (by decide)
              have x_WRD_p0_1627639 := WRD.over hF9 x_WRD_p0_1627639 (by decide)
              have r_v_59 : RI v_59 0 0 := hp_v_59.1
              subst hQ
              exact W.zret (v := v_59) hx hb hr (tq_nz (r_v_59.to (by decide))) (fun t ht hW => ⟨⟨v_59, ws, rfl, ⟨⟨r_v_59.to (by decide), (fun h0 => trivial), (fun h0 => absurd (Int32.toInt_inj.mp (by have h8 := r_v_59; unfold RI at h8; rw [Int32.toInt_zero]; omega)) h0)⟩, hw.1, hw.2.2.2.2.1⟩, by rw [ht]; exact hw.2.1, va_K.moved hW.alike hK, hw.2.2.1⟩, hw.2.2.2.1.F ht⟩) hw.2.2.2.1.2.2 dX10_readBookLine_101
          · have r_v_2 : RI v_2 1 0 := rc_eq1 r_v_2 rl_0 (ti_eq c_26) (by decide)
            exact (r_v_2.no (by decide)).elim
      · have r_v_37 : RI v_37 1 1 := rc_neL r_v_37 rl_0 (ti_ne c9_v_37) (by decide)
        have x_WRD_p0_2968 := ((hp_v_37.2.2 c9_v_37).1)
        exact (WRD.no hw x_WRD_p0_2968 x_WRD_p0_1627639 (by decide)).elim
  · have r_v_1 : RI v_1 1 1 := rc_neL r_v_1 rl_0 (ti_ne c9_v_1) (by decide)
    have x_WRD_p0_307058 := ((hp_v_1.2.2 c9_v_1).1)
    refine lv_istore_n (lv' := [(1, .int v_1), (0, .ref p0)]) hx hb dX10_readBookLine_6 rfl hl (by decide) rfl (fun ls hl => ?_)
    refine lv_aload_n hx hb dX10_readBookLine_7 rfl (lv_at hl 1 rfl) ?_
    refine lv_bipush (v := 14) hx hb dX10_readBookLine_8 (by decide) ?_
    refine tk_ir (va_runV (As := [.int 14]) (rest := []) ⟨hx, hb, hml, hown, hts⟩ (c_X10_isWord__2 l D cy z H.size Ps w0 hw.1 p0 14 h_p0 rl_14) (cwV 1 hts (gV tw_1318 tw_1320 ts_43 tw_15 tw_1321) rfl rfl rfl (by decide +kernel) ⟨Nat.le_of_ble_eq_true rfl, Nat.le_of_ble_eq_true rfl⟩) (tg_preV hw hK hSD hA (ci := 10) (q := (RX10, TX10, 49)) rfl h_p0 rfl) rfl rfl hl.1 rfl (lv_room (Nat.le_of_ble_eq_true rfl)) dX10_readBookLine_10 ⟨Nat.le_of_ble_eq_true rfl, Nat.le_of_ble_eq_true rfl⟩) hw hA (fun v_60  H locs hp_v_60 hw => ?_)
    have r_v_60 : RI v_60 0 1 := hp_v_60.1
    by_cases c9_v_60 : v_60 = 0
    · have r_v_60 : RI v_60 0 0 := by rw [c9_v_60]; exact rl_0
      refine lv_istore_n (lv' := [(2, .int v_60), (1, .int v_1), (0, .ref p0)]) hx hb dX10_readBookLine_13 rfl hl (by decide) rfl (fun ls hl => ?_)
      refine lv_aload_n hx hb dX10_readBookLine_14 rfl (lv_at hl 2 rfl) ?_
      refine lv_bipush (v := 15) hx hb dX10_readBookLine_15 (by decide) ?_
      refine tk_ir (va_runV (As := [.int 15]) (rest := []) ⟨hx, hb, hml, hown, hts⟩ (c_X10_isWord__3 l D cy z H.size Ps w0 hw.1 p0 15 h_p0 rl_15) (cwV 1 hts (gV tw_1318 tw_1320 ts_43 tw_15 tw_1321) rfl rfl rfl (by decide +kernel) ⟨Nat.le_of_ble_eq_true rfl, Nat.le_of_ble_eq_true rfl⟩) (tg_preV hw hK hSD hA (ci := 10) (q := (RX10, TX10, 49)) rfl h_p0 rfl) rfl rfl hl.1 rfl (lv_room (Nat.le_of_ble_eq_true rfl)) dX10_readBookLine_17 ⟨Nat.le_of_ble_eq_true rfl, Nat.le_of_ble_eq_true rfl⟩) hw hA (fun v_61  H locs hp_v_61 hw => ?_)
      have r_v_61 : RI v_61 0 1 := hp_v_61.1
      by_cases c9_v_61 : v_61 = 0
      · have r_v_61 : RI v_61 0 0 := by rw [c9_v_61]; exact rl_0
        refine lv_istore_n (lv' := [(3, .int v_61), (2, .int v_60), (1, .int v_1), (0, .ref p0)]) hx hb dX10_readBookLine_20 rfl hl (by decide) rfl (fun ls hl => ?_)
        refine lv_iload_n hx hb dX10_readBookLine_21 rfl (lv_at hl 2 rfl) ?_
        refine lv_if_ne (tgt := 37) hx hb dX10_readBookLine_22 (by decide) (fun c_22 => ?_) (fun c_22 => ?_)
        · refine lv_iconst (v := 0) hx hb dX10_readBookLine_37 (by decide) ?_
          refine lv_istore (lv' := [(4, .int 0), (3, .int v_61), (2, .int v_60), (1, .int v_1), (0, .ref p0)]) hx hb dX10_readBookLine_38 hl (by decide) rfl (fun ls hl => ?_)
          refine lv_iload hx hb dX10_readBookLine_40 (lv_at hl 0 rfl) ?_
          refine lv_if_eq (tgt := 87) hx hb dX10_readBookLine_42 (by decide) (fun _ => ?_) (fun c9 => absurd (by decide) c9)
          refine lv_aload_n hx hb dX10_readBookLine_87 rfl (lv_at hl 4 rfl) ?_
          refine tg_get (ci := 10) (ts := ty_MODEL) (C := RX10) (T := TX10) (N := 49) hx hb hts inX10 hown hK hw h_p0 rfl rfl 42 (by decide) (hts _ tw_1179) (fun _ h9 => h9) (ft := vI 0 40) rfl dX10_readBookLine_88 (fun u_62 hv_u_62 m_u_62 => ?_)
          obtain ⟨vu_62, rfl, r_vu_62⟩ := hv_u_62
          refine lv_bipush (v := 40) hx hb dX10_readBookLine_91 (by decide) ?_
          refine lv_icmp_ne (tgt := 102) hx hb dX10_readBookLine_93 (by decide) (fun c_93 => ?_) (fun c_93 => ?_)
          · have r_vu_62 : RI vu_62 0 39 := rc_neU r_vu_62 rl_40 (ti_ne c_93) (by decide)
            refine lv_iconst (v := 3) hx hb dX10_readBookLine_102 (by decide) ?_
            refine lv_aload_n hx hb dX10_readBookLine_103 rfl (lv_at hl 4 rfl) ?_
            refine tg_mem (ci := 10) (C := RX10) (T := TX10) (N := 49) hx hb hts inX10 hown hK hw 42 m_u_62 rfl (by decide) (hts _ tw_1179) (fun _ h9 => h9) dX10_readBookLine_104 ?_
            refine lv_imul hx hb dX10_readBookLine_107 (lv_topi (fun v_63 e_v_63 => ?_))
            obtain ⟨t_v_63, r_v_63⟩ := tq_mul (lo := 0) (hi := 117) rl_3 r_vu_62 (by decide +kernel) e_v_63
            have t_v_63 : v_63.toInt = 3 * vu_62.toInt := t_v_63
            refine lv_istore (lv' := [(5, .int v_63), (4, .int 0), (3, .int v_61), (2, .int v_60), (1, .int v_1), (0, .ref p0)]) hx hb dX10_readBookLine_108 hl (by decide) rfl (fun ls hl => ?_)
            have x_OL_p0_v_63 : AX 40 52 (fun f => OLp f v_63) Ps w0 p0 := LNS.ol hw x_LNS_p0 m_u_62 (by have k1 := t_v_63; omega)
            have x_MUL3_v_63 : (∃ n : Int, Int32.toInt v_63 = 3 * n) := ⟨vu_62.toInt, by have k1 := t_v_63; omega⟩
            have g_at := x_MUL3_v_63
            have x_LE_p0_v_63_0_0_60 : AX 40 52 (fun f => 0 ≤ (f (Int32.toNatClampNeg v_63)).toInt ∧ (f (Int32.toNatClampNeg v_63)).toInt ≤ 60) Ps w0 p0 := AX.imp (ax_of (k := 40) (t := 52) hw h_p0 rfl (fun _ => rfl)) (fun f9 h9 => h9.2 _ (by have k1 := r_v_63.cl (by decide); have k2 := r_v_63.2; omega))
            have x_LE_p0_v_63_1_0_60 : AX 40 52 (fun f => 0 ≤ (f (Int32.toNatClampNeg v_63 + 1)).toInt ∧ (f (Int32.toNatClampNeg v_63 + 1)).toInt ≤ 60) Ps w0 p0 := AX.imp (ax_of (k := 40) (t := 52) hw h_p0 rfl (fun _ => rfl)) (fun f9 h9 => h9.2 _ (by have k1 := r_v_63.cl (by decide); have k2 := r_v_63.2; omega))
            have x_LE_p0_v_63_2_0_60 : AX 40 52 (fun f => 0 ≤ (f (Int32.toNatClampNeg v_63 + 2)).toInt ∧ (f (Int32.toNatClampNeg v_63 + 2)).toInt ≤ 60) Ps w0 p0 := AX.imp (ax_of (k := 40) (t := 52) hw h_p0 rfl (fun _ => rfl)) (fun f9 h9 => h9.2 _ (by have k1 := r_v_63.cl (by decide); have k2 := r_v_63.2; omega))
            refine lv_aload_n hx hb dX10_readBookLine_110 rfl (lv_at hl 5 rfl) ?_
            refine tg_get (ci := 10) (ts := ty_MODEL) (C := RX10) (T := TX10) (N := 49) hx hb hts inX10 hown hK hw h_p0 rfl rfl 40 (by decide) (hts _ tw_1177) (fun _ h9 => h9) (ft := vR 52) rfl dX10_readBookLine_111 (fun u_64 hv_u_64 m_u_64 => ?_)
            obtain ⟨vu_64, rfl, h_vu_64⟩ := hv_u_64
            refine lv_iload hx hb dX10_readBookLine_114 (lv_at hl 0 rfl) ?_
            refine lv_iload_n hx hb dX10_readBookLine_116 rfl (lv_at hl 4 rfl) ?_
            refine lv_if_eq (tgt := 124) hx hb dX10_readBookLine_117 (by decide) (fun c_117 => ?_) (fun c_117 => ?_)
            · have r_v_1 : RI v_1 1 0 := rc_eq1 r_v_1 rl_0 (ti_eq c_117) (by decide)
              exact (r_v_1.no (by decide)).elim
            · refine lv_iconst (v := 4) hx hb dX10_readBookLine_120 (by decide) ?_
              refine lv_goto (tgt := 134) hx hb dX10_readBookLine_121 (by decide) ?_
              refine tg_iast hx hb hK hw h_vu_64 rfl 0 117 r_v_63 (by decide) rl_4 (by exact fun _ _ _ => by decide) (fun _ _ _ _ _ => trivial) (by decide) dX10_readBookLine_134 (fun ws H locs hw hF9 hU9 => ?_)
              have x_OL_p0_v_63 : AX 40 52 (fun f => OLp f v_63) Ps ws p0 := AX.ast hF9 hU9 x_OL_p0_v_63 m_u_64 (fun f9 h9 => OL_upd h9 g_at (by have k1 := r_v_63.cl (by decide); have k2 := r_v_63.1; omega))
              have x_LE_p0_v_63_0_4_4 : AX 40 52 (fun f => 4 ≤ (f (Int32.toNatClampNeg v_63)).toInt ∧ (f (Int32.toNatClampNeg v_63)).toInt ≤ 4) Ps ws p0 := AX.ast hF9 hU9 x_LE_p0_v_63_0_0_60 m_u_64 (fun f9 h9 => by show _ ∧ _; rw [pk_us]; exact rl_4)
              have x_LE_p0_v_63_1_0_60 : AX 40 52 (fun f => 0 ≤ (f (Int32.toNatClampNeg v_63 + 1)).toInt ∧ (f (Int32.toNatClampNeg v_63 + 1)).toInt ≤ 60) Ps ws p0 := AX.ast hF9 hU9 x_LE_p0_v_63_1_0_60 m_u_64 (fun f9 h9 => by have j9 : Int32.toNatClampNeg v_63 = Int32.toNatClampNeg v_63 + 0 := (by have k1 := r_v_63.cl (by decide); have k2 := r_v_63.cl (by decide); omega); show _ ∧ _; rw [pk_un (by omega)]; exact h9)
              have x_LE_p0_v_63_2_0_60 : AX 40 52 (fun f => 0 ≤ (f (Int32.toNatClampNeg v_63 + 2)).toInt ∧ (f (Int32.toNatClampNeg v_63 + 2)).toInt ≤ 60) Ps ws p0 := AX.ast hF9 hU9 x_LE_p0_v_63_2_0_60 m_u_64 (fun f9 h9 => by have j9 : Int32.toNatClampNeg v_63 = Int32.toNatClampNeg v_63 + 0 := (by have k1 := r_v_63.cl (by decide); have k2 := r_v_63.cl (by decide); omega); show _ ∧ _; rw [pk_un (by omega)]; exact h9)
              have x_WRD_p0_307058 := WRD.over hF9 x_WRD_p0_307058 (by decide)
              have m_u_62 := FLD.over hF9 m_u_62 (by decide)
              have m_u_64 := FLD.over hF9 m_u_64 (by decide)
              refine lv_aload_n hx hb dX10_readBookLine_135 rfl (lv_at hl 5 rfl) ?_
              refine tg_mem (ci := 10) (C := RX10) (T := TX10) (N := 49) hx hb hts inX10 hown hK hw 40 m_u_64 rfl (by decide) (hts _ tw_1177) (fun _ h9 => h9) dX10_readBookLine_136 ?_
              refine lv_iload hx hb dX10_readBookLine_139 (lv_at hl 0 rfl) ?_
              refine lv_iconst (v := 1) hx hb dX10_readBookLine_141 (by decide) ?_
              refine lv_iadd hx hb dX10_readBookLine_142 (lv_topi (fun v_65 e_v_65 => ?_))
              obtain ⟨t_v_65, r_v_65⟩ := tq_add (lo := 1) (hi := 118) r_v_63 rl_1 (by decide +kernel) e_v_65
              have t_v_65 : v_65.toInt = v_63.toInt + 1 := t_v_65
              refine lv_iload hx hb dX10_readBookLine_143 (lv_at hl 1 rfl) ?_
              refine lv_if_eq (tgt := 170) hx hb dX10_readBookLine_145 (by decide) (fun _ => ?_) (fun c9 => absurd (by decide) c9)
              refine lv_iconst (v := 0) hx hb dX10_readBookLine_170 (by decide) ?_
              refine tg_iast hx hb hK hw h_vu_64 rfl 1 118 r_v_65 (by decide) rl_0 (by exact fun _ _ _ => by decide) (fun _ _ _ _ _ => trivial) (by decide) dX10_readBookLine_171 (fun ws H locs hw hF9 hU9 => ?_)
              have x_OL_p0_v_63 : AX 40 52 (fun f => OLp f v_63) Ps ws p0 := AX.ast hF9 hU9 x_OL_p0_v_63 m_u_64 (fun f9 h9 => OL_upd h9 g_at (by have k1 := r_v_65.cl (by decide); have k2 := r_v_63.1; omega))
              have x_LE_p0_v_63_0_4_4 : AX 40 52 (fun f => 4 ≤ (f (Int32.toNatClampNeg v_63)).toInt ∧ (f (Int32.toNatClampNeg v_63)).toInt ≤ 4) Ps ws p0 := AX.ast hF9 hU9 x_LE_p0_v_63_0_4_4 m_u_64 (fun f9 h9 => by have j9 : Int32.toNatClampNeg v_65 = Int32.toNatClampNeg v_63 + 1 := (by have k1 := r_v_65.cl (by decide); have k2 := r_v_63.cl (by decide); omega); show _ ∧ _; rw [pk_un (by omega)]; exact h9)
              have x_LE_p0_v_63_1_0_0 : AX 40 52 (fun f => 0 ≤ (f (Int32.toNatClampNeg v_63 + 1)).toInt ∧ (f (Int32.toNatClampNeg v_63 + 1)).toInt ≤ 0) Ps ws p0 := AX.ast hF9 hU9 x_LE_p0_v_63_1_0_60 m_u_64 (fun f9 h9 => by have j9 : Int32.toNatClampNeg v_65 = Int32.toNatClampNeg v_63 + 1 := (by have k1 := r_v_65.cl (by decide); have k2 := r_v_63.cl (by decide); omega); show _ ∧ _; rw [← j9, pk_us]; exact rl_0)
              have x_LE_p0_v_63_2_0_60 : AX 40 52 (fun f => 0 ≤ (f (Int32.toNatClampNeg v_63 + 2)).toInt ∧ (f (Int32.toNatClampNeg v_63 + 2)).toInt ≤ 60) Ps ws p0 := AX.ast hF9 hU9 x_LE_p0_v_63_2_0_60 m_u_64 (fun f9 h9 => by have j9 : Int32.toNatClampNeg v_65 = Int32.toNatClampNeg v_63 + 1 := (by have k1 := r_v_65.cl (by decide); have k2 := r_v_63.cl (by decide); omega); show _ ∧ _; rw [pk_un (by omega)]; exact h9)
              have x_WRD_p0_307058 := WRD.over hF9 x_WRD_p0_307058 (by decide)
              have m_u_62 := FLD.over hF9 m_u_62 (by decide)
              have m_u_64 := FLD.over hF9 m_u_64 (by decide)
              refine lv_aload_n hx hb dX10_readBookLine_172 rfl (lv_at hl 5 rfl) ?_
              refine tg_mem (ci := 10) (C := RX10) (T := TX10) (N := 49) hx hb hts inX10 hown hK hw 40 m_u_64 rfl (by decide) (hts _ tw_1177) (fun _ h9 => h9) dX10_readBookLine_173 ?_
              refine lv_iload hx hb dX10_readBookLine_176 (lv_at hl 0 rfl) ?_
              refine lv_iconst (v := 2) hx hb dX10_readBookLine_178 (by decide) ?_
              refine lv_iadd hx hb dX10_readBookLine_179 (lv_topi (fun v_66 e_v_66 => ?_))
              obtain ⟨t_v_66, r_v_66⟩ := tq_add (lo := 2) (hi := 119) r_v_63 rl_2 (by decide +kernel) e_v_66
              have t_v_66 : v_66.toInt = v_63.toInt + 2 := t_v_66
              refine lv_iconst (v := 0) hx hb dX10_readBookLine_180 (by decide) ?_
              refine tg_iast hx hb hK hw h_vu_64 rfl 2 119 r_v_66 (by decide) rl_0 (by exact fun _ _ _ => by decide) (fun _ _ _ _ _ => trivial) (by decide) dX10_readBookLine_181 (fun ws H locs hw hF9 hU9 => ?_)
              have x_OL_p0_v_63 : AX 40 52 (fun f => OLp f v_63) Ps ws p0 := AX.ast hF9 hU9 x_OL_p0_v_63 m_u_64 (fun f9 h9 => OL_upd h9 g_at (by have k1 := r_v_66.cl (by decide); have k2 := r_v_63.1; omega))
              have x_LE_p0_v_63_0_4_4 : AX 40 52 (fun f => 4 ≤ (f (Int32.toNatClampNeg v_63)).toInt ∧ (f (Int32.toNatClampNeg v_63)).toInt ≤ 4) Ps ws p0 := AX.ast hF9 hU9 x_LE_p0_v_63_0_4_4 m_u_64 (fun f9 h9 => by have j9 : Int32.toNatClampNeg v_66 = Int32.toNatClampNeg v_63 + 2 := (by have k1 := r_v_66.cl (by decide); have k2 := r_v_63.cl (by decide); omega); show _ ∧ _; rw [pk_un (by omega)]; exact h9)
              have x_LE_p0_v_63_1_0_0 : AX 40 52 (fun f => 0 ≤ (f (Int32.toNatClampNeg v_63 + 1)).toInt ∧ (f (Int32.toNatClampNeg v_63 + 1)).toInt ≤ 0) Ps ws p0 := AX.ast hF9 hU9 x_LE_p0_v_63_1_0_0 m_u_64 (fun f9 h9 => by have j9 : Int32.toNatClampNeg v_66 = Int32.toNatClampNeg v_63 + 2 := (by have k1 := r_v_66.cl (by decide); have k2 := r_v_63.cl (by decide); omega); show _ ∧ _; rw [pk_un (by omega)]; exact h9)
              have x_LE_p0_v_63_2_0_0 : AX 40 52 (fun f => 0 ≤ (f (Int32.toNatClampNeg v_63 + 2)).toInt ∧ (f (Int32.toNatClampNeg v_63 + 2)).toInt ≤ 0) Ps ws p0 := AX.ast hF9 hU9 x_LE_p0_v_63_2_0_60 m_u_64 (fun f9 h9 => by have j9 : Int32.toNatClampNeg v_66 = Int32.toNatClampNeg v_63 + 2 := (by have k1 := r_v_66.cl (by decide); have k2 := r_v_63.cl (by decide); omega); show _ ∧ _; rw [← j9, pk_us]; exact rl_0)
              have x_WRD_p0_307058 := WRD.over hF9 x_WRD_p0_307058 (by decide)
              have m_u_62 := FLD.over hF9 m_u_62 (by decide)
              have m_u_64 := FLD.over hF9 m_u_64 (by decide)
              refine lv_aload_n hx hb dX10_readBookLine_182 rfl (lv_at hl 5 rfl) ?_
              refine tk_v (va_runV (As := []) (rest := []) ⟨hx, hb, hml, hown, hts⟩ (c_X10_go l D cy z H.size Ps ws hw.1 p0 h_p0) (cwV 0 hts (gV tw_1298 tw_1300 ts_40 tw_15 tw_1301) rfl rfl rfl (by decide +kernel) ⟨Nat.le_of_ble_eq_true rfl, Nat.le_of_ble_eq_true rfl⟩) (tg_preV hw hK hSD hA (ci := 10) (q := (RX10, TX10, 49)) rfl h_p0 rfl) rfl rfl hl.1 rfl (lv_room (Nat.le_of_ble_eq_true rfl)) dX10_readBookLine_183 ⟨Nat.le_of_ble_eq_true rfl, Nat.le_of_ble_eq_true rfl⟩) hw hA ⟨by decide, by decide⟩ (fun ws H locs hp_v_67 hw hF9 => ?_)
              have m_u_62 := FLD.over hF9 m_u_62 (by decide)
              have m_u_64 := FLD.over hF9 m_u_64 (by decide)
              have x_OL_p0_v_63 := AX.over hF9 x_OL_p0_v_63 (by decide)
              have x_LE_p0_v_63_0_4_4 := AX.over hF9 x_LE_p0_v_63_0_4_4 (by decide)
              have x_LE_p0_v_63_1_0_0 := AX.over hF9 x_LE_p0_v_63_1_0_0 (by decide)
              have x_LE_p0_v_63_2_0_0 := AX.over hF9 x_LE_p0_v_63_2_0_0 (by decide)
              refine lv_iload hx hb dX10_readBookLine_186 (lv_at hl 1 rfl) ?_
              refine lv_if_eq (tgt := 213) hx hb dX10_readBookLine_188 (by decide) (fun _ => ?_) (fun c9 => absurd (by decide) c9)
              refine lv_iload_n hx hb dX10_readBookLine_213 rfl (lv_at hl 2 rfl) ?_
              refine lv_if_eq (tgt := 248) hx hb dX10_readBookLine_214 (by decide) (fun c_214 => ?_) (fun c_214 => ?_)
              · refine lv_aload_n hx hb dX10_readBookLine_248 rfl (lv_at hl 5 rfl) ?_
                refine lv_iload hx hb dX10_readBookLine_249 (lv_at hl 0 rfl) ?_
                refine lv_iconst (v := 1) hx hb dX10_readBookLine_251 (by decide) ?_
                refine lv_iadd hx hb dX10_readBookLine_252 (lv_topi (fun v_68 e_v_68 => ?_))
                obtain ⟨t_v_68, r_v_68⟩ := tq_add (lo := 1) (hi := 118) r_v_63 rl_1 (by decide +kernel) e_v_68
                have t_v_68 : v_68.toInt = v_63.toInt + 1 := t_v_68
                refine lv_aload_n hx hb dX10_readBookLine_253 rfl (lv_at hl 5 rfl) ?_
                refine tk_i (va_runV (As := []) (rest := [.int v_68, .ref p0]) ⟨hx, hb, hml, hown, hts⟩ (c_X10_readParcelName l D cy z H.size Ps ws hw.1 p0 h_p0) (cwV 0 hts (gV tw_1719 tw_1721 ts_105 tw_15 tw_1722) rfl rfl rfl (by decide +kernel) ⟨Nat.le_of_ble_eq_true rfl, Nat.le_of_ble_eq_true rfl⟩) (tg_preV hw hK hSD hA (ci := 10) (q := (RX10, TX10, 49)) rfl h_p0 rfl) rfl rfl hl.1 rfl (lv_room (Nat.le_of_ble_eq_true rfl)) dX10_readBookLine_254 ⟨Nat.le_of_ble_eq_true rfl, Nat.le_of_ble_eq_true rfl⟩) hw hA ⟨by decide, by decide⟩ (fun v_69 ws H locs hp_v_69 hw hF9 => ?_)
                have m_u_62 := FLD.over hF9 m_u_62 (by decide)
                have m_u_64 := FLD.over hF9 m_u_64 (by decide)
                have x_OL_p0_v_63 := AX.over hF9 x_OL_p0_v_63 (by decide)
                have x_LE_p0_v_63_0_4_4 := AX.over hF9 x_LE_p0_v_63_0_4_4 (by decide)
                have x_LE_p0_v_63_1_0_0 := AX.over hF9 x_LE_p0_v_63_1_0_0 (by decide)
                have x_LE_p0_v_63_2_0_0 := AX.over hF9 x_LE_p0_v_63_2_0_0 (by decide)
                have r_v_69 : RI v_69 0 1 := hp_v_69.1
                by_cases c9_v_69 : v_69 = 0
                · have r_v_69 : RI v_69 0 0 := by rw [c9_v_69]; exact rl_0
                  refine tk_ir (va_runV (As := [.int v_68, .int v_69]) (rest := []) ⟨hx, hb, hml, hown, hts⟩ (c_X10_keep__2 l D cy z H.size Ps ws hw.1 p0 v_68 v_69 (fun f => OLp f v_63 ∧ (4 ≤ (f (Int32.toNatClampNeg v_63)).toInt ∧ (f (Int32.toNatClampNeg v_63)).toInt ≤ 4) ∧ (0 ≤ (f (Int32.toNatClampNeg v_63 + 1)).toInt ∧ (f (Int32.toNatClampNeg v_63 + 1)).toInt ≤ 0) ∧ (0 ≤ (f (Int32.toNatClampNeg v_63 + 2)).toInt ∧ (f (Int32.toNatClampNeg v_63 + 2)).toInt ≤ 0) ∧ True) (fun f => OLp f v_63 ∧ (4 ≤ (f (Int32.toNatClampNeg v_63)).toInt ∧ (f (Int32.toNatClampNeg v_63)).toInt ≤ 4) ∧ ((-2147483648) ≤ (f (Int32.toNatClampNeg v_63 + 1)).toInt ∧ (f (Int32.toNatClampNeg v_63 + 1)).toInt ≤ 2147483647) ∧ (0 ≤ (f (Int32.toNatClampNeg v_63 + 2)).toInt ∧ (f (Int32.toNatClampNeg v_63 + 2)).toInt ≤ 0) ∧ True) h_p0 r_v_68 r_v_69 (AX.and hw x_OL_p0_v_63 (AX.and hw x_LE_p0_v_63_0_4_4 (AX.and hw x_LE_p0_v_63_1_0_0 (AX.and hw x_LE_p0_v_63_2_0_0 (lx_true hw h_p0))))) (fun f9 v9 hv9 H9 => ⟨(have h9 := H9.1; OL_upd h9 g_at (by have k1 := r_v_68.cl (by decide); have k2 := r_v_63.1; omega)), (have h9 := H9.2.1; by have j9 : Int32.toNatClampNeg v_68 = Int32.toNatClampNeg v_63 + 1 := (by have k1 := r_v_68.cl (by decide); have k2 := r_v_63.cl (by decide); omega); show _ ∧ _; rw [pk_un (by omega)]; exact h9), (have h9 := H9.2.2.1; by have j9 : Int32.toNatClampNeg v_68 = Int32.toNatClampNeg v_63 + 1 := (by have k1 := r_v_68.cl (by decide); have k2 := r_v_63.cl (by decide); omega); show _ ∧ _; rw [← j9, pk_us]; exact hv9), (have h9 := H9.2.2.2.1; by have j9 : Int32.toNatClampNeg v_68 = Int32.toNatClampNeg v_63 + 1 := (by have k1 := r_v_68.cl (by decide); have k2 := r_v_63.cl (by decide); omega); show _ ∧ _; rw [pk_un (by omega)]; exact h9), trivial⟩)) (cwV 2 hts (gV tw_1727 tw_1729 ts_107 tw_15 tw_1730) rfl rfl rfl (by decide +kernel) ⟨Nat.le_of_ble_eq_true rfl, Nat.le_of_ble_eq_true rfl⟩) (tg_preV hw hK hSD hA (ci := 10) (q := (RX10, TX10, 49)) rfl h_p0 rfl) rfl rfl hl.1 rfl (lv_room (Nat.le_of_ble_eq_true rfl)) dX10_readBookLine_257 ⟨Nat.le_of_ble_eq_true rfl, Nat.le_of_ble_eq_true rfl⟩) hw hA (fun v_70  H locs hp_v_70 hw => ?_)
                  have r_v_70 : RI v_70 0 0 := hp_v_70.1
                  by_cases c9_v_70 : v_70 = 0
                  · have r_v_70 : RI v_70 0 0 := by rw [c9_v_70]; exact rl_0
                    have x_OL_p0_v_63 : AX 40 52 (fun f => OLp f v_63) Ps ws p0 := AX.imp ((hp_v_70.2.1 c9_v_70).1) (fun _ h9 => h9.1)
                    have x_LE_p0_v_63_0_4_4 : AX 40 52 (fun f => 4 ≤ (f (Int32.toNatClampNeg v_63)).toInt ∧ (f (Int32.toNatClampNeg v_63)).toInt ≤ 4) Ps ws p0 := AX.imp ((hp_v_70.2.1 c9_v_70).1) (fun _ h9 => h9.2.1)
                    have x_LE_p0_v_63_1_0_0 : AX 40 52 (fun f => 0 ≤ (f (Int32.toNatClampNeg v_63 + 1)).toInt ∧ (f (Int32.toNatClampNeg v_63 + 1)).toInt ≤ 0) Ps ws p0 := AX.imp ((hp_v_70.2.1 c9_v_70).1) (fun _ h9 => h9.2.2.1)
                    have x_LE_p0_v_63_2_0_0 : AX 40 52 (fun f => 0 ≤ (f (Int32.toNatClampNeg v_63 + 2)).toInt ∧ (f (Int32.toNatClampNeg v_63 + 2)).toInt ≤ 0) Ps ws p0 := AX.imp ((hp_v_70.2.1 c9_v_70).1) (fun _ h9 => h9.2.2.2.1)
                    refine lv_if_ne (tgt := 265) hx hb dX10_readBookLine_260 (by decide) (fun c_260 => ?_) (fun c_260 => ?_)
                    · exact absurd (r_v_70.eq.trans rl_0.eq.symm) ((ti_ne c_260))
                    · refine lv_iconst (v := 0) hx hb dX10_readBookLine_263 (by decide) ?_
                      subst hQ
                      exact W.zret (v := 0) hx hb hr (rfl) (fun t ht hW => ⟨⟨0, ws, rfl, ⟨⟨rl_0.to (by decide), (fun h0 => trivial), (fun h0 => absurd rfl h0)⟩, hw.1, hw.2.2.2.2.1⟩, by rw [ht]; exact hw.2.1, va_K.moved hW.alike hK, hw.2.2.1⟩, hw.2.2.2.1.F ht⟩) hw.2.2.2.1.2.2 dX10_readBookLine_264
                  · exact absurd (Int32.toInt_inj.mp (by rw [Int32.toInt_zero]; unfold RI at r_v_70; omega)) c9_v_70
                · have r_v_69 : RI v_69 1 1 := rc_neL r_v_69 rl_0 (ti_ne c9_v_69) (by decide)
                  obtain ⟨v_71, m_v_71, r_v_71⟩ := ((hp_v_69.2.2 c9_v_69).1)
                  refine tk_i (va_runV (As := [.int v_68, .int v_69]) (rest := []) ⟨hx, hb, hml, hown, hts⟩ (c_X10_keep__4 l D cy z H.size Ps ws hw.1 p0 v_68 v_69 v_71 (fun f => OLp f v_63 ∧ (4 ≤ (f (Int32.toNatClampNeg v_63)).toInt ∧ (f (Int32.toNatClampNeg v_63)).toInt ≤ 4) ∧ (0 ≤ (f (Int32.toNatClampNeg v_63 + 1)).toInt ∧ (f (Int32.toNatClampNeg v_63 + 1)).toInt ≤ 0) ∧ (0 ≤ (f (Int32.toNatClampNeg v_63 + 2)).toInt ∧ (f (Int32.toNatClampNeg v_63 + 2)).toInt ≤ 0) ∧ True) (fun f => OLp f v_63 ∧ (4 ≤ (f (Int32.toNatClampNeg v_63)).toInt ∧ (f (Int32.toNatClampNeg v_63)).toInt ≤ 4) ∧ (0 ≤ (f (Int32.toNatClampNeg v_63 + 1)).toInt ∧ (f (Int32.toNatClampNeg v_63 + 1)).toInt ≤ 5) ∧ (0 ≤ (f (Int32.toNatClampNeg v_63 + 2)).toInt ∧ (f (Int32.toNatClampNeg v_63 + 2)).toInt ≤ 0) ∧ True) h_p0 r_v_68 r_v_69 r_v_71 m_v_71 (AX.and hw x_OL_p0_v_63 (AX.and hw x_LE_p0_v_63_0_4_4 (AX.and hw x_LE_p0_v_63_1_0_0 (AX.and hw x_LE_p0_v_63_2_0_0 (lx_true hw h_p0))))) (fun f9 v9 hv9 H9 => ⟨(have h9 := H9.1; OL_upd h9 g_at (by have k1 := r_v_68.cl (by decide); have k2 := r_v_63.1; omega)), (have h9 := H9.2.1; by have j9 : Int32.toNatClampNeg v_68 = Int32.toNatClampNeg v_63 + 1 := (by have k1 := r_v_68.cl (by decide); have k2 := r_v_63.cl (by decide); omega); show _ ∧ _; rw [pk_un (by omega)]; exact h9), (have h9 := H9.2.2.1; by have j9 : Int32.toNatClampNeg v_68 = Int32.toNatClampNeg v_63 + 1 := (by have k1 := r_v_68.cl (by decide); have k2 := r_v_63.cl (by decide); omega); show _ ∧ _; rw [← j9, pk_us]; exact hv9), (have h9 := H9.2.2.2.1; by have j9 : Int32.toNatClampNeg v_68 = Int32.toNatClampNeg v_63 + 1 := (by have k1 := r_v_68.cl (by decide); have k2 := r_v_63.cl (by decide); omega); show _ ∧ _; rw [pk_un (by omega)]; exact h9), trivial⟩)) (cwV 2 hts (gV tw_1727 tw_1729 ts_107 tw_15 tw_1730) rfl rfl rfl (by decide +kernel) ⟨Nat.le_of_ble_eq_true rfl, Nat.le_of_ble_eq_true rfl⟩) (tg_preV hw hK hSD hA (ci := 10) (q := (RX10, TX10, 49)) rfl h_p0 rfl) rfl rfl hl.1 rfl (lv_room (Nat.le_of_ble_eq_true rfl)) dX10_readBookLine_257 ⟨Nat.le_of_ble_eq_true rfl, Nat.le_of_ble_eq_true rfl⟩) hw hA ⟨by decide, by decide⟩ (fun v_72 ws H locs hp_v_72 hw hF9 => ?_)
                  have m_u_62 := FLD.over hF9 m_u_62 (by decide)
                  have m_u_64 := FLD.over hF9 m_u_64 (by decide)
                  have m_v_71 := FLD.over hF9 m_v_71 (by decide)
                  have r_v_72 : RI v_72 1 1 := hp_v_72.1
                  by_cases c9_v_72 : v_72 = 0
                  · exact absurd (ti_eq c9_v_72) (by unfold RI at r_v_72; rw [Int32.toInt_zero]; omega)
                  · obtain ⟨v_73, m_v_73, r_v_73⟩ := ((hp_v_72.2.2 c9_v_72).1)
                    have x_OL_p0_v_63 : AX 40 52 (fun f => OLp f v_63) Ps ws p0 := AX.imp ((hp_v_72.2.2 c9_v_72).2.1) (fun _ h9 => h9.1)
                    have x_LE_p0_v_63_0_4_4 : AX 40 52 (fun f => 4 ≤ (f (Int32.toNatClampNeg v_63)).toInt ∧ (f (Int32.toNatClampNeg v_63)).toInt ≤ 4) Ps ws p0 := AX.imp ((hp_v_72.2.2 c9_v_72).2.1) (fun _ h9 => h9.2.1)
                    have x_LE_p0_v_63_1_0_5 : AX 40 52 (fun f => 0 ≤ (f (Int32.toNatClampNeg v_63 + 1)).toInt ∧ (f (Int32.toNatClampNeg v_63 + 1)).toInt ≤ 5) Ps ws p0 := AX.imp ((hp_v_72.2.2 c9_v_72).2.1) (fun _ h9 => h9.2.2.1)
                    have x_LE_p0_v_63_2_0_0 : AX 40 52 (fun f => 0 ≤ (f (Int32.toNatClampNeg v_63 + 2)).toInt ∧ (f (Int32.toNatClampNeg v_63 + 2)).toInt ≤ 0) Ps ws p0 := AX.imp ((hp_v_72.2.2 c9_v_72).2.1) (fun _ h9 => h9.2.2.2.1)
                    refine lv_if_ne (tgt := 265) hx hb dX10_readBookLine_260 (by decide) (fun c_260 => ?_) (fun c_260 => ?_)
                    · refine lv_iload_n hx hb dX10_readBookLine_265 rfl (lv_at hl 4 rfl) ?_
                      refine lv_if_ne (tgt := 292) hx hb dX10_readBookLine_266 (by decide) (fun c_266 => ?_) (fun c_266 => ?_)
                      · refine lv_aload_n hx hb dX10_readBookLine_292 rfl (lv_at hl 5 rfl) ?_
                        refine tk_i (va_runV (As := []) (rest := []) ⟨hx, hb, hml, hown, hts⟩ (c_X10_readEnd l D cy z H.size Ps ws hw.1 p0 h_p0) (cwV 0 hts (gV tw_1409 tw_1411 ts_62 tw_15 tw_1412) rfl rfl rfl (by decide +kernel) ⟨Nat.le_of_ble_eq_true rfl, Nat.le_of_ble_eq_true rfl⟩) (tg_preV hw hK hSD hA (ci := 10) (q := (RX10, TX10, 49)) rfl h_p0 rfl) rfl rfl hl.1 rfl (lv_room (Nat.le_of_ble_eq_true rfl)) dX10_readBookLine_293 ⟨Nat.le_of_ble_eq_true rfl, Nat.le_of_ble_eq_true rfl⟩) hw hA ⟨by decide, by decide⟩ (fun v_74 ws H locs hp_v_74 hw hF9 => ?_)
                        have m_u_62 := FLD.over hF9 m_u_62 (by decide)
                        have m_u_64 := FLD.over hF9 m_u_64 (by decide)
                        have m_v_73 := FLD.over hF9 m_v_73 (by decide)
                        have x_OL_p0_v_63 := AX.over hF9 x_OL_p0_v_63 (by decide)
                        have x_LE_p0_v_63_0_4_4 := AX.over hF9 x_LE_p0_v_63_0_4_4 (by decide)
                        have x_LE_p0_v_63_1_0_5 := AX.over hF9 x_LE_p0_v_63_1_0_5 (by decide)
                        have x_LE_p0_v_63_2_0_0 := AX.over hF9 x_LE_p0_v_63_2_0_0 (by decide)
                        have r_v_74 : RI v_74 0 1 := hp_v_74.1
                        refine lv_if_eq (tgt := 303) hx hb dX10_readBookLine_296 (by decide) (fun c_296 => ?_) (fun c_296 => ?_)
                        · have r_v_74 : RI v_74 0 0 := rc_eq1 r_v_74 rl_0 (ti_eq c_296) (by decide)
                          refine lv_iconst (v := 0) hx hb dX10_readBookLine_303 (by decide) ?_
                          subst hQ
                          exact W.zret (v := 0) hx hb hr (rfl) (fun t ht hW => ⟨⟨0, ws, rfl, ⟨⟨rl_0.to (by decide), (fun h0 => trivial), (fun h0 => absurd rfl h0)⟩, hw.1, hw.2.2.2.2.1⟩, by rw [ht]; exact hw.2.1, va_K.moved hW.alike hK, hw.2.2.1⟩, hw.2.2.2.1.F ht⟩) hw.2.2.2.1.2.2 dX10_readBookLine_304
                        · have r_v_74 : RI v_74 1 1 := rc_neL r_v_74 rl_0 (ti_ne c_296) (by decide)
                          have x_L9 := AX.and hw x_LE_p0_v_63_0_4_4 (AX.and hw x_LE_p0_v_63_1_0_5 x_LE_p0_v_63_2_0_0)
                          have x_GL_p0_v_63 : AX 40 52 (fun f => GLk f (Int32.toNatClampNeg v_63)) Ps ws p0 := AX.imp x_L9 (fun f9 h9 => ⟨⟨by have k1 := h9.1.1; omega, by have k1 := h9.1.2; omega⟩, by have k1 := h9.1.1; have k2 := h9.2.1.2; omega, by have k3 := h9.2.2.2; omega⟩)
                          have x_LNG_p0 : LNG Ps ws p0 := LNG.mk m_u_62 (by have k1 := t_v_63; omega) r_vu_62.1 (AX.and hw x_OL_p0_v_63 x_GL_p0_v_63)
                          refine lv_iconst (v := 1) hx hb dX10_readBookLine_299 (by decide) ?_
                          refine lv_goto (tgt := 304) hx hb dX10_readBookLine_300 (by decide) ?_
                          subst hQ
                          exact W.zret (v := 1) hx hb hr (rfl) (fun t ht hW => ⟨⟨1, ws, rfl, ⟨⟨rl_1.to (by decide), (fun _ => trivial), (fun h0 => ⟨⟨_, m_u_62, r_vu_62⟩, x_LNG_p0, trivial⟩)⟩, hw.1, hw.2.2.2.2.1⟩, by rw [ht]; exact hw.2.1, va_K.moved hW.alike hK, hw.2.2.1⟩, hw.2.2.2.1.F ht⟩) hw.2.2.2.1.2.2 dX10_readBookLine_304
                      · have r_v_1 : RI v_1 1 0 := rc_eq1 r_v_1 rl_0 (ti_eq c_266) (by decide)
                        exact (r_v_1.no (by decide)).elim
                    · have r_v_72 : RI v_72 1 0 := rc_eq1 r_v_72 rl_0 (ti_eq c_260) (by decide)
                      exact (r_v_72.no (by decide)).elim
              · exact absurd (r_v_61.eq.trans rl_0.eq.symm) ((ti_ne c_214))
          · have r_vu_62 : RI vu_62 40 40 := rc_eq1 r_vu_62 rl_40 (ti_eq c_93) (by decide)
            refine lv_aload_n hx hb dX10_readBookLine_96 rfl (lv_at hl 4 rfl) ?_
            refine lv_iconst (v := 4) hx hb dX10_readBookLine_97 (by decide) ?_
            refine tk_i (va_runV (As := [.int 4]) (rest := []) ⟨hx, hb, hml, hown, hts⟩ (c_X10_bad l D cy z H.size Ps w0 hw.1 p0 4 h_p0 (rl_4.to (by decide))) (cwV 1 hts (gV tw_1336 tw_1338 ts_46 tw_15 tw_1339) rfl rfl rfl (by decide +kernel) ⟨Nat.le_of_ble_eq_true rfl, Nat.le_of_ble_eq_true rfl⟩) (tg_preV hw hK hSD hA (ci := 10) (q := (RX10, TX10, 49)) rfl h_p0 rfl) rfl rfl hl.1 rfl (lv_room (Nat.le_of_ble_eq_true rfl)) dX10_readBookLine_98 ⟨Nat.le_of_ble_eq_true rfl, Nat.le_of_ble_eq_true rfl⟩) hw hA ⟨by decide, by decide⟩ (fun v_75 ws H locs hp_v_75 hw hF9 => ?_)
            have m_u_62 := FLD.over hF9 m_u_62 (by decide)
            have x_LNS_p0 := LNS.over hF9 x_LNS_p0 (by decide)
            have x_WRD_p0_307058 := WRD.over hF9 x_WRD_p0_307058 (by decide)
            have r_v_75 : RI v_75 0 0 := hp_v_75.1
            subst hQ
            exact W.zret (v := v_75) hx hb hr (tq_nz (r_v_75.to (by decide))) (fun t ht hW => ⟨⟨v_75, ws, rfl, ⟨⟨r_v_75.to (by decide), (fun h0 => trivial), (fun h0 => absurd (Int32.toInt_inj.mp (by have h8 := r_v_75; unfold RI at h8; rw [Int32.toInt_zero]; omega)) h0)⟩, hw.1, hw.2.2.2.2.1⟩, by rw [ht]; exact hw.2.1, va_K.moved hW.alike hK, hw.2.2.1⟩, hw.2.2.2.1.F ht⟩) hw.2.2.2.1.2.2 dX10_readBookLine_101
        · have r_v_1 : RI v_1 1 0 := rc_eq1 r_v_1 rl_0 (ti_eq c_22) (by decide)
          exact (r_v_1.no (by decide)).elim
      · have r_v_61 : RI v_61 1 1 := rc_neL r_v_61 rl_0 (ti_ne c9_v_61) (by decide)
        have x_WRD_p0_2968 := ((hp_v_61.2.2 c9_v_61).1)
        exact (WRD.no hw x_WRD_p0_2968 x_WRD_p0_307058 (by decide)).elim
    · have r_v_60 : RI v_60 1 1 := rc_neL r_v_60 rl_0 (ti_ne c9_v_60) (by decide)
      have x_WRD_p0_1627639 := ((hp_v_60.2.2 c9_v_60).1)
      exact (WRD.no hw x_WRD_p0_1627639 x_WRD_p0_307058 (by decide)).elim
abbrev wr_X10_begin__3 : List (Nat × Nat) := [(10, 0), (10, 2), (10, 3), (10, 4), (10, 5), (10, 6), (10, 7), (10, 8), (10, 9), (10, 10), (10, 12)]
abbrev wa_X10_begin__3 : List Nat := []
set_option maxHeartbeats 4000000 in
set_option maxRecDepth 100000 in
theorem c_X10_begin__3 (l : Launch) (D : va_G) (cy : Nat → ClassId) (z : Nat → Nat) (sz : Nat) (Ps : PSI) (w0 : va_W) (hT : HT cy GG Ps w0) (p0 : Nat) (p1 : Int32) (h_p0 : (p0, 55) ∈ Ps) (r_p1 : RI p1 400 400) : Met l yX10_begin (Cond.code yX10_begin cX10_begin 2 none :: gT) ({ frames := 3, cells := 0, slots := 0, locals := 600 } : Room) (va_Pc [.ref p0, .int p1] (PRE D cy z w0 sz)) (va_Qv (fun (u : va_W) => ((∃ v9 : Int32, FLD u p0 10 2 (.int v9) ∧ RI v9 0 0) ∧ True) ∧ HT cy GG Ps u ∧ FR wr_X10_begin__3 wa_X10_begin__3 Ps w0 u) (BB D cy (va_A w0 sz) (fun (u : va_W) => u)) (va_A w0 sz)) 0 0 (va_A w0 sz) := by
  refine Met.ofW (cc := cX10_begin) (maxL := 2) (ret := none) (by decide) rfl ?_
  intro p e s m args below meth c s₁ B hml hv
  obtain ⟨rfl, hsz, hP, hK, hD0, hSD⟩ := hv
  have hx := B.exec
  have hb := B.bytes
  have hr := B.returns
  have hlocks := B.notSynchronized
  have hts : ∀ w ∈ gT, w.before _ s = true := fun w h => atoms_spec (ws := Cond.code yX10_begin cX10_begin 2 none :: gT) B.pre w (List.mem_cons_of_mem _ h)
  have hown : s.vm.findClass RX10 = some m.cls := findClass_of_methodNamed B.named
  subst hsz
  have hD := hD0.self (sz := s.heap.size)
  generalize hAe : va_A w0 s.heap.size = A at hD hSD ⊢
  have hA : ∀ q : Nat, s.heap.size ≤ q → A q := fun q h => by rw [← hAe]; exact Or.inr h
  have hl := lv_entry ([.ref p0, .int p1]) (n := 2) (Nat.le_of_ble_eq_true rfl)
  rw [lg_entry_eq]
  generalize (lg_sl ([.ref p0, .int p1]) ++ List.replicate (2 - (lg_sl ([.ref p0, .int p1])).length) Slot.unset).toArray = ls at hl ⊢
  have hl : lv_has ls 2 [(0, .ref p0), (1, .int p1)] := hl
  refine nameQ (fun Q hQ => ?_)
  have hw : WD D cy GG A s wr_X10_begin__3 wa_X10_begin__3 Ps w0 Ps w0 s.heap [] := ⟨hT, hP, hD, va_S.rf, FR.rf, hT.1, [], (List.append_nil _).symm⟩
  refine lv_aload_n hx hb dX10_begin_0 rfl (lv_at hl 0 rfl) ?_
  refine lv_iconst (v := 0) hx hb dX10_begin_1 (by decide) ?_
  refine tg_put (ci := 10) (ts := ty_MODEL) (v := .int 0) (ty := .int) (C := RX10) (T := TX10) (N := 49) hx hb hts inX10 tyX10 tyX10_ok nmX10 hown hK hw h_p0 rfl rfl 0 (by decide) (hts _ tw_1137) (fun _ h9 => h9) rfl (by decide +kernel) rfl rfl (ft := vI (-2147483648) 2147483647) rfl ⟨_, rfl, (rl_0.to (by decide))⟩ (by decide) dX10_begin_2 (fun ws H locs hw n_k_1 hF9 => ?_)
  refine lv_aload_n hx hb dX10_begin_5 rfl (lv_at hl 0 rfl) ?_
  refine lv_aload_n hx hb dX10_begin_6 rfl (lv_at hl 0 rfl) ?_
  refine tk_i (va_runV (As := []) (rest := [.ref p0]) ⟨hx, hb, hml, hown, hts⟩ (c_X10_take l D cy z H.size Ps ws hw.1 p0 h_p0) (cwV 0 hts (gV tw_1294 tw_1296 ts_39 tw_15 tw_1297) rfl rfl rfl (by decide +kernel) ⟨Nat.le_of_ble_eq_true rfl, Nat.le_of_ble_eq_true rfl⟩) (tg_preV hw hK hSD hA (ci := 10) (q := (RX10, TX10, 49)) rfl h_p0 rfl) rfl rfl hl.1 rfl (lv_room (Nat.le_of_ble_eq_true rfl)) dX10_begin_7 ⟨Nat.le_of_ble_eq_true rfl, Nat.le_of_ble_eq_true rfl⟩) hw hA ⟨by decide, by decide⟩ (fun v_2 ws H locs hp_v_2 hw hF9 => ?_)
  have n_k_1 := FLD.over hF9 n_k_1 (by decide)
  have r_v_2 : RI v_2 0 940 := hp_v_2.1
  by_cases c9_v_2 : v_2 = 0
  · have r_v_2 : RI v_2 0 0 := by rw [c9_v_2]; exact rl_0
    obtain ⟨v_3, m_v_3, r_v_3⟩ := ((hp_v_2.2.1 c9_v_2).1)
    refine tg_put (ci := 10) (ts := ty_MODEL) (v := .int v_2) (ty := .int) (C := RX10) (T := TX10) (N := 49) hx hb hts inX10 tyX10 tyX10_ok nmX10 hown hK hw h_p0 rfl rfl 3 (by decide) (hts _ tw_1140) (fun _ h9 => h9) rfl (by decide +kernel) rfl rfl (ft := vI 0 940) rfl ⟨_, rfl, (r_v_2.to (by decide))⟩ (by decide) dX10_begin_10 (fun ws H locs hw n_k_4 hF9 => ?_)
    have n_k_1 := FLD.over hF9 n_k_1 (by decide)
    have m_v_3 := FLD.over hF9 m_v_3 (by decide)
    refine lv_aload_n hx hb dX10_begin_13 rfl (lv_at hl 0 rfl) ?_
    refine lv_iload_n hx hb dX10_begin_14 rfl (lv_at hl 1 rfl) ?_
    refine tg_put (ci := 10) (ts := ty_MODEL) (v := .int p1) (ty := .int) (C := RX10) (T := TX10) (N := 49) hx hb hts inX10 tyX10 tyX10_ok nmX10 hown hK hw h_p0 rfl rfl 4 (by decide) (hts _ tw_1141) (fun _ h9 => h9) rfl (by decide +kernel) rfl rfl (ft := vI (-2147483648) 2147483647) rfl ⟨_, rfl, (r_p1.to (by decide))⟩ (by decide) dX10_begin_15 (fun ws H locs hw n_k_5 hF9 => ?_)
    have n_k_1 := FLD.over hF9 n_k_1 (by decide)
    have m_v_3 := FLD.over hF9 m_v_3 (by decide)
    have n_k_4 := FLD.over hF9 n_k_4 (by decide)
    refine lv_aload_n hx hb dX10_begin_18 rfl (lv_at hl 0 rfl) ?_
    refine lv_iconst (v := 0) hx hb dX10_begin_19 (by decide) ?_
    refine tg_put (ci := 10) (ts := ty_MODEL) (v := .int 0) (ty := .int) (C := RX10) (T := TX10) (N := 49) hx hb hts inX10 tyX10 tyX10_ok nmX10 hown hK hw h_p0 rfl rfl 10 (by decide) (hts _ tw_1147) (fun _ h9 => h9) rfl (by decide +kernel) rfl rfl (ft := vI (-2147483648) 2147483647) rfl ⟨_, rfl, (rl_0.to (by decide))⟩ (by decide) dX10_begin_20 (fun ws H locs hw n_k_6 hF9 => ?_)
    have n_k_1 := FLD.over hF9 n_k_1 (by decide)
    have m_v_3 := FLD.over hF9 m_v_3 (by decide)
    have n_k_4 := FLD.over hF9 n_k_4 (by decide)
    have n_k_5 := FLD.over hF9 n_k_5 (by decide)
    refine lv_aload_n hx hb dX10_begin_23 rfl (lv_at hl 0 rfl) ?_
    refine lv_iconst (v := 0) hx hb dX10_begin_24 (by decide) ?_
    refine tg_put (ci := 10) (ts := ty_MODEL) (v := .int 0) (ty := .int) (C := RX10) (T := TX10) (N := 49) hx hb hts inX10 tyX10 tyX10_ok nmX10 hown hK hw h_p0 rfl rfl 5 (by decide) (hts _ tw_1142) (fun _ h9 => h9) rfl (by decide +kernel) rfl rfl (ft := vI 0 940) rfl ⟨_, rfl, (rl_0.to (by decide))⟩ (by decide) dX10_begin_25 (fun ws H locs hw n_k_7 hF9 => ?_)
    have n_k_1 := FLD.over hF9 n_k_1 (by decide)
    have m_v_3 := FLD.over hF9 m_v_3 (by decide)
    have n_k_4 := FLD.over hF9 n_k_4 (by decide)
    have n_k_5 := FLD.over hF9 n_k_5 (by decide)
    have n_k_6 := FLD.over hF9 n_k_6 (by decide)
    refine lv_aload_n hx hb dX10_begin_28 rfl (lv_at hl 0 rfl) ?_
    refine tk_v (va_runV (As := []) (rest := []) ⟨hx, hb, hml, hown, hts⟩ (c_X10_go l D cy z H.size Ps ws hw.1 p0 h_p0) (cwV 0 hts (gV tw_1298 tw_1300 ts_40 tw_15 tw_1301) rfl rfl rfl (by decide +kernel) ⟨Nat.le_of_ble_eq_true rfl, Nat.le_of_ble_eq_true rfl⟩) (tg_preV hw hK hSD hA (ci := 10) (q := (RX10, TX10, 49)) rfl h_p0 rfl) rfl rfl hl.1 rfl (lv_room (Nat.le_of_ble_eq_true rfl)) dX10_begin_29 ⟨Nat.le_of_ble_eq_true rfl, Nat.le_of_ble_eq_true rfl⟩) hw hA ⟨by decide, by decide⟩ (fun ws H locs hp_v_8 hw hF9 => ?_)
    have n_k_1 := FLD.over hF9 n_k_1 (by decide)
    have m_v_3 := FLD.over hF9 m_v_3 (by decide)
    have n_k_4 := FLD.over hF9 n_k_4 (by decide)
    have n_k_5 := FLD.over hF9 n_k_5 (by decide)
    have n_k_6 := FLD.over hF9 n_k_6 (by decide)
    subst hQ
    exact W.vret hx hb hr (fun t ht hW => ⟨⟨ws, rfl, ⟨⟨⟨_, m_v_3, r_v_3⟩, trivial⟩, hw.1, hw.2.2.2.2.1⟩, by rw [ht]; exact hw.2.1, va_K.moved hW.alike hK, hw.2.2.1⟩, hw.2.2.2.1.F ht⟩) hw.2.2.2.1.2.2 dX10_begin_32
  · have r_v_2 : RI v_2 1 940 := rc_neL r_v_2 rl_0 (ti_ne c9_v_2) (by decide)
    obtain ⟨v_9, m_v_9, r_v_9⟩ := ((hp_v_2.2.2 c9_v_2).1)
    refine tg_put (ci := 10) (ts := ty_MODEL) (v := .int v_2) (ty := .int) (C := RX10) (T := TX10) (N := 49) hx hb hts inX10 tyX10 tyX10_ok nmX10 hown hK hw h_p0 rfl rfl 3 (by decide) (hts _ tw_1140) (fun _ h9 => h9) rfl (by decide +kernel) rfl rfl (ft := vI 0 940) rfl ⟨_, rfl, (r_v_2.to (by decide))⟩ (by decide) dX10_begin_10 (fun ws H locs hw n_k_10 hF9 => ?_)
    have n_k_1 := FLD.over hF9 n_k_1 (by decide)
    have m_v_9 := FLD.over hF9 m_v_9 (by decide)
    refine lv_aload_n hx hb dX10_begin_13 rfl (lv_at hl 0 rfl) ?_
    refine lv_iload_n hx hb dX10_begin_14 rfl (lv_at hl 1 rfl) ?_
    refine tg_put (ci := 10) (ts := ty_MODEL) (v := .int p1) (ty := .int) (C := RX10) (T := TX10) (N := 49) hx hb hts inX10 tyX10 tyX10_ok nmX10 hown hK hw h_p0 rfl rfl 4 (by decide) (hts _ tw_1141) (fun _ h9 => h9) rfl (by decide +kernel) rfl rfl (ft := vI (-2147483648) 2147483647) rfl ⟨_, rfl, (r_p1.to (by decide))⟩ (by decide) dX10_begin_15 (fun ws H locs hw n_k_11 hF9 => ?_)
    have n_k_1 := FLD.over hF9 n_k_1 (by decide)
    have m_v_9 := FLD.over hF9 m_v_9 (by decide)
    have n_k_10 := FLD.over hF9 n_k_10 (by decide)
    refine lv_aload_n hx hb dX10_begin_18 rfl (lv_at hl 0 rfl) ?_
    refine lv_iconst (v := 0) hx hb dX10_begin_19 (by decide) ?_
    refine tg_put (ci := 10) (ts := ty_MODEL) (v := .int 0) (ty := .int) (C := RX10) (T := TX10) (N := 49) hx hb hts inX10 tyX10 tyX10_ok nmX10 hown hK hw h_p0 rfl rfl 10 (by decide) (hts _ tw_1147) (fun _ h9 => h9) rfl (by decide +kernel) rfl rfl (ft := vI (-2147483648) 2147483647) rfl ⟨_, rfl, (rl_0.to (by decide))⟩ (by decide) dX10_begin_20 (fun ws H locs hw n_k_12 hF9 => ?_)
    have n_k_1 := FLD.over hF9 n_k_1 (by decide)
    have m_v_9 := FLD.over hF9 m_v_9 (by decide)
    have n_k_10 := FLD.over hF9 n_k_10 (by decide)
    have n_k_11 := FLD.over hF9 n_k_11 (by decide)
    refine lv_aload_n hx hb dX10_begin_23 rfl (lv_at hl 0 rfl) ?_
    refine lv_iconst (v := 0) hx hb dX10_begin_24 (by decide) ?_
    refine tg_put (ci := 10) (ts := ty_MODEL) (v := .int 0) (ty := .int) (C := RX10) (T := TX10) (N := 49) hx hb hts inX10 tyX10 tyX10_ok nmX10 hown hK hw h_p0 rfl rfl 5 (by decide) (hts _ tw_1142) (fun _ h9 => h9) rfl (by decide +kernel) rfl rfl (ft := vI 0 940) rfl ⟨_, rfl, (rl_0.to (by decide))⟩ (by decide) dX10_begin_25 (fun ws H locs hw n_k_13 hF9 => ?_)
    have n_k_1 := FLD.over hF9 n_k_1 (by decide)
    have m_v_9 := FLD.over hF9 m_v_9 (by decide)
    have n_k_10 := FLD.over hF9 n_k_10 (by decide)
    have n_k_11 := FLD.over hF9 n_k_11 (by decide)
    have n_k_12 := FLD.over hF9 n_k_12 (by decide)
    refine lv_aload_n hx hb dX10_begin_28 rfl (lv_at hl 0 rfl) ?_
    refine tk_v (va_runV (As := []) (rest := []) ⟨hx, hb, hml, hown, hts⟩ (c_X10_go l D cy z H.size Ps ws hw.1 p0 h_p0) (cwV 0 hts (gV tw_1298 tw_1300 ts_40 tw_15 tw_1301) rfl rfl rfl (by decide +kernel) ⟨Nat.le_of_ble_eq_true rfl, Nat.le_of_ble_eq_true rfl⟩) (tg_preV hw hK hSD hA (ci := 10) (q := (RX10, TX10, 49)) rfl h_p0 rfl) rfl rfl hl.1 rfl (lv_room (Nat.le_of_ble_eq_true rfl)) dX10_begin_29 ⟨Nat.le_of_ble_eq_true rfl, Nat.le_of_ble_eq_true rfl⟩) hw hA ⟨by decide, by decide⟩ (fun ws H locs hp_v_14 hw hF9 => ?_)
    have n_k_1 := FLD.over hF9 n_k_1 (by decide)
    have m_v_9 := FLD.over hF9 m_v_9 (by decide)
    have n_k_10 := FLD.over hF9 n_k_10 (by decide)
    have n_k_11 := FLD.over hF9 n_k_11 (by decide)
    have n_k_12 := FLD.over hF9 n_k_12 (by decide)
    subst hQ
    exact W.vret hx hb hr (fun t ht hW => ⟨⟨ws, rfl, ⟨⟨⟨_, m_v_9, r_v_9⟩, trivial⟩, hw.1, hw.2.2.2.2.1⟩, by rw [ht]; exact hw.2.1, va_K.moved hW.alike hK, hw.2.2.1⟩, hw.2.2.2.1.F ht⟩) hw.2.2.2.1.2.2 dX10_begin_32
abbrev wr_X10_book : List (Nat × Nat) := [(10, 0), (10, 2), (10, 3), (10, 4), (10, 5), (10, 6), (10, 7), (10, 8), (10, 9), (10, 10), (10, 11), (10, 12), (10, 13), (10, 25), (10, 42), (10, 43)]
abbrev wa_X10_book : List Nat := [34, 37, 38, 46, 52, 53]
set_option maxHeartbeats 4000000 in
set_option maxRecDepth 100000 in
theorem c_X10_book (l : Launch) (D : va_G) (cy : Nat → ClassId) (z : Nat → Nat) (sz : Nat) (Ps : PSI) (w0 : va_W) (hT : HT cy GG Ps w0) (p0 : Nat) (p1 : Int32) (h_p0 : (p0, 55) ∈ Ps) (r_p1 : RI p1 (-2147483648) 2147483647) : Met l yX10_book (Cond.code yX10_book cX10_book 4 (some .int) :: gT) ({ frames := 8, cells := 0, slots := 0, locals := 1600 } : Room) (va_Pc [.ref p0, .int p1] (PRE D cy z w0 sz)) (va_Qi (fun (r : Int32) (u : va_W) => (RI r (-2147483648) 2147483647 ∧ (r = 0 → True) ∧ (¬ r = 0 → True)) ∧ HT cy GG Ps u ∧ FR wr_X10_book wa_X10_book Ps w0 u) (BB D cy (va_A w0 sz) (fun (u : va_W) => u)) (va_A w0 sz)) 0 0 (va_A w0 sz) := by
  refine Met.ofW (cc := cX10_book) (maxL := 4) (ret := (some .int)) (by decide) rfl ?_
  intro p e s m args below meth c s₁ B hml hv
  obtain ⟨rfl, hsz, hP, hK, hD0, hSD⟩ := hv
  have hx := B.exec
  have hb := B.bytes
  have hr := B.returns
  have hlocks := B.notSynchronized
  have hts : ∀ w ∈ gT, w.before _ s = true := fun w h => atoms_spec (ws := Cond.code yX10_book cX10_book 4 (some .int) :: gT) B.pre w (List.mem_cons_of_mem _ h)
  have hown : s.vm.findClass RX10 = some m.cls := findClass_of_methodNamed B.named
  subst hsz
  have hD := hD0.self (sz := s.heap.size)
  generalize hAe : va_A w0 s.heap.size = A at hD hSD ⊢
  have hA : ∀ q : Nat, s.heap.size ≤ q → A q := fun q h => by rw [← hAe]; exact Or.inr h
  have hl := lv_entry ([.ref p0, .int p1]) (n := 4) (Nat.le_of_ble_eq_true rfl)
  rw [lg_entry_eq]
  generalize (lg_sl ([.ref p0, .int p1]) ++ List.replicate (4 - (lg_sl ([.ref p0, .int p1])).length) Slot.unset).toArray = ls at hl ⊢
  have hl : lv_has ls 4 [(0, .ref p0), (1, .int p1)] := hl
  refine nameQ (fun Q hQ => ?_)
  have hw : WD D cy GG A s wr_X10_book wa_X10_book Ps w0 Ps w0 s.heap [] := ⟨hT, hP, hD, va_S.rf, FR.rf, hT.1, [], (List.append_nil _).symm⟩
  have B103 : ∀ (x2 : Int32) (x3 : Int32) (z0_2 : Int32) (z0_7 : Int32) (z0_42 : Int32) (ws : va_W) (H : Heap) (locs : List Loc) (ls : Array Slot), RI p1 0 1 → RI x2 0 40 → RI x3 0 61 → RI z0_2 0 0 → FLD ws p0 10 2 (.int z0_2) → RI z0_7 0 0 → FLD ws p0 10 7 (.int z0_7) → RI z0_42 0 40 → FLD ws p0 10 42 (.int z0_42) → (0 ≤ Int32.toInt p1 ∧ Int32.toInt p1 ≤ 1) → LNS Ps ws p0 → WD D cy GG A s wr_X10_book wa_X10_book Ps w0 Ps ws H locs → lv_has ls 4 [(0, .ref p0), (1, .int p1), (2, .int x2), (3, .int x3)] → W p l e (headSpec (Cond.code yX10_book cX10_book 4 (some .int) :: gT) ({ frames := 8, cells := 0, slots := 0, locals := 1600 } : Room)).room s m ([.ref p0, .int p1] : List Value).toArray below meth c H locs 0 0 Q (F0 m 103 ls []) := by
    intro x2 x3 z0_2 z0_7 z0_42 ws H locs ls r_p1 r_x2 r_x3 r_z0_2 m_z0_2 r_z0_7 m_z0_7 r_z0_42 m_z0_42 x_IMG1_p1 x_LNS_p0 hw hl
    refine lv_aload_n hx hb dX10_book_103 rfl (lv_at hl 0 rfl) ?_
    refine tg_get (ci := 10) (ts := ty_MODEL) (C := RX10) (T := TX10) (N := 49) hx hb hts inX10 hown hK hw h_p0 rfl rfl 41 (by decide) (hts _ tw_1178) (fun _ h9 => h9) (ft := vR 53) rfl dX10_book_104 (fun u_1 hv_u_1 m_u_1 => ?_)
    obtain ⟨vu_1, rfl, h_vu_1⟩ := hv_u_1
    refine lv_iconst (v := 0) hx hb dX10_book_107 (by decide) ?_
    refine lv_iload_n hx hb dX10_book_108 rfl (lv_at hl 3 rfl) ?_
    refine tg_iast hx hb hK hw h_vu_1 rfl 0 0 rl_0 (by decide) r_x3 (by exact fun _ _ _ => by decide) (fun _ _ _ _ _ => trivial) (by decide) dX10_book_109 (fun ws H locs hw hF9 hU9 => ?_)
    have x_LNS_p0 := LNS.over hF9 x_LNS_p0 (by decide)
    have m_z0_2 := FLD.over hF9 m_z0_2 (by decide)
    have m_z0_7 := FLD.over hF9 m_z0_7 (by decide)
    have m_z0_42 := FLD.over hF9 m_z0_42 (by decide)
    refine lv_aload_n hx hb dX10_book_110 rfl (lv_at hl 0 rfl) ?_
    refine tg_get (ci := 10) (ts := ty_MODEL) (C := RX10) (T := TX10) (N := 49) hx hb hts inX10 hown hK hw h_p0 rfl rfl 41 (by decide) (hts _ tw_1178) (fun _ h9 => h9) (ft := vR 53) rfl dX10_book_111 (fun u_2 hv_u_2 m_u_2 => ?_)
    obtain ⟨vu_2, rfl, h_vu_2⟩ := hv_u_2
    refine lv_iconst (v := 1) hx hb dX10_book_114 (by decide) ?_
    refine lv_iload_n hx hb dX10_book_115 rfl (lv_at hl 2 rfl) ?_
    refine tg_iast hx hb hK hw h_vu_2 rfl 1 1 rl_1 (by decide) r_x2 (by exact fun _ _ _ => by decide) (fun _ _ _ _ _ => trivial) (by decide) dX10_book_116 (fun ws H locs hw hF9 hU9 => ?_)
    have x_LNS_p0 := LNS.over hF9 x_LNS_p0 (by decide)
    have m_z0_2 := FLD.over hF9 m_z0_2 (by decide)
    have m_z0_7 := FLD.over hF9 m_z0_7 (by decide)
    have m_z0_42 := FLD.over hF9 m_z0_42 (by decide)
    refine lv_aload_n hx hb dX10_book_117 rfl (lv_at hl 0 rfl) ?_
    refine tg_get (ci := 10) (ts := ty_MODEL) (C := RX10) (T := TX10) (N := 49) hx hb hts inX10 hown hK hw h_p0 rfl rfl 41 (by decide) (hts _ tw_1178) (fun _ h9 => h9) (ft := vR 53) rfl dX10_book_118 (fun u_3 hv_u_3 m_u_3 => ?_)
    obtain ⟨vu_3, rfl, h_vu_3⟩ := hv_u_3
    refine lv_iconst (v := 2) hx hb dX10_book_121 (by decide) ?_
    refine lv_aload_n hx hb dX10_book_122 rfl (lv_at hl 0 rfl) ?_
    refine tg_get (ci := 10) (ts := ty_MODEL) (C := RX10) (T := TX10) (N := 49) hx hb hts inX10 hown hK hw h_p0 rfl rfl 14 (by decide) (hts _ tw_1151) (fun _ h9 => h9) (ft := vR 34) rfl dX10_book_123 (fun u_4 hv_u_4 m_u_4 => ?_)
    obtain ⟨vu_4, rfl, h_vu_4⟩ := hv_u_4
    refine lv_bipush (v := 84) hx hb dX10_book_126 (by decide) ?_
    refine tg_iald (lo := (-2147483648)) (hi := 2147483647) hx hb hK hw h_vu_4 rfl 84 84 rl_84 (by decide) (by decide +kernel) dX10_book_128 (fun v_5 r_v_5 m_v_5 o_v_5 => ?_)
    refine tg_iast hx hb hK hw h_vu_3 rfl 2 2 rl_2 (by decide) r_v_5 (by exact fun _ _ _ => by decide) (fun _ _ _ _ _ => trivial) (by decide) dX10_book_129 (fun ws H locs hw hF9 hU9 => ?_)
    have x_LNS_p0 := LNS.over hF9 x_LNS_p0 (by decide)
    have m_z0_2 := FLD.over hF9 m_z0_2 (by decide)
    have m_z0_7 := FLD.over hF9 m_z0_7 (by decide)
    have m_z0_42 := FLD.over hF9 m_z0_42 (by decide)
    refine lv_aload_n hx hb dX10_book_130 rfl (lv_at hl 0 rfl) ?_
    refine tg_get (ci := 10) (ts := ty_MODEL) (C := RX10) (T := TX10) (N := 49) hx hb hts inX10 hown hK hw h_p0 rfl rfl 41 (by decide) (hts _ tw_1178) (fun _ h9 => h9) (ft := vR 53) rfl dX10_book_131 (fun u_6 hv_u_6 m_u_6 => ?_)
    obtain ⟨vu_6, rfl, h_vu_6⟩ := hv_u_6
    refine lv_iconst (v := 3) hx hb dX10_book_134 (by decide) ?_
    refine lv_aload_n hx hb dX10_book_135 rfl (lv_at hl 0 rfl) ?_
    refine tk_ir (va_runV (As := []) (rest := [.int 3, .ref vu_6]) ⟨hx, hb, hml, hown, hts⟩ (c_X10_nothings l D cy z H.size Ps ws hw.1 p0 h_p0) (cwV 0 hts (gV tw_1485 tw_1487 ts_74 tw_15 tw_1488) rfl rfl rfl (by decide +kernel) ⟨Nat.le_of_ble_eq_true rfl, Nat.le_of_ble_eq_true rfl⟩) (tg_preV hw hK hSD hA (ci := 10) (q := (RX10, TX10, 49)) rfl h_p0 rfl) rfl rfl hl.1 rfl (lv_room (Nat.le_of_ble_eq_true rfl)) dX10_book_136 ⟨Nat.le_of_ble_eq_true rfl, Nat.le_of_ble_eq_true rfl⟩) hw hA (fun v_7  H locs hp_v_7 hw => ?_)
    have r_v_7 : RI v_7 (-2147483648) 2147483647 := hp_v_7.1
    refine tg_iast hx hb hK hw h_vu_6 rfl 3 3 rl_3 (by decide) r_v_7 (by exact fun _ _ _ => by decide) (fun _ _ _ _ _ => trivial) (by decide) dX10_book_139 (fun ws H locs hw hF9 hU9 => ?_)
    have x_LNS_p0 := LNS.over hF9 x_LNS_p0 (by decide)
    have m_z0_2 := FLD.over hF9 m_z0_2 (by decide)
    have m_z0_7 := FLD.over hF9 m_z0_7 (by decide)
    have m_z0_42 := FLD.over hF9 m_z0_42 (by decide)
    refine lv_aload_n hx hb dX10_book_140 rfl (lv_at hl 0 rfl) ?_
    refine lv_iconst (v := 1) hx hb dX10_book_141 (by decide) ?_
    refine tg_put (ci := 10) (ts := ty_MODEL) (v := .int 1) (ty := .boolean) (C := RX10) (T := TX10) (N := 49) hx hb hts inX10 tyX10 tyX10_ok nmX10 hown hK hw h_p0 rfl rfl 43 (by decide) (hts _ tw_1180) (fun _ h9 => h9) rfl (by decide +kernel) rfl rfl (ft := vI 0 1) rfl ⟨_, rfl, (rl_1.to (by decide))⟩ (by decide) dX10_book_142 (fun ws H locs hw n_k_8 hF9 => ?_)
    have m_z0_2 := FLD.over hF9 m_z0_2 (by decide)
    have m_z0_7 := FLD.over hF9 m_z0_7 (by decide)
    have m_z0_42 := FLD.over hF9 m_z0_42 (by decide)
    have x_LNS_p0 := LNS.over hF9 x_LNS_p0 (by decide)
    refine lv_aload_n hx hb dX10_book_145 rfl (lv_at hl 0 rfl) ?_
    refine lv_iload_n hx hb dX10_book_146 rfl (lv_at hl 1 rfl) ?_
    refine lv_iconst (v := 1) hx hb dX10_book_147 (by decide) ?_
    refine lv_icmp_ne (tgt := 159) hx hb dX10_book_148 (by decide) (fun c_148 => ?_) (fun c_148 => ?_)
    · have r_p1 : RI p1 0 0 := rc_neU r_p1 rl_1 (ti_ne c_148) (by decide)
      refine lv_iconst (v := 0) hx hb dX10_book_159 (by decide) ?_
      refine tk_v (va_runV (As := [.int 0]) (rest := []) ⟨hx, hb, hml, hown, hts⟩ (c_X10_stay l D cy z H.size Ps ws hw.1 p0 0 h_p0 (rl_0.to (by decide))) (cwV 1 hts (gV tw_1739 tw_1741 ts_110 tw_15 tw_1742) rfl rfl rfl (by decide +kernel) ⟨Nat.le_of_ble_eq_true rfl, Nat.le_of_ble_eq_true rfl⟩) (tg_preV hw hK hSD hA (ci := 10) (q := (RX10, TX10, 49)) rfl h_p0 rfl) rfl rfl hl.1 rfl (lv_room (Nat.le_of_ble_eq_true rfl)) dX10_book_160 ⟨Nat.le_of_ble_eq_true rfl, Nat.le_of_ble_eq_true rfl⟩) hw hA ⟨by decide, by decide⟩ (fun ws H locs hp_v_9 hw hF9 => ?_)
      have m_z0_2 := FLD.over hF9 m_z0_2 (by decide)
      have m_z0_7 := FLD.over hF9 m_z0_7 (by decide)
      have m_z0_42 := FLD.over hF9 m_z0_42 (by decide)
      have n_k_8 := FLD.over hF9 n_k_8 (by decide)
      have x_LNS_p0 := LNS.over hF9 x_LNS_p0 (by decide)
      refine lv_iload_n hx hb dX10_book_163 rfl (lv_at hl 3 rfl) ?_
      refine lv_if_ne (tgt := 171) hx hb dX10_book_164 (by decide) (fun c_164 => ?_) (fun c_164 => ?_)
      · have r_x3 : RI x3 1 61 := rc_neL r_x3 rl_0 (ti_ne c_164) (by decide)
        refine lv_iload_n hx hb dX10_book_171 rfl (lv_at hl 2 rfl) ?_
        subst hQ
        exact W.iret (v := x2) hx hb hr (fun t ht hW => ⟨⟨x2, ws, rfl, ⟨⟨r_x2.to (by decide), (fun h0 => trivial), (fun h0 => trivial)⟩, hw.1, hw.2.2.2.2.1⟩, by rw [ht]; exact hw.2.1, va_K.moved hW.alike hK, hw.2.2.1⟩, hw.2.2.2.1.F ht⟩) hw.2.2.2.1.2.2 dX10_book_172
      · have r_x3 : RI x3 0 0 := rc_eq1 r_x3 rl_0 (ti_eq c_164) (by decide)
        refine lv_iconst (v := (-1)) hx hb dX10_book_167 (by decide) ?_
        refine lv_goto (tgt := 172) hx hb dX10_book_168 (by decide) ?_
        subst hQ
        exact W.iret (v := (-1)) hx hb hr (fun t ht hW => ⟨⟨(-1), ws, rfl, ⟨⟨rl_m1.to (by decide), (fun _ => trivial), (fun h0 => trivial)⟩, hw.1, hw.2.2.2.2.1⟩, by rw [ht]; exact hw.2.1, va_K.moved hW.alike hK, hw.2.2.1⟩, hw.2.2.2.1.F ht⟩) hw.2.2.2.1.2.2 dX10_book_172
    · have r_p1 : RI p1 1 1 := rc_eq1 r_p1 rl_1 (ti_eq c_148) (by decide)
      refine lv_iload_n hx hb dX10_book_151 rfl (lv_at hl 2 rfl) ?_
      refine lv_if_le (tgt := 159) hx hb dX10_book_152 (by decide) (fun c_152 => ?_) (fun c_152 => ?_)
      · have r_x2 : RI x2 0 0 := rc_le1 r_x2 rl_0 (ti_le c_152) (by decide)
        refine lv_iconst (v := 0) hx hb dX10_book_159 (by decide) ?_
        refine tk_v (va_runV (As := [.int 0]) (rest := []) ⟨hx, hb, hml, hown, hts⟩ (c_X10_stay l D cy z H.size Ps ws hw.1 p0 0 h_p0 (rl_0.to (by decide))) (cwV 1 hts (gV tw_1739 tw_1741 ts_110 tw_15 tw_1742) rfl rfl rfl (by decide +kernel) ⟨Nat.le_of_ble_eq_true rfl, Nat.le_of_ble_eq_true rfl⟩) (tg_preV hw hK hSD hA (ci := 10) (q := (RX10, TX10, 49)) rfl h_p0 rfl) rfl rfl hl.1 rfl (lv_room (Nat.le_of_ble_eq_true rfl)) dX10_book_160 ⟨Nat.le_of_ble_eq_true rfl, Nat.le_of_ble_eq_true rfl⟩) hw hA ⟨by decide, by decide⟩ (fun ws H locs hp_v_10 hw hF9 => ?_)
        have m_z0_2 := FLD.over hF9 m_z0_2 (by decide)
        have m_z0_7 := FLD.over hF9 m_z0_7 (by decide)
        have m_z0_42 := FLD.over hF9 m_z0_42 (by decide)
        have n_k_8 := FLD.over hF9 n_k_8 (by decide)
        have x_LNS_p0 := LNS.over hF9 x_LNS_p0 (by decide)
        refine lv_iload_n hx hb dX10_book_163 rfl (lv_at hl 3 rfl) ?_
        refine lv_if_ne (tgt := 171) hx hb dX10_book_164 (by decide) (fun c_164 => ?_) (fun c_164 => ?_)
        · have r_x3 : RI x3 1 61 := rc_neL r_x3 rl_0 (ti_ne c_164) (by decide)
          refine lv_iload_n hx hb dX10_book_171 rfl (lv_at hl 2 rfl) ?_
          subst hQ
          exact W.iret (v := x2) hx hb hr (fun t ht hW => ⟨⟨x2, ws, rfl, ⟨⟨r_x2.to (by decide), (fun h0 => trivial), (fun _ => trivial)⟩, hw.1, hw.2.2.2.2.1⟩, by rw [ht]; exact hw.2.1, va_K.moved hW.alike hK, hw.2.2.1⟩, hw.2.2.2.1.F ht⟩) hw.2.2.2.1.2.2 dX10_book_172
        · have r_x3 : RI x3 0 0 := rc_eq1 r_x3 rl_0 (ti_eq c_164) (by decide)
          refine lv_iconst (v := (-1)) hx hb dX10_book_167 (by decide) ?_
          refine lv_goto (tgt := 172) hx hb dX10_book_168 (by decide) ?_
          subst hQ
          exact W.iret (v := (-1)) hx hb hr (fun t ht hW => ⟨⟨(-1), ws, rfl, ⟨⟨rl_m1.to (by decide), (fun _ => trivial), (fun h0 => trivial)⟩, hw.1, hw.2.2.2.2.1⟩, by rw [ht]; exact hw.2.1, va_K.moved hW.alike hK, hw.2.2.1⟩, hw.2.2.2.1.F ht⟩) hw.2.2.2.1.2.2 dX10_book_172
      · have r_x2 : RI x2 1 40 := rc_lt2 rl_0 r_x2 (ti_nle c_152) (by decide)
        refine lv_iconst (v := 1) hx hb dX10_book_155 (by decide) ?_
        refine lv_goto (tgt := 160) hx hb dX10_book_156 (by decide) ?_
        refine tk_v (va_runV (As := [.int 1]) (rest := []) ⟨hx, hb, hml, hown, hts⟩ (c_X10_stay l D cy z H.size Ps ws hw.1 p0 1 h_p0 (rl_1.to (by decide))) (cwV 1 hts (gV tw_1739 tw_1741 ts_110 tw_15 tw_1742) rfl rfl rfl (by decide +kernel) ⟨Nat.le_of_ble_eq_true rfl, Nat.le_of_ble_eq_true rfl⟩) (tg_preV hw hK hSD hA (ci := 10) (q := (RX10, TX10, 49)) rfl h_p0 rfl) rfl rfl hl.1 rfl (lv_room (Nat.le_of_ble_eq_true rfl)) dX10_book_160 ⟨Nat.le_of_ble_eq_true rfl, Nat.le_of_ble_eq_true rfl⟩) hw hA ⟨by decide, by decide⟩ (fun ws H locs hp_v_11 hw hF9 => ?_)
        have m_z0_2 := FLD.over hF9 m_z0_2 (by decide)
        have m_z0_7 := FLD.over hF9 m_z0_7 (by decide)
        have m_z0_42 := FLD.over hF9 m_z0_42 (by decide)
        have n_k_8 := FLD.over hF9 n_k_8 (by decide)
        have x_LNS_p0 := LNS.over hF9 x_LNS_p0 (by decide)
        refine lv_iload_n hx hb dX10_book_163 rfl (lv_at hl 3 rfl) ?_
        refine lv_if_ne (tgt := 171) hx hb dX10_book_164 (by decide) (fun c_164 => ?_) (fun c_164 => ?_)
        · have r_x3 : RI x3 1 61 := rc_neL r_x3 rl_0 (ti_ne c_164) (by decide)
          refine lv_iload_n hx hb dX10_book_171 rfl (lv_at hl 2 rfl) ?_
          subst hQ
          exact W.iret (v := x2) hx hb hr (fun t ht hW => ⟨⟨x2, ws, rfl, ⟨⟨r_x2.to (by decide), (fun _ => trivial), (fun h0 => trivial)⟩, hw.1, hw.2.2.2.2.1⟩, by rw [ht]; exact hw.2.1, va_K.moved hW.alike hK, hw.2.2.1⟩, hw.2.2.2.1.F ht⟩) hw.2.2.2.1.2.2 dX10_book_172
        · have r_x3 : RI x3 0 0 := rc_eq1 r_x3 rl_0 (ti_eq c_164) (by decide)
          refine lv_iconst (v := (-1)) hx hb dX10_book_167 (by decide) ?_
          refine lv_goto (tgt := 172) hx hb dX10_book_168 (by decide) ?_
          subst hQ
          exact W.iret (v := (-1)) hx hb hr (fun t ht hW => ⟨⟨(-1), ws, rfl, ⟨⟨rl_m1.to (by decide), (fun _ => trivial), (fun h0 => trivial)⟩, hw.1, hw.2.2.2.2.1⟩, by rw [ht]; exact hw.2.1, va_K.moved hW.alike hK, hw.2.2.1⟩, hw.2.2.2.1.F ht⟩) hw.2.2.2.1.2.2 dX10_book_172
  have B73 : ∀ (nf : Nat) (x2 : Int32) (x3 : Int32) (z0_2 : Int32) (z0_7 : Int32) (z0_42 : Int32) (ws : va_W) (H : Heap) (locs : List Loc) (ls : Array Slot), 2 * (41 - x2.toInt) + 1 - min x3.toInt 1 < (nf : Int) → RI p1 0 1 → RI x2 0 40 → RI x3 0 61 → RI z0_2 0 0 → FLD ws p0 10 2 (.int z0_2) → RI z0_7 0 0 → FLD ws p0 10 7 (.int z0_7) → RI z0_42 0 40 → FLD ws p0 10 42 (.int z0_42) → (0 ≤ Int32.toInt p1 ∧ Int32.toInt p1 ≤ 1) → LNS Ps ws p0 → WD D cy GG A s wr_X10_book wa_X10_book Ps w0 Ps ws H locs → lv_has ls 4 [(0, .ref p0), (1, .int p1), (2, .int x2), (3, .int x3)] → W p l e (headSpec (Cond.code yX10_book cX10_book 4 (some .int) :: gT) ({ frames := 8, cells := 0, slots := 0, locals := 1600 } : Room)).room s m ([.ref p0, .int p1] : List Value).toArray below meth c H locs 0 0 Q (F0 m 73 ls []) := by
    intro nf73
    induction nf73 with
    | zero =>
      intro x2 x3 z0_2 z0_7 z0_42 ws H locs ls hn73 r_p1 r_x2 r_x3 r_z0_2 m_z0_2 r_z0_7 m_z0_7 r_z0_42 m_z0_42 x_IMG1_p1 x_LNS_p0 hw hl
      exact absurd hn73 (by have q0 := r_x2.1; have u0 := r_x2.2; have q1 := r_x3.1; have u1 := r_x3.2; omega)
    | succ nf73 ih73 =>
      intro x2 x3 z0_2 z0_7 z0_42 ws H locs ls hn73 r_p1 r_x2 r_x3 r_z0_2 m_z0_2 r_z0_7 m_z0_7 r_z0_42 m_z0_42 x_IMG1_p1 x_LNS_p0 hw hl
      refine lv_iload_n hx hb dX10_book_73 rfl (lv_at hl 2 rfl) ?_
      refine lv_aload_n hx hb dX10_book_74 rfl (lv_at hl 0 rfl) ?_
      refine tg_mem (ci := 10) (C := RX10) (T := TX10) (N := 49) hx hb hts inX10 hown hK hw 42 m_z0_42 rfl (by decide) (hts _ tw_1179) (fun _ h9 => h9) dX10_book_75 ?_
      refine lv_icmp_ge (tgt := 103) hx hb dX10_book_78 (by decide) (fun c_78 => ?_) (fun c_78 => ?_)
      · exact B103 x2 x3 z0_2 z0_7 z0_42 ws _ _ ls r_p1 r_x2 r_x3 r_z0_2 m_z0_2 r_z0_7 m_z0_7 r_z0_42 m_z0_42 x_IMG1_p1 x_LNS_p0 hw hl
      · have r_x2 : RI x2 0 39 := rc_lt1 r_x2 r_z0_42 (ti_nle c_78) (by decide)
        have r_z0_42 : RI z0_42 1 40 := rc_lt2 r_x2 r_z0_42 (ti_nle c_78) (by decide)
        refine lv_iload_n hx hb dX10_book_81 rfl (lv_at hl 3 rfl) ?_
        refine lv_if_ne (tgt := 103) hx hb dX10_book_82 (by decide) (fun c_82 => ?_) (fun c_82 => ?_)
        · have r_x3 : RI x3 1 61 := rc_neL r_x3 rl_0 (ti_ne c_82) (by decide)
          exact B103 x2 x3 z0_2 z0_7 z0_42 ws _ _ ls r_p1 (r_x2.to (by decide)) (r_x3.to (by decide)) r_z0_2 m_z0_2 r_z0_7 m_z0_7 (r_z0_42.to (by decide)) m_z0_42 x_IMG1_p1 x_LNS_p0 hw hl
        · have r_x3 : RI x3 0 0 := rc_eq1 r_x3 rl_0 (ti_eq c_82) (by decide)
          refine lv_aload_n hx hb dX10_book_85 rfl (lv_at hl 0 rfl) ?_
          refine lv_iconst (v := 3) hx hb dX10_book_86 (by decide) ?_
          refine lv_iload_n hx hb dX10_book_87 rfl (lv_at hl 2 rfl) ?_
          refine lv_imul hx hb dX10_book_88 (lv_topi (fun v_12 e_v_12 => ?_))
          obtain ⟨t_v_12, r_v_12⟩ := tq_mul (lo := 0) (hi := 117) rl_3 r_x2 (by decide +kernel) e_v_12
          have t_v_12 : v_12.toInt = 3 * x2.toInt := t_v_12
          have x_GL_p0_v_12 : AX 40 52 (fun f => GLk f (Int32.toNatClampNeg v_12)) Ps ws p0 := LNS.gl (k := x2) hw x_LNS_p0 m_z0_42 r_x2.1 (ti_nle c_78) t_v_12
          refine tk_i (va_runV (As := [.int v_12]) (rest := []) ⟨hx, hb, hml, hown, hts⟩ (c_X10_goBy l D cy z H.size Ps ws hw.1 p0 v_12 h_p0 r_v_12 x_GL_p0_v_12) (cwV 1 hts (gV tw_1735 tw_1737 ts_109 tw_15 tw_1738) rfl rfl rfl (by decide +kernel) ⟨Nat.le_of_ble_eq_true rfl, Nat.le_of_ble_eq_true rfl⟩) (tg_preV hw hK hSD hA (ci := 10) (q := (RX10, TX10, 49)) rfl h_p0 rfl) rfl rfl hl.1 rfl (lv_room (Nat.le_of_ble_eq_true rfl)) dX10_book_89 ⟨Nat.le_of_ble_eq_true rfl, Nat.le_of_ble_eq_true rfl⟩) hw hA ⟨by decide, by decide⟩ (fun v_13 ws H locs hp_v_13 hw hF9 => ?_)
          have m_z0_2 := FLD.over hF9 m_z0_2 (by decide)
          have m_z0_7 := FLD.over hF9 m_z0_7 (by decide)
          have m_z0_42 := FLD.over hF9 m_z0_42 (by decide)
          have x_LNS_p0 := LNS.over hF9 x_LNS_p0 (by decide)
          have x_GL_p0_v_12 := AX.over hF9 x_GL_p0_v_12 (by decide)
          have r_v_13 : RI v_13 0 61 := hp_v_13.1
          refine lv_istore_n (lv' := [(3, .int v_13), (0, .ref p0), (1, .int p1), (2, .int x2)]) hx hb dX10_book_92 rfl hl (by decide) rfl (fun ls hl => ?_)
          refine lv_iload_n hx hb dX10_book_93 rfl (lv_at hl 0 rfl) ?_
          refine lv_if_ne (tgt := 73) hx hb dX10_book_94 (by decide) (fun c_94 => ?_) (fun c_94 => ?_)
          · have r_v_13 : RI v_13 1 61 := rc_neL r_v_13 rl_0 (ti_ne c_94) (by decide)
            exact ih73 x2 v_13 z0_2 z0_7 z0_42 ws _ _ ls (by have q0 := r_x2.1; have u0 := r_x2.2; have q1 := r_v_13.1; have u1 := r_v_13.2; have o1 := r_x3.1; have p1 := r_x3.2; omega) r_p1 (r_x2.to (by decide)) (r_v_13.to (by decide)) r_z0_2 m_z0_2 r_z0_7 m_z0_7 (r_z0_42.to (by decide)) m_z0_42 x_IMG1_p1 x_LNS_p0 hw (lv_sub hl [1, 2, 3, 0] rfl)
          · have r_v_13 : RI v_13 0 0 := rc_eq1 r_v_13 rl_0 (ti_eq c_94) (by decide)
            obtain ⟨v_14, e_v_14⟩ : ∃ q9 : Int32, q9 = x2 + Int32.ofInt 1 := ⟨_, rfl⟩
            obtain ⟨t_v_14, r_v_14⟩ := tq_add (lo := 1) (hi := 40) r_x2 (show RI (Int32.ofInt 1) 1 1 by unfold RI; decide +kernel) (by decide +kernel) e_v_14
            have t_v_14 : v_14.toInt = x2.toInt + 1 := t_v_14
            refine lv_iinc (v := v_14) (lv' := [(2, .int v_14), (3, .int v_13), (0, .ref p0), (1, .int p1)]) hx hb dX10_book_97 hl (k := 3) rfl e_v_14.symm (by decide) rfl (fun ls hl => ?_)
            refine lv_goto (tgt := 73) hx hb dX10_book_100 (by decide) ?_
            exact ih73 v_14 v_13 z0_2 z0_7 z0_42 ws _ _ ls (by have q0 := r_v_14.1; have u0 := r_v_14.2; have q1 := r_v_13.1; have u1 := r_v_13.2; have o0 := r_x2.1; have p0 := r_x2.2; have o1 := r_x3.1; have p1 := r_x3.2; omega) r_p1 (r_v_14.to (by decide)) (r_v_13.to (by decide)) r_z0_2 m_z0_2 r_z0_7 m_z0_7 (r_z0_42.to (by decide)) m_z0_42 x_IMG1_p1 x_LNS_p0 hw (lv_sub hl [2, 3, 0, 1] rfl)
  have B30 : ∀ (nf : Nat) (z0_2 : Int32) (z0_42 : Int32) (ws : va_W) (H : Heap) (locs : List Loc) (ls : Array Slot), 40 - z0_42.toInt < (nf : Int) → RI p1 0 1 → RI z0_2 0 0 → FLD ws p0 10 2 (.int z0_2) → RI z0_42 0 40 → FLD ws p0 10 42 (.int z0_42) → (0 ≤ Int32.toInt p1 ∧ Int32.toInt p1 ≤ 1) → LNS Ps ws p0 → WD D cy GG A s wr_X10_book wa_X10_book Ps w0 Ps ws H locs → lv_has ls 4 [(0, .ref p0), (1, .int p1)] → W p l e (headSpec (Cond.code yX10_book cX10_book 4 (some .int) :: gT) ({ frames := 8, cells := 0, slots := 0, locals := 1600 } : Room)).room s m ([.ref p0, .int p1] : List Value).toArray below meth c H locs 0 0 Q (F0 m 30 ls []) := by
    intro nf30
    induction nf30 with
    | zero =>
      intro z0_2 z0_42 ws H locs ls hn30 r_p1 r_z0_2 m_z0_2 r_z0_42 m_z0_42 x_IMG1_p1 x_LNS_p0 hw hl
      exact absurd hn30 (by have q0 := r_z0_42.1; have u0 := r_z0_42.2; omega)
    | succ nf30 ih30 =>
      intro z0_2 z0_42 ws H locs ls hn30 r_p1 r_z0_2 m_z0_2 r_z0_42 m_z0_42 x_IMG1_p1 x_LNS_p0 hw hl
      refine lv_aload_n hx hb dX10_book_30 rfl (lv_at hl 0 rfl) ?_
      refine tg_get (ci := 10) (ts := ty_MODEL) (C := RX10) (T := TX10) (N := 49) hx hb hts inX10 hown hK hw h_p0 rfl rfl 7 (by decide) (hts _ tw_1144) (fun _ h9 => h9) (ft := vI (-2147483648) 2147483647) rfl dX10_book_31 (fun u_15 hv_u_15 m_u_15 => ?_)
      obtain ⟨vu_15, rfl, r_vu_15⟩ := hv_u_15
      refine lv_if_eq (tgt := 65) hx hb dX10_book_34 (by decide) (fun c_34 => ?_) (fun c_34 => ?_)
      · have r_vu_15 : RI vu_15 0 0 := rc_eq1 r_vu_15 rl_0 (ti_eq c_34) (by decide)
        refine lv_aload_n hx hb dX10_book_65 rfl (lv_at hl 0 rfl) ?_
        refine tk_v (va_runV (As := []) (rest := []) ⟨hx, hb, hml, hown, hts⟩ (c_X10_layAside l D cy z H.size Ps ws hw.1 p0 h_p0) (cwV 0 hts (gV tw_1583 tw_1585 ts_88 tw_15 tw_1586) rfl rfl rfl (by decide +kernel) ⟨Nat.le_of_ble_eq_true rfl, Nat.le_of_ble_eq_true rfl⟩) (tg_preV hw hK hSD hA (ci := 10) (q := (RX10, TX10, 49)) rfl h_p0 rfl) rfl rfl hl.1 rfl (lv_room (Nat.le_of_ble_eq_true rfl)) dX10_book_66 ⟨Nat.le_of_ble_eq_true rfl, Nat.le_of_ble_eq_true rfl⟩) hw hA ⟨by decide, by decide⟩ (fun ws H locs hp_v_16 hw hF9 => ?_)
        have m_z0_2 := FLD.over hF9 m_z0_2 (by decide)
        have m_z0_42 := FLD.over hF9 m_z0_42 (by decide)
        have m_u_15 := FLD.over hF9 m_u_15 (by decide)
        have x_LNS_p0 := LNS.over hF9 x_LNS_p0 (by decide)
        refine lv_iconst (v := 0) hx hb dX10_book_69 (by decide) ?_
        refine lv_istore_n (lv' := [(2, .int 0), (0, .ref p0), (1, .int p1)]) hx hb dX10_book_70 rfl hl (by decide) rfl (fun ls hl => ?_)
        refine lv_iconst (v := 0) hx hb dX10_book_71 (by decide) ?_
        refine lv_istore_n (lv' := [(3, .int 0), (2, .int 0), (0, .ref p0), (1, .int p1)]) hx hb dX10_book_72 rfl hl (by decide) rfl (fun ls hl => ?_)
        exact B73 4294967298 0 0 z0_2 vu_15 z0_42 ws _ _ ls (by have q0 := rl_0.1; have u0 := rl_0.2; have q1 := rl_0.1; have u1 := rl_0.2; omega) r_p1 (rl_0.to (by decide)) (rl_0.to (by decide)) r_z0_2 m_z0_2 r_vu_15 m_u_15 r_z0_42 m_z0_42 x_IMG1_p1 x_LNS_p0 hw (lv_sub hl [2, 3, 1, 0] rfl)
      · refine lv_aload_n hx hb dX10_book_37 rfl (lv_at hl 0 rfl) ?_
        refine tk_i (va_runV (As := []) (rest := []) ⟨hx, hb, hml, hown, hts⟩ (c_X10_readBookLine l D cy z H.size Ps ws hw.1 p0 h_p0 x_LNS_p0) (cwV 0 hts (gV tw_1711 tw_1713 ts_103 tw_15 tw_1714) rfl rfl rfl (by decide +kernel) ⟨Nat.le_of_ble_eq_true rfl, Nat.le_of_ble_eq_true rfl⟩) (tg_preV hw hK hSD hA (ci := 10) (q := (RX10, TX10, 49)) rfl h_p0 rfl) rfl rfl hl.1 rfl (lv_room (Nat.le_of_ble_eq_true rfl)) dX10_book_38 ⟨Nat.le_of_ble_eq_true rfl, Nat.le_of_ble_eq_true rfl⟩) hw hA ⟨by decide, by decide⟩ (fun v_17 ws H locs hp_v_17 hw hF9 => ?_)
        have m_z0_2 := FLD.over hF9 m_z0_2 (by decide)
        have m_z0_42 := FLD.over hF9 m_z0_42 (by decide)
        have r_v_17 : RI v_17 0 1 := hp_v_17.1
        by_cases c9_v_17 : v_17 = 0
        · have r_v_17 : RI v_17 0 0 := by rw [c9_v_17]; exact rl_0
          refine lv_if_ne (tgt := 52) hx hb dX10_book_41 (by decide) (fun c_41 => ?_) (fun c_41 => ?_)
          · exact absurd (r_v_17.eq.trans rl_0.eq.symm) ((ti_ne c_41))
          · refine lv_bipush (v := (-2)) hx hb dX10_book_44 (by decide) ?_
            refine lv_aload_n hx hb dX10_book_46 rfl (lv_at hl 0 rfl) ?_
            refine tg_get (ci := 10) (ts := ty_MODEL) (C := RX10) (T := TX10) (N := 49) hx hb hts inX10 hown hK hw h_p0 rfl rfl 11 (by decide) (hts _ tw_1148) (fun _ h9 => h9) (ft := vI (-2147483648) 2147483647) rfl dX10_book_47 (fun u_18 hv_u_18 m_u_18 => ?_)
            obtain ⟨vu_18, rfl, r_vu_18⟩ := hv_u_18
            refine lv_isub hx hb dX10_book_50 (lv_topi (fun v_19 e_v_19 => ?_))
            have r_v_19 := ri_any v_19
            subst hQ
            exact W.iret (v := v_19) hx hb hr (fun t ht hW => ⟨⟨v_19, ws, rfl, ⟨⟨r_v_19.to (by decide), (fun h0 => trivial), (fun h0 => trivial)⟩, hw.1, hw.2.2.2.2.1⟩, by rw [ht]; exact hw.2.1, va_K.moved hW.alike hK, hw.2.2.1⟩, hw.2.2.2.1.F ht⟩) hw.2.2.2.1.2.2 dX10_book_51
        · have r_v_17 : RI v_17 1 1 := rc_neL r_v_17 rl_0 (ti_ne c9_v_17) (by decide)
          obtain ⟨v_20, m_v_20, r_v_20⟩ := ((hp_v_17.2.2 c9_v_17).1)
          have e_v_20 : v_20 = z0_42 := by have q9 := FLD.inj hw.2.2.1 m_v_20 m_z0_42; cases q9; rfl
          rw [e_v_20] at r_v_20
          have x_LNG_p0 := ((hp_v_17.2.2 c9_v_17).2.1)
          refine lv_if_ne (tgt := 52) hx hb dX10_book_41 (by decide) (fun c_41 => ?_) (fun c_41 => ?_)
          · refine lv_aload_n hx hb dX10_book_52 rfl (lv_at hl 0 rfl) ?_
            refine lv_dup hx hb dX10_book_53 rfl ?_
            refine tg_mem (ci := 10) (C := RX10) (T := TX10) (N := 49) hx hb hts inX10 hown hK hw 42 m_z0_42 rfl (by decide) (hts _ tw_1179) (fun _ h9 => h9) dX10_book_54 ?_
            refine lv_iconst (v := 1) hx hb dX10_book_57 (by decide) ?_
            refine lv_iadd hx hb dX10_book_58 (lv_topi (fun v_21 e_v_21 => ?_))
            obtain ⟨t_v_21, r_v_21⟩ := tq_add (lo := 1) (hi := 40) r_v_20 rl_1 (by decide +kernel) e_v_21
            have t_v_21 : v_21.toInt = z0_42.toInt + 1 := t_v_21
            have x_LA := LNG.get hw x_LNG_p0 m_z0_42
            refine tg_put (ci := 10) (ts := ty_MODEL) (v := .int v_21) (ty := .int) (C := RX10) (T := TX10) (N := 49) hx hb hts inX10 tyX10 tyX10_ok nmX10 hown hK hw h_p0 rfl rfl 42 (by decide) (hts _ tw_1179) (fun _ h9 => h9) rfl (by decide +kernel) rfl rfl (ft := vI 0 40) rfl ⟨_, rfl, (r_v_21.to (by decide))⟩ (by decide) dX10_book_59 (fun ws H locs hw n_k_22 hF9 => ?_)
            have m_z0_2 := FLD.over hF9 m_z0_2 (by decide)
            have x_LA := AX.over hF9 x_LA (by decide)
            have x_LNS_p0 : LNS Ps ws p0 := ⟨_, n_k_22, AX.imp x_LA (fun f9 h9 => fun j9 q9 => h9 j9 (by have k1 := t_v_21; omega))⟩
            refine lv_goto (tgt := 30) hx hb dX10_book_62 (by decide) ?_
            exact ih30 z0_2 v_21 ws _ _ ls (by have q0 := r_v_21.1; have u0 := r_v_21.2; have o0 := r_v_20.1; have p0 := r_v_20.2; omega) r_p1 r_z0_2 m_z0_2 (r_v_21.to (by decide)) n_k_22 x_IMG1_p1 x_LNS_p0 hw hl
          · have r_v_17 : RI v_17 1 0 := rc_eq1 r_v_17 rl_0 (ti_eq c_41) (by decide)
            exact (r_v_17.no (by decide)).elim
  refine lv_aload_n hx hb dX10_book_0 rfl (lv_at hl 0 rfl) ?_
  refine lv_iconst (v := 0) hx hb dX10_book_1 (by decide) ?_
  refine tg_put (ci := 10) (ts := ty_MODEL) (v := .int 0) (ty := .int) (C := RX10) (T := TX10) (N := 49) hx hb hts inX10 tyX10 tyX10_ok nmX10 hown hK hw h_p0 rfl rfl 0 (by decide) (hts _ tw_1137) (fun _ h9 => h9) rfl (by decide +kernel) rfl rfl (ft := vI (-2147483648) 2147483647) rfl ⟨_, rfl, (rl_0.to (by decide))⟩ (by decide) dX10_book_2 (fun ws H locs hw n_k_23 hF9 => ?_)
  refine lv_iload_n hx hb dX10_book_5 rfl (lv_at hl 1 rfl) ?_
  refine lv_iconst (v := 0) hx hb dX10_book_6 (by decide) ?_
  refine lv_iconst (v := 1) hx hb dX10_book_7 (by decide) ?_
  refine tk_ir (va_runS (As := [.int p1, .int 0, .int 1]) (rest := []) ⟨hx, hb, hml, hown, hts⟩ (c_X10_isIn__12 l D cy z H.size Ps ws hw.1 p1 0 1 r_p1 rl_0 rl_1) (va_cwS 3 hts (gS tw_1359 tw_1360 tw_15 tw_1361) rfl rfl rfl (by decide +kernel) ⟨Nat.le_of_ble_eq_true rfl, Nat.le_of_ble_eq_true rfl⟩) (tg_preS hw hK hSD hA) rfl rfl hl.1 rfl (lv_room (Nat.le_of_ble_eq_true rfl)) dX10_book_8 ⟨Nat.le_of_ble_eq_true rfl, Nat.le_of_ble_eq_true rfl⟩) hw hA (fun v_24  H locs hp_v_24 hw => ?_)
  have r_v_24 : RI v_24 0 1 := hp_v_24.1
  by_cases c9_v_24 : v_24 = 0
  · have r_v_24 : RI v_24 0 0 := by rw [c9_v_24]; exact rl_0
    have x_IMG0_p1 := ((hp_v_24.2.1 c9_v_24).1)
    refine lv_if_ne (tgt := 18) hx hb dX10_book_11 (by decide) (fun c_11 => ?_) (fun c_11 => ?_)
    · exact absurd (r_v_24.eq.trans rl_0.eq.symm) ((ti_ne c_11))
    · refine lv_sipush (v := (-1000)) hx hb dX10_book_14 (by decide) ?_
      subst hQ
      exact W.iret (v := (-1000)) hx hb hr (fun t ht hW => ⟨⟨(-1000), ws, rfl, ⟨⟨rl_m1000.to (by decide), (fun _ => trivial), (fun h0 => trivial)⟩, hw.1, hw.2.2.2.2.1⟩, by rw [ht]; exact hw.2.1, va_K.moved hW.alike hK, hw.2.2.1⟩, hw.2.2.2.1.F ht⟩) hw.2.2.2.1.2.2 dX10_book_17
  · have r_v_24 : RI v_24 1 1 := rc_neL r_v_24 rl_0 (ti_ne c9_v_24) (by decide)
    have r_p1 : RI p1 0 1 := ((hp_v_24.2.2 c9_v_24).1)
    have x_IMG1_p1 := ((hp_v_24.2.2 c9_v_24).2.1)
    refine lv_if_ne (tgt := 18) hx hb dX10_book_11 (by decide) (fun c_11 => ?_) (fun c_11 => ?_)
    · refine lv_aload_n hx hb dX10_book_18 rfl (lv_at hl 0 rfl) ?_
      refine lv_sipush (v := 400) hx hb dX10_book_19 (by decide) ?_
      refine tk_v (va_runV (As := [.int 400]) (rest := []) ⟨hx, hb, hml, hown, hts⟩ (c_X10_begin__3 l D cy z H.size Ps ws hw.1 p0 400 h_p0 rl_400) (cwV 1 hts (gV tw_1290 tw_1292 ts_38 tw_15 tw_1293) rfl rfl rfl (by decide +kernel) ⟨Nat.le_of_ble_eq_true rfl, Nat.le_of_ble_eq_true rfl⟩) (tg_preV hw hK hSD hA (ci := 10) (q := (RX10, TX10, 49)) rfl h_p0 rfl) rfl rfl hl.1 rfl (lv_room (Nat.le_of_ble_eq_true rfl)) dX10_book_22 ⟨Nat.le_of_ble_eq_true rfl, Nat.le_of_ble_eq_true rfl⟩) hw hA ⟨by decide, by decide⟩ (fun ws H locs hp_v_25 hw hF9 => ?_)
      obtain ⟨v_26, m_v_26, r_v_26⟩ := (hp_v_25.1)
      refine lv_aload_n hx hb dX10_book_25 rfl (lv_at hl 0 rfl) ?_
      refine lv_iconst (v := 0) hx hb dX10_book_26 (by decide) ?_
      refine tg_put (ci := 10) (ts := ty_MODEL) (v := .int 0) (ty := .int) (C := RX10) (T := TX10) (N := 49) hx hb hts inX10 tyX10 tyX10_ok nmX10 hown hK hw h_p0 rfl rfl 42 (by decide) (hts _ tw_1179) (fun _ h9 => h9) rfl (by decide +kernel) rfl rfl (ft := vI 0 40) rfl ⟨_, rfl, (rl_0.to (by decide))⟩ (by decide) dX10_book_27 (fun ws H locs hw n_k_27 hF9 => ?_)
      have m_v_26 := FLD.over hF9 m_v_26 (by decide)
      have x_LNS_p0 : LNS Ps ws p0 := ⟨_, n_k_27, AX.imp (lx_true hw h_p0) (fun f9 _ => fun j9 q9 => absurd q9 (by rw [Int32.toInt_zero]; omega))⟩
      exact B30 4294967298 v_26 0 ws _ _ ls (by have q0 := rl_0.1; have u0 := rl_0.2; omega) r_p1 r_v_26 m_v_26 (rl_0.to (by decide)) n_k_27 x_IMG1_p1 x_LNS_p0 hw hl
    · have r_v_24 : RI v_24 1 0 := rc_eq1 r_v_24 rl_0 (ti_eq c_11) (by decide)
      exact (r_v_24.no (by decide)).elim
