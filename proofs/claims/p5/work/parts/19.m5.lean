abbrev wr_X10_muchOf : List (Nat × Nat) := []
abbrev wa_X10_muchOf : List Nat := []
set_option maxHeartbeats 4000000 in
set_option maxRecDepth 100000 in
theorem c_X10_muchOf (l : Launch) (D : va_G) (cy : Nat → ClassId) (z : Nat → Nat) (sz : Nat) (Ps : PSI) (w0 : va_W) (hT : HT cy GG Ps w0) (p0 : Nat) (p1 : Int32) (p2 : Int32) (h_p0 : (p0, 55) ∈ Ps) (r_p1 : RI p1 0 5) (r_p2 : RI p2 0 5) : Met l yX10_muchOf (Cond.code yX10_muchOf cX10_muchOf 3 (some .int) :: gT) ({ frames := 0, cells := 0, slots := 0, locals := 200 } : Room) (va_Pc [.ref p0, .int p1, .int p2] (PRE D cy z w0 sz)) (va_Qi (fun (r : Int32) (u : Unit) => RI r (-2147483648) 2147483647 ∧ (r = 0 → True) ∧ (¬ r = 0 → True) ∧ (AX 14 34 (fun f => f (136 + 6 * Int32.toNatClampNeg p1 + Int32.toNatClampNeg p2) = r) Ps w0 p0 ∧ True) ∧ (r.toInt < 0 → True) ∧ (0 ≤ r.toInt → True)) (BB D cy (va_A w0 sz) (fun (u : Unit) => w0)) (va_A w0 sz)) 0 0 (va_A w0 sz) := by
  refine Met.ofW (cc := cX10_muchOf) (maxL := 3) (ret := (some .int)) (by decide) rfl ?_
  intro p e s m args below meth c s₁ B hml hv
  obtain ⟨rfl, hsz, hP, hK, hD0, hSD⟩ := hv
  have hx := B.exec
  have hb := B.bytes
  have hr := B.returns
  have hlocks := B.notSynchronized
  have hts : ∀ w ∈ gT, w.before _ s = true := fun w h => atoms_spec (ws := Cond.code yX10_muchOf cX10_muchOf 3 (some .int) :: gT) B.pre w (List.mem_cons_of_mem _ h)
  have hown : s.vm.findClass RX10 = some m.cls := findClass_of_methodNamed B.named
  subst hsz
  have hD := hD0.self (sz := s.heap.size)
  generalize hAe : va_A w0 s.heap.size = A at hD hSD ⊢
  have hA : ∀ q : Nat, s.heap.size ≤ q → A q := fun q h => by rw [← hAe]; exact Or.inr h
  have hl := lv_entry ([.ref p0, .int p1, .int p2]) (n := 3) (Nat.le_of_ble_eq_true rfl)
  rw [lg_entry_eq]
  generalize (lg_sl ([.ref p0, .int p1, .int p2]) ++ List.replicate (3 - (lg_sl ([.ref p0, .int p1, .int p2])).length) Slot.unset).toArray = ls at hl ⊢
  have hl : lv_has ls 3 [(0, .ref p0), (1, .int p1), (2, .int p2)] := hl
  refine nameQ (fun Q hQ => ?_)
  have hw : WD D cy GG A s wr_X10_muchOf wa_X10_muchOf Ps w0 Ps w0 s.heap [] := ⟨hT, hP, hD, va_S.rf, FR.rf, hT.1, [], (List.append_nil _).symm⟩
  refine lv_aload_n hx hb dX10_muchOf_0 rfl (lv_at hl 0 rfl) ?_
  refine tg_get (ci := 10) (ts := ty_MODEL) (C := RX10) (T := TX10) (N := 49) hx hb hts inX10 hown hK hw h_p0 rfl rfl 14 (by decide) (hts _ tw_1151) (fun _ h9 => h9) (ft := vR 34) rfl dX10_muchOf_1 (fun u_1 hv_u_1 m_u_1 => ?_)
  obtain ⟨vu_1, rfl, h_vu_1⟩ := hv_u_1
  refine lv_sipush (v := 136) hx hb dX10_muchOf_4 (by decide) ?_
  refine lv_bipush (v := 6) hx hb dX10_muchOf_7 (by decide) ?_
  refine lv_iload_n hx hb dX10_muchOf_9 rfl (lv_at hl 1 rfl) ?_
  refine lv_imul hx hb dX10_muchOf_10 (lv_topi (fun v_2 e_v_2 => ?_))
  obtain ⟨t_v_2, r_v_2⟩ := tq_mul (lo := 0) (hi := 30) rl_6 r_p1 (by decide +kernel) e_v_2
  have t_v_2 : v_2.toInt = 6 * p1.toInt := t_v_2
  refine lv_iadd hx hb dX10_muchOf_11 (lv_topi (fun v_3 e_v_3 => ?_))
  obtain ⟨t_v_3, r_v_3⟩ := tq_add (lo := 136) (hi := 166) rl_136 r_v_2 (by decide +kernel) e_v_3
  have t_v_3 : v_3.toInt = 136 + v_2.toInt := t_v_3
  refine lv_iload_n hx hb dX10_muchOf_12 rfl (lv_at hl 2 rfl) ?_
  refine lv_iadd hx hb dX10_muchOf_13 (lv_topi (fun v_4 e_v_4 => ?_))
  obtain ⟨t_v_4, r_v_4⟩ := tq_add (lo := 136) (hi := 171) r_v_3 r_p2 (by decide +kernel) e_v_4
  refine tg_iald (lo := (-2147483648)) (hi := 2147483647) hx hb hK hw h_vu_1 rfl 136 171 r_v_4 (by decide) (by decide +kernel) dX10_muchOf_14 (fun v_5 r_v_5 m_v_5 o_v_5 => ?_)
  have x_MUCH_p0_p1_p2_v_5 : AX 14 34 (fun f => f (136 + 6 * Int32.toNatClampNeg p1 + Int32.toNatClampNeg p2) = v_5) Ps w0 p0 := AX.mk hw h_vu_1 rfl m_u_1 (fun f9 g9 _ => by have e9 := g9 _ _ m_v_5; have j9 : Int32.toNatClampNeg v_4 = 136 + 6 * Int32.toNatClampNeg p1 + Int32.toNatClampNeg p2 := (by have k1 := r_v_4.cl (by decide); have k2 := r_p1.cl (by decide); have k3 := r_p2.cl (by decide); omega); rw [j9] at e9; exact e9)
  subst hQ
  exact W.iret (v := v_5) hx hb hr (fun t ht hW => ⟨⟨v_5, (), rfl, ⟨r_v_5.to (by decide), (fun h0 => trivial), (fun h0 => trivial), ⟨x_MUCH_p0_p1_p2_v_5, trivial⟩, (fun _ => trivial), (fun _ => trivial)⟩, by rw [ht]; exact hw.2.1, va_K.moved hW.alike hK, hw.2.2.1⟩, hw.2.2.2.1.F ht⟩) hw.2.2.2.1.2.2 dX10_muchOf_15
abbrev wr_X10_least : List (Nat × Nat) := []
abbrev wa_X10_least : List Nat := []
set_option maxHeartbeats 4000000 in
set_option maxRecDepth 100000 in
theorem c_X10_least (l : Launch) (D : va_G) (cy : Nat → ClassId) (z : Nat → Nat) (sz : Nat) (Ps : PSI) (w0 : va_W) (hT : HT cy GG Ps w0) (p0 : Int32) (p1 : Int32) (r_p0 : RI p0 99 99) (r_p1 : RI p1 (-2147483648) 2147483647) : Met l yX10_least (Cond.code yX10_least cX10_least 2 (some .int) :: gT) ({ frames := 0, cells := 0, slots := 0, locals := 200 } : Room) (va_Pc [.int p0, .int p1] (PRE D cy z w0 sz)) (va_Qi (fun (r : Int32) (u : Unit) => RI r (-2147483648) 99 ∧ (r = 0 → RI p1 (-2147483648) 99 ∧ True) ∧ (¬ r = 0 → True)) (BB D cy (va_A w0 sz) (fun (u : Unit) => w0)) (va_A w0 sz)) 0 0 (va_A w0 sz) := by
  refine Met.ofW (cc := cX10_least) (maxL := 2) (ret := (some .int)) (by decide) rfl ?_
  intro p e s m args below meth c s₁ B hml hv
  obtain ⟨rfl, hsz, hP, hK, hD0, hSD⟩ := hv
  have hx := B.exec
  have hb := B.bytes
  have hr := B.returns
  have hlocks := B.notSynchronized
  have hts : ∀ w ∈ gT, w.before _ s = true := fun w h => atoms_spec (ws := Cond.code yX10_least cX10_least 2 (some .int) :: gT) B.pre w (List.mem_cons_of_mem _ h)
  have hown : s.vm.findClass RX10 = some m.cls := findClass_of_methodNamed B.named
  subst hsz
  have hD := hD0.self (sz := s.heap.size)
  generalize hAe : va_A w0 s.heap.size = A at hD hSD ⊢
  have hA : ∀ q : Nat, s.heap.size ≤ q → A q := fun q h => by rw [← hAe]; exact Or.inr h
  have hl := lv_entry ([.int p0, .int p1]) (n := 2) (Nat.le_of_ble_eq_true rfl)
  rw [lg_entry_eq]
  generalize (lg_sl ([.int p0, .int p1]) ++ List.replicate (2 - (lg_sl ([.int p0, .int p1])).length) Slot.unset).toArray = ls at hl ⊢
  have hl : lv_has ls 2 [(0, .int p0), (1, .int p1)] := hl
  refine nameQ (fun Q hQ => ?_)
  have hw : WD D cy GG A s wr_X10_least wa_X10_least Ps w0 Ps w0 s.heap [] := ⟨hT, hP, hD, va_S.rf, FR.rf, hT.1, [], (List.append_nil _).symm⟩
  refine lv_iload_n hx hb dX10_least_0 rfl (lv_at hl 0 rfl) ?_
  refine lv_iload_n hx hb dX10_least_1 rfl (lv_at hl 1 rfl) ?_
  refine lv_icmp_ge (tgt := 9) hx hb dX10_least_2 (by decide) (fun c_2 => ?_) (fun c_2 => ?_)
  · have r_p1 : RI p1 (-2147483648) 99 := rc_le1 r_p1 r_p0 (ti_le c_2) (by decide)
    refine lv_iload_n hx hb dX10_least_9 rfl (lv_at hl 1 rfl) ?_
    subst hQ
    exact W.iret (v := p1) hx hb hr (fun t ht hW => ⟨⟨p1, (), rfl, ⟨r_p1.to (by decide), (fun h0 => ⟨r_p1, trivial⟩), (fun h0 => trivial)⟩, by rw [ht]; exact hw.2.1, va_K.moved hW.alike hK, hw.2.2.1⟩, hw.2.2.2.1.F ht⟩) hw.2.2.2.1.2.2 dX10_least_10
  · have r_p1 : RI p1 100 2147483647 := rc_lt2 r_p0 r_p1 (ti_nle c_2) (by decide)
    refine lv_iload_n hx hb dX10_least_5 rfl (lv_at hl 0 rfl) ?_
    refine lv_goto (tgt := 10) hx hb dX10_least_6 (by decide) ?_
    subst hQ
    exact W.iret (v := p0) hx hb hr (fun t ht hW => ⟨⟨p0, (), rfl, ⟨r_p0.to (by decide), (fun h0 => absurd (ti_eq h0) (by have h8 := r_p0; unfold RI at h8; rw [Int32.toInt_zero]; omega)), (fun h0 => trivial)⟩, by rw [ht]; exact hw.2.1, va_K.moved hW.alike hK, hw.2.2.1⟩, hw.2.2.2.1.F ht⟩) hw.2.2.2.1.2.2 dX10_least_10
abbrev wr_X10_adds : List (Nat × Nat) := []
abbrev wa_X10_adds : List Nat := [34]
set_option maxHeartbeats 4000000 in
set_option maxRecDepth 100000 in
theorem c_X10_adds (l : Launch) (D : va_G) (cy : Nat → ClassId) (z : Nat → Nat) (sz : Nat) (Ps : PSI) (w0 : va_W) (hT : HT cy GG Ps w0) (p0 : Nat) (p1 : Int32) (p2 : Int32) (p3 : Int32) (h_p0 : (p0, 55) ∈ Ps) (r_p1 : RI p1 0 5) (r_p2 : RI p2 0 5) (r_p3 : RI p3 (-2147483648) 2147483647) : Met l yX10_adds (Cond.code yX10_adds cX10_adds 4 none :: gT) ({ frames := 2, cells := 0, slots := 0, locals := 400 } : Room) (va_Pc [.ref p0, .int p1, .int p2, .int p3] (PRE D cy z w0 sz)) (va_Qv (fun (u : va_W) => (True) ∧ HT cy GG Ps u ∧ FR wr_X10_adds wa_X10_adds Ps w0 u) (BB D cy (va_A w0 sz) (fun (u : va_W) => u)) (va_A w0 sz)) 0 0 (va_A w0 sz) := by
  refine Met.ofW (cc := cX10_adds) (maxL := 4) (ret := none) (by decide) rfl ?_
  intro p e s m args below meth c s₁ B hml hv
  obtain ⟨rfl, hsz, hP, hK, hD0, hSD⟩ := hv
  have hx := B.exec
  have hb := B.bytes
  have hr := B.returns
  have hlocks := B.notSynchronized
  have hts : ∀ w ∈ gT, w.before _ s = true := fun w h => atoms_spec (ws := Cond.code yX10_adds cX10_adds 4 none :: gT) B.pre w (List.mem_cons_of_mem _ h)
  have hown : s.vm.findClass RX10 = some m.cls := findClass_of_methodNamed B.named
  subst hsz
  have hD := hD0.self (sz := s.heap.size)
  generalize hAe : va_A w0 s.heap.size = A at hD hSD ⊢
  have hA : ∀ q : Nat, s.heap.size ≤ q → A q := fun q h => by rw [← hAe]; exact Or.inr h
  have hl := lv_entry ([.ref p0, .int p1, .int p2, .int p3]) (n := 4) (Nat.le_of_ble_eq_true rfl)
  rw [lg_entry_eq]
  generalize (lg_sl ([.ref p0, .int p1, .int p2, .int p3]) ++ List.replicate (4 - (lg_sl ([.ref p0, .int p1, .int p2, .int p3])).length) Slot.unset).toArray = ls at hl ⊢
  have hl : lv_has ls 4 [(0, .ref p0), (1, .int p1), (2, .int p2), (3, .int p3)] := hl
  refine nameQ (fun Q hQ => ?_)
  have hw : WD D cy GG A s wr_X10_adds wa_X10_adds Ps w0 Ps w0 s.heap [] := ⟨hT, hP, hD, va_S.rf, FR.rf, hT.1, [], (List.append_nil _).symm⟩
  refine lv_aload_n hx hb dX10_adds_0 rfl (lv_at hl 0 rfl) ?_
  refine tg_get (ci := 10) (ts := ty_MODEL) (C := RX10) (T := TX10) (N := 49) hx hb hts inX10 hown hK hw h_p0 rfl rfl 14 (by decide) (hts _ tw_1151) (fun _ h9 => h9) (ft := vR 34) rfl dX10_adds_1 (fun u_1 hv_u_1 m_u_1 => ?_)
  obtain ⟨vu_1, rfl, h_vu_1⟩ := hv_u_1
  refine lv_sipush (v := 136) hx hb dX10_adds_4 (by decide) ?_
  refine lv_bipush (v := 6) hx hb dX10_adds_7 (by decide) ?_
  refine lv_iload_n hx hb dX10_adds_9 rfl (lv_at hl 1 rfl) ?_
  refine lv_imul hx hb dX10_adds_10 (lv_topi (fun v_2 e_v_2 => ?_))
  obtain ⟨t_v_2, r_v_2⟩ := tq_mul (lo := 0) (hi := 30) rl_6 r_p1 (by decide +kernel) e_v_2
  have t_v_2 : v_2.toInt = 6 * p1.toInt := t_v_2
  refine lv_iadd hx hb dX10_adds_11 (lv_topi (fun v_3 e_v_3 => ?_))
  obtain ⟨t_v_3, r_v_3⟩ := tq_add (lo := 136) (hi := 166) rl_136 r_v_2 (by decide +kernel) e_v_3
  have t_v_3 : v_3.toInt = 136 + v_2.toInt := t_v_3
  refine lv_iload_n hx hb dX10_adds_12 rfl (lv_at hl 2 rfl) ?_
  refine lv_iadd hx hb dX10_adds_13 (lv_topi (fun v_4 e_v_4 => ?_))
  obtain ⟨t_v_4, r_v_4⟩ := tq_add (lo := 136) (hi := 171) r_v_3 r_p2 (by decide +kernel) e_v_4
  refine lv_bipush (v := 99) hx hb dX10_adds_14 (by decide) ?_
  refine lv_aload_n hx hb dX10_adds_16 rfl (lv_at hl 0 rfl) ?_
  refine lv_iload_n hx hb dX10_adds_17 rfl (lv_at hl 1 rfl) ?_
  refine lv_iload_n hx hb dX10_adds_18 rfl (lv_at hl 2 rfl) ?_
  refine tk_ir (va_runV (As := [.int p1, .int p2]) (rest := [.int 99, .int v_4, .ref vu_1]) ⟨hx, hb, hml, hown, hts⟩ (c_X10_muchOf l D cy z s.heap.size Ps w0 hw.1 p0 p1 p2 h_p0 r_p1 r_p2) (cwV 2 hts (gV tw_1437 tw_1439 ts_67 tw_15 tw_1440) rfl rfl rfl (by decide +kernel) ⟨Nat.le_of_ble_eq_true rfl, Nat.le_of_ble_eq_true rfl⟩) (tg_preV hw hK hSD hA (ci := 10) (q := (RX10, TX10, 49)) rfl h_p0 rfl) rfl rfl hl.1 rfl (lv_room (Nat.le_of_ble_eq_true rfl)) dX10_adds_19 ⟨Nat.le_of_ble_eq_true rfl, Nat.le_of_ble_eq_true rfl⟩) hw hA (fun v_5  H locs hp_v_5 hw => ?_)
  have r_v_5 : RI v_5 (-2147483648) 2147483647 := hp_v_5.1
  have x_MUCH_p0_p1_p2_v_5 := hp_v_5.2.2.2.1.1
  refine lv_iload_n hx hb dX10_adds_22 rfl (lv_at hl 3 rfl) ?_
  refine lv_iadd hx hb dX10_adds_23 (lv_topi (fun v_6 e_v_6 => ?_))
  have r_v_6 := ri_any v_6
  refine tk_ir (va_runS (As := [.int 99, .int v_6]) (rest := [.int v_4, .ref vu_1]) ⟨hx, hb, hml, hown, hts⟩ (c_X10_least l D cy z H.size Ps w0 hw.1 99 v_6 rl_99 r_v_6) (va_cwS 2 hts (gS tw_1525 tw_1526 tw_15 tw_1527) rfl rfl rfl (by decide +kernel) ⟨Nat.le_of_ble_eq_true rfl, Nat.le_of_ble_eq_true rfl⟩) (tg_preS hw hK hSD hA) rfl rfl hl.1 rfl (lv_room (Nat.le_of_ble_eq_true rfl)) dX10_adds_24 ⟨Nat.le_of_ble_eq_true rfl, Nat.le_of_ble_eq_true rfl⟩) hw hA (fun v_7  H locs hp_v_7 hw => ?_)
  have r_v_7 : RI v_7 (-2147483648) 99 := hp_v_7.1
  refine tg_iast hx hb hK hw h_vu_1 rfl 136 171 r_v_4 (by decide) r_v_7 (by decide +kernel) (RN_upd (by decide) (by decide)) (by decide) dX10_adds_27 (fun ws H locs hw hF9 hU9 => ?_)
  subst hQ
  exact W.vret hx hb hr (fun t ht hW => ⟨⟨ws, rfl, ⟨trivial, hw.1, hw.2.2.2.2.1⟩, by rw [ht]; exact hw.2.1, va_K.moved hW.alike hK, hw.2.2.1⟩, hw.2.2.2.1.F ht⟩) hw.2.2.2.1.2.2 dX10_adds_28
abbrev wr_X10_bits : List (Nat × Nat) := []
abbrev wa_X10_bits : List Nat := []
set_option maxHeartbeats 4000000 in
set_option maxRecDepth 100000 in
theorem c_X10_bits (l : Launch) (D : va_G) (cy : Nat → ClassId) (z : Nat → Nat) (sz : Nat) (Ps : PSI) (w0 : va_W) (hT : HT cy GG Ps w0) (p0 : Int32) (r_p0 : RI p0 (-2147483648) 2147483647) : Met l yX10_bits (Cond.code yX10_bits cX10_bits 3 (some .int) :: gT) ({ frames := 0, cells := 0, slots := 0, locals := 200 } : Room) (va_Pc [.int p0] (PRE D cy z w0 sz)) (va_Qi (fun (r : Int32) (u : Unit) => RI r (-2147483648) 2147483647 ∧ (r = 0 → True) ∧ (¬ r = 0 → True)) (BB D cy (va_A w0 sz) (fun (u : Unit) => w0)) (va_A w0 sz)) 0 0 (va_A w0 sz) := by
  refine Met.ofW (cc := cX10_bits) (maxL := 3) (ret := (some .int)) (by decide) rfl ?_
  intro p e s m args below meth c s₁ B hml hv
  obtain ⟨rfl, hsz, hP, hK, hD0, hSD⟩ := hv
  have hx := B.exec
  have hb := B.bytes
  have hr := B.returns
  have hlocks := B.notSynchronized
  have hts : ∀ w ∈ gT, w.before _ s = true := fun w h => atoms_spec (ws := Cond.code yX10_bits cX10_bits 3 (some .int) :: gT) B.pre w (List.mem_cons_of_mem _ h)
  have hown : s.vm.findClass RX10 = some m.cls := findClass_of_methodNamed B.named
  subst hsz
  have hD := hD0.self (sz := s.heap.size)
  generalize hAe : va_A w0 s.heap.size = A at hD hSD ⊢
  have hA : ∀ q : Nat, s.heap.size ≤ q → A q := fun q h => by rw [← hAe]; exact Or.inr h
  have hl := lv_entry ([.int p0]) (n := 3) (Nat.le_of_ble_eq_true rfl)
  rw [lg_entry_eq]
  generalize (lg_sl ([.int p0]) ++ List.replicate (3 - (lg_sl ([.int p0])).length) Slot.unset).toArray = ls at hl ⊢
  have hl : lv_has ls 3 [(0, .int p0)] := hl
  refine nameQ (fun Q hQ => ?_)
  have hw : WD D cy GG A s wr_X10_bits wa_X10_bits Ps w0 Ps w0 s.heap [] := ⟨hT, hP, hD, va_S.rf, FR.rf, hT.1, [], (List.append_nil _).symm⟩
  have B4 : ∀ (nf : Nat) (x1 : Int32) (x2 : Int32) (H : Heap) (locs : List Loc) (ls : Array Slot), (x2.toBitVec.toNat : Int) < (nf : Int) → RI p0 (-2147483648) 2147483647 → RI x1 (-2147483648) 2147483647 → RI x2 (-2147483648) 2147483647 → WD D cy GG A s wr_X10_bits wa_X10_bits Ps w0 Ps w0 H locs → lv_has ls 3 [(0, .int p0), (1, .int x1), (2, .int x2)] → W p l e (headSpec (Cond.code yX10_bits cX10_bits 3 (some .int) :: gT) ({ frames := 0, cells := 0, slots := 0, locals := 200 } : Room)).room s m ([.int p0] : List Value).toArray below meth c H locs 0 0 Q (F0 m 4 ls []) := by
    intro nf4
    induction nf4 with
    | zero =>
      intro x1 x2 H locs ls hn4 r_p0 r_x1 r_x2 hw hl
      exact absurd hn4 (by omega)
    | succ nf4 ih4 =>
      intro x1 x2 H locs ls hn4 r_p0 r_x1 r_x2 hw hl
      refine lv_iload_n hx hb dX10_bits_4 rfl (lv_at hl 2 rfl) ?_
      refine lv_if_eq (tgt := 20) hx hb dX10_bits_5 (by decide) (fun c_5 => ?_) (fun c_5 => ?_)
      · have r_x2 : RI x2 0 0 := rc_eq1 r_x2 rl_0 (ti_eq c_5) (by decide)
        refine lv_iload_n hx hb dX10_bits_20 rfl (lv_at hl 1 rfl) ?_
        subst hQ
        exact W.iret (v := x1) hx hb hr (fun t ht hW => ⟨⟨x1, (), rfl, ⟨r_x1.to (by decide), (fun h0 => trivial), (fun h0 => trivial)⟩, by rw [ht]; exact hw.2.1, va_K.moved hW.alike hK, hw.2.2.1⟩, hw.2.2.2.1.F ht⟩) hw.2.2.2.1.2.2 dX10_bits_21
      · obtain ⟨v_1, e_v_1⟩ : ∃ q9 : Int32, q9 = x1 + Int32.ofInt 1 := ⟨_, rfl⟩
        have r_v_1 := ri_any v_1
        refine lv_iinc (v := v_1) (lv' := [(1, .int v_1), (0, .int p0), (2, .int x2)]) hx hb dX10_bits_8 hl (k := 1) rfl e_v_1.symm (by decide) rfl (fun ls hl => ?_)
        refine lv_iload_n hx hb dX10_bits_11 rfl (lv_at hl 2 rfl) ?_
        refine lv_iload_n hx hb dX10_bits_12 rfl (lv_at hl 2 rfl) ?_
        refine lv_iconst (v := 1) hx hb dX10_bits_13 (by decide) ?_
        refine lv_isub hx hb dX10_bits_14 (lv_topi (fun v_2 e_v_2 => ?_))
        have r_v_2 := ri_any v_2
        refine lv_iand hx hb dX10_bits_15 (lv_topi (fun v_3 e_v_3 => ?_))
        have r_v_3 := ri_any v_3
        refine lv_istore_n (lv' := [(2, .int v_3), (1, .int v_1), (0, .int p0)]) hx hb dX10_bits_16 rfl hl (by decide) rfl (fun ls hl => ?_)
        refine lv_goto (tgt := 4) hx hb dX10_bits_17 (by decide) ?_
        exact ih4 v_1 v_3 _ _ ls (by have q9 := (v_3).toBitVec.isLt; have q8 := tq_bits (ti_ne c_5) e_v_2 e_v_3; omega) r_p0 r_v_1 r_v_3 hw (lv_sub hl [2, 1, 0] rfl)
  refine lv_iconst (v := 0) hx hb dX10_bits_0 (by decide) ?_
  refine lv_istore_n (lv' := [(1, .int 0), (0, .int p0)]) hx hb dX10_bits_1 rfl hl (by decide) rfl (fun ls hl => ?_)
  refine lv_iload_n hx hb dX10_bits_2 rfl (lv_at hl 1 rfl) ?_
  refine lv_istore_n (lv' := [(2, .int p0), (1, .int 0), (0, .int p0)]) hx hb dX10_bits_3 rfl hl (by decide) rfl (fun ls hl => ?_)
  exact B4 4294967298 0 p0 _ _ ls (by have q9 := (p0).toBitVec.isLt; omega) r_p0 (rl_0.to (by decide)) r_p0 hw (lv_sub hl [2, 1, 0] rfl)
abbrev wr_X10_has : List (Nat × Nat) := []
abbrev wa_X10_has : List Nat := []
set_option maxHeartbeats 4000000 in
set_option maxRecDepth 100000 in
theorem c_X10_has (l : Launch) (D : va_G) (cy : Nat → ClassId) (z : Nat → Nat) (sz : Nat) (Ps : PSI) (w0 : va_W) (hT : HT cy GG Ps w0) (p0 : Int32) (p1 : Int32) (r_p0 : RI p0 (-2147483648) 2147483647) (r_p1 : RI p1 0 7) : Met l yX10_has (Cond.code yX10_has cX10_has 2 (some .boolean) :: gT) ({ frames := 0, cells := 0, slots := 0, locals := 200 } : Room) (va_Pc [.int p0, .int p1] (PRE D cy z w0 sz)) (va_Qi (fun (r : Int32) (u : Unit) => RI r 0 1 ∧ (r = 0 → True) ∧ (¬ r = 0 → True)) (BB D cy (va_A w0 sz) (fun (u : Unit) => w0)) (va_A w0 sz)) 0 0 (va_A w0 sz) := by
  refine Met.ofW (cc := cX10_has) (maxL := 2) (ret := (some .boolean)) (by decide) rfl ?_
  intro p e s m args below meth c s₁ B hml hv
  obtain ⟨rfl, hsz, hP, hK, hD0, hSD⟩ := hv
  have hx := B.exec
  have hb := B.bytes
  have hr := B.returns
  have hlocks := B.notSynchronized
  have hts : ∀ w ∈ gT, w.before _ s = true := fun w h => atoms_spec (ws := Cond.code yX10_has cX10_has 2 (some .boolean) :: gT) B.pre w (List.mem_cons_of_mem _ h)
  have hown : s.vm.findClass RX10 = some m.cls := findClass_of_methodNamed B.named
  subst hsz
  have hD := hD0.self (sz := s.heap.size)
  generalize hAe : va_A w0 s.heap.size = A at hD hSD ⊢
  have hA : ∀ q : Nat, s.heap.size ≤ q → A q := fun q h => by rw [← hAe]; exact Or.inr h
  have hl := lv_entry ([.int p0, .int p1]) (n := 2) (Nat.le_of_ble_eq_true rfl)
  rw [lg_entry_eq]
  generalize (lg_sl ([.int p0, .int p1]) ++ List.replicate (2 - (lg_sl ([.int p0, .int p1])).length) Slot.unset).toArray = ls at hl ⊢
  have hl : lv_has ls 2 [(0, .int p0), (1, .int p1)] := hl
  refine nameQ (fun Q hQ => ?_)
  have hw : WD D cy GG A s wr_X10_has wa_X10_has Ps w0 Ps w0 s.heap [] := ⟨hT, hP, hD, va_S.rf, FR.rf, hT.1, [], (List.append_nil _).symm⟩
  refine lv_iload_n hx hb dX10_has_0 rfl (lv_at hl 0 rfl) ?_
  refine lv_iload_n hx hb dX10_has_1 rfl (lv_at hl 1 rfl) ?_
  refine lv_ishr hx hb dX10_has_2 (lv_topi (fun v_1 e_v_1 => ?_))
  have r_v_1 := ri_any v_1
  refine lv_iconst (v := 1) hx hb dX10_has_3 (by decide) ?_
  refine lv_iand hx hb dX10_has_4 (lv_topi (fun v_2 e_v_2 => ?_))
  have r_v_2 : RI v_2 0 1 := by rw [e_v_2]; exact ri_and (d := 1) (rl_1.to (by decide)) (by decide)
  refine lv_iconst (v := 1) hx hb dX10_has_5 (by decide) ?_
  refine lv_icmp_ne (tgt := 13) hx hb dX10_has_6 (by decide) (fun c_6 => ?_) (fun c_6 => ?_)
  · have r_v_2 : RI v_2 0 0 := rc_neU r_v_2 rl_1 (ti_ne c_6) (by decide)
    refine lv_iconst (v := 0) hx hb dX10_has_13 (by decide) ?_
    subst hQ
    exact W.zret (v := 0) hx hb hr (rfl) (fun t ht hW => ⟨⟨0, (), rfl, ⟨rl_0.to (by decide), (fun h0 => trivial), (fun _ => trivial)⟩, by rw [ht]; exact hw.2.1, va_K.moved hW.alike hK, hw.2.2.1⟩, hw.2.2.2.1.F ht⟩) hw.2.2.2.1.2.2 dX10_has_14
  · have r_v_2 : RI v_2 1 1 := rc_eq1 r_v_2 rl_1 (ti_eq c_6) (by decide)
    refine lv_iconst (v := 1) hx hb dX10_has_9 (by decide) ?_
    refine lv_goto (tgt := 14) hx hb dX10_has_10 (by decide) ?_
    subst hQ
    exact W.zret (v := 1) hx hb hr (rfl) (fun t ht hW => ⟨⟨1, (), rfl, ⟨rl_1.to (by decide), (fun _ => trivial), (fun h0 => trivial)⟩, by rw [ht]; exact hw.2.1, va_K.moved hW.alike hK, hw.2.2.1⟩, hw.2.2.2.1.F ht⟩) hw.2.2.2.1.2.2 dX10_has_14
abbrev wr_X10_areUnlike : List (Nat × Nat) := []
abbrev wa_X10_areUnlike : List Nat := []
set_option maxHeartbeats 4000000 in
set_option maxRecDepth 100000 in
theorem c_X10_areUnlike (l : Launch) (D : va_G) (cy : Nat → ClassId) (z : Nat → Nat) (sz : Nat) (Ps : PSI) (w0 : va_W) (hT : HT cy GG Ps w0) (p0 : Nat) (p1 : Int32) (h_p0 : (p0, 55) ∈ Ps) (r_p1 : RI p1 (-2147483648) 2147483647) : Met l yX10_areUnlike (Cond.code yX10_areUnlike cX10_areUnlike 4 (some .boolean) :: gT) ({ frames := 2, cells := 0, slots := 0, locals := 400 } : Room) (va_Pc [.ref p0, .int p1] (PRE D cy z w0 sz)) (va_Qi (fun (r : Int32) (u : Unit) => RI r 0 1 ∧ (r = 0 → True) ∧ (¬ r = 0 → True)) (BB D cy (va_A w0 sz) (fun (u : Unit) => w0)) (va_A w0 sz)) 0 0 (va_A w0 sz) := by
  refine Met.ofW (cc := cX10_areUnlike) (maxL := 4) (ret := (some .boolean)) (by decide) rfl ?_
  intro p e s m args below meth c s₁ B hml hv
  obtain ⟨rfl, hsz, hP, hK, hD0, hSD⟩ := hv
  have hx := B.exec
  have hb := B.bytes
  have hr := B.returns
  have hlocks := B.notSynchronized
  have hts : ∀ w ∈ gT, w.before _ s = true := fun w h => atoms_spec (ws := Cond.code yX10_areUnlike cX10_areUnlike 4 (some .boolean) :: gT) B.pre w (List.mem_cons_of_mem _ h)
  have hown : s.vm.findClass RX10 = some m.cls := findClass_of_methodNamed B.named
  subst hsz
  have hD := hD0.self (sz := s.heap.size)
  generalize hAe : va_A w0 s.heap.size = A at hD hSD ⊢
  have hA : ∀ q : Nat, s.heap.size ≤ q → A q := fun q h => by rw [← hAe]; exact Or.inr h
  have hl := lv_entry ([.ref p0, .int p1]) (n := 4) (Nat.le_of_ble_eq_true rfl)
  rw [lg_entry_eq]
  generalize (lg_sl ([.ref p0, .int p1]) ++ List.replicate (4 - (lg_sl ([.ref p0, .int p1])).length) Slot.unset).toArray = ls at hl ⊢
  have hl : lv_has ls 4 [(0, .ref p0), (1, .int p1)] := hl
  refine nameQ (fun Q hQ => ?_)
  have hw : WD D cy GG A s wr_X10_areUnlike wa_X10_areUnlike Ps w0 Ps w0 s.heap [] := ⟨hT, hP, hD, va_S.rf, FR.rf, hT.1, [], (List.append_nil _).symm⟩
  have B4 : ∀ (nf : Nat) (x2 : Int32) (x3 : Int32) (H : Heap) (locs : List Loc) (ls : Array Slot), 8 - x3.toInt < (nf : Int) → RI p1 (-2147483648) 2147483647 → RI x2 (-2147483648) 2147483647 → RI x3 0 8 → WD D cy GG A s wr_X10_areUnlike wa_X10_areUnlike Ps w0 Ps w0 H locs → lv_has ls 4 [(0, .ref p0), (1, .int p1), (2, .int x2), (3, .int x3)] → W p l e (headSpec (Cond.code yX10_areUnlike cX10_areUnlike 4 (some .boolean) :: gT) ({ frames := 2, cells := 0, slots := 0, locals := 400 } : Room)).room s m ([.ref p0, .int p1] : List Value).toArray below meth c H locs 0 0 Q (F0 m 4 ls []) := by
    intro nf4
    induction nf4 with
    | zero =>
      intro x2 x3 H locs ls hn4 r_p1 r_x2 r_x3 hw hl
      exact absurd hn4 (by have q0 := r_x3.1; have u0 := r_x3.2; omega)
    | succ nf4 ih4 =>
      intro x2 x3 H locs ls hn4 r_p1 r_x2 r_x3 hw hl
      refine lv_iload_n hx hb dX10_areUnlike_4 rfl (lv_at hl 3 rfl) ?_
      refine lv_bipush (v := 8) hx hb dX10_areUnlike_5 (by decide) ?_
      refine lv_icmp_ge (tgt := 38) hx hb dX10_areUnlike_7 (by decide) (fun c_7 => ?_) (fun c_7 => ?_)
      · have r_x3 : RI x3 8 8 := rc_le2 rl_8 r_x3 (ti_le c_7) (by decide)
        refine lv_iload_n hx hb dX10_areUnlike_38 rfl (lv_at hl 2 rfl) ?_
        refine tk_ir (va_runS (As := [.int x2]) (rest := []) ⟨hx, hb, hml, hown, hts⟩ (c_X10_bits l D cy z H.size Ps w0 hw.1 x2 r_x2) (va_cwS 1 hts (gS tw_1576 tw_1577 tw_15 tw_1578) rfl rfl rfl (by decide +kernel) ⟨Nat.le_of_ble_eq_true rfl, Nat.le_of_ble_eq_true rfl⟩) (tg_preS hw hK hSD hA) rfl rfl hl.1 rfl (lv_room (Nat.le_of_ble_eq_true rfl)) dX10_areUnlike_39 ⟨Nat.le_of_ble_eq_true rfl, Nat.le_of_ble_eq_true rfl⟩) hw hA (fun v_1  H locs hp_v_1 hw => ?_)
        have r_v_1 : RI v_1 (-2147483648) 2147483647 := hp_v_1.1
        refine lv_iconst (v := 1) hx hb dX10_areUnlike_42 (by decide) ?_
        refine lv_icmp_le (tgt := 50) hx hb dX10_areUnlike_43 (by decide) (fun c_43 => ?_) (fun c_43 => ?_)
        · have r_v_1 : RI v_1 (-2147483648) 1 := rc_le1 r_v_1 rl_1 (ti_le c_43) (by decide)
          refine lv_iconst (v := 0) hx hb dX10_areUnlike_50 (by decide) ?_
          subst hQ
          exact W.zret (v := 0) hx hb hr (rfl) (fun t ht hW => ⟨⟨0, (), rfl, ⟨rl_0.to (by decide), (fun h0 => trivial), (fun _ => trivial)⟩, by rw [ht]; exact hw.2.1, va_K.moved hW.alike hK, hw.2.2.1⟩, hw.2.2.2.1.F ht⟩) hw.2.2.2.1.2.2 dX10_areUnlike_51
        · have r_v_1 : RI v_1 2 2147483647 := rc_lt2 rl_1 r_v_1 (ti_nle c_43) (by decide)
          refine lv_iconst (v := 1) hx hb dX10_areUnlike_46 (by decide) ?_
          refine lv_goto (tgt := 51) hx hb dX10_areUnlike_47 (by decide) ?_
          subst hQ
          exact W.zret (v := 1) hx hb hr (rfl) (fun t ht hW => ⟨⟨1, (), rfl, ⟨rl_1.to (by decide), (fun _ => trivial), (fun h0 => trivial)⟩, by rw [ht]; exact hw.2.1, va_K.moved hW.alike hK, hw.2.2.1⟩, hw.2.2.2.1.F ht⟩) hw.2.2.2.1.2.2 dX10_areUnlike_51
      · have r_x3 : RI x3 0 7 := rc_lt1 r_x3 rl_8 (ti_nle c_7) (by decide)
        refine lv_iload_n hx hb dX10_areUnlike_10 rfl (lv_at hl 1 rfl) ?_
        refine lv_iload_n hx hb dX10_areUnlike_11 rfl (lv_at hl 3 rfl) ?_
        refine tk_ir (va_runS (As := [.int p1, .int x3]) (rest := []) ⟨hx, hb, hml, hown, hts⟩ (c_X10_has l D cy z H.size Ps w0 hw.1 p1 x3 r_p1 r_x3) (va_cwS 2 hts (gS tw_1402 tw_1403 tw_15 tw_1404) rfl rfl rfl (by decide +kernel) ⟨Nat.le_of_ble_eq_true rfl, Nat.le_of_ble_eq_true rfl⟩) (tg_preS hw hK hSD hA) rfl rfl hl.1 rfl (lv_room (Nat.le_of_ble_eq_true rfl)) dX10_areUnlike_12 ⟨Nat.le_of_ble_eq_true rfl, Nat.le_of_ble_eq_true rfl⟩) hw hA (fun v_2  H locs hp_v_2 hw => ?_)
        have r_v_2 : RI v_2 0 1 := hp_v_2.1
        refine lv_if_eq (tgt := 32) hx hb dX10_areUnlike_15 (by decide) (fun c_15 => ?_) (fun c_15 => ?_)
        · have r_v_2 : RI v_2 0 0 := rc_eq1 r_v_2 rl_0 (ti_eq c_15) (by decide)
          obtain ⟨v_3, e_v_3⟩ : ∃ q9 : Int32, q9 = x3 + Int32.ofInt 1 := ⟨_, rfl⟩
          obtain ⟨t_v_3, r_v_3⟩ := tq_add (lo := 1) (hi := 8) r_x3 (show RI (Int32.ofInt 1) 1 1 by unfold RI; decide +kernel) (by decide +kernel) e_v_3
          have t_v_3 : v_3.toInt = x3.toInt + 1 := t_v_3
          refine lv_iinc (v := v_3) (lv' := [(3, .int v_3), (0, .ref p0), (1, .int p1), (2, .int x2)]) hx hb dX10_areUnlike_32 hl (k := 3) rfl e_v_3.symm (by decide) rfl (fun ls hl => ?_)
          refine lv_goto (tgt := 4) hx hb dX10_areUnlike_35 (by decide) ?_
          exact ih4 x2 v_3 _ _ ls (by have q0 := r_v_3.1; have u0 := r_v_3.2; have o0 := r_x3.1; have p0 := r_x3.2; omega) r_p1 r_x2 (r_v_3.to (by decide)) hw (lv_sub hl [1, 2, 3, 0] rfl)
        · have r_v_2 : RI v_2 1 1 := rc_neL r_v_2 rl_0 (ti_ne c_15) (by decide)
          refine lv_iload_n hx hb dX10_areUnlike_18 rfl (lv_at hl 2 rfl) ?_
          refine lv_iconst (v := 1) hx hb dX10_areUnlike_19 (by decide) ?_
          refine lv_aload_n hx hb dX10_areUnlike_20 rfl (lv_at hl 0 rfl) ?_
          refine tg_get (ci := 10) (ts := ty_MODEL) (C := RX10) (T := TX10) (N := 49) hx hb hts inX10 hown hK hw h_p0 rfl rfl 14 (by decide) (hts _ tw_1151) (fun _ h9 => h9) (ft := vR 34) rfl dX10_areUnlike_21 (fun u_4 hv_u_4 m_u_4 => ?_)
          obtain ⟨vu_4, rfl, h_vu_4⟩ := hv_u_4
          refine lv_bipush (v := 104) hx hb dX10_areUnlike_24 (by decide) ?_
          refine lv_iload_n hx hb dX10_areUnlike_26 rfl (lv_at hl 3 rfl) ?_
          refine lv_iadd hx hb dX10_areUnlike_27 (lv_topi (fun v_5 e_v_5 => ?_))
          obtain ⟨t_v_5, r_v_5⟩ := tq_add (lo := 104) (hi := 111) rl_104 r_x3 (by decide +kernel) e_v_5
          have t_v_5 : v_5.toInt = 104 + x3.toInt := t_v_5
          refine tg_iald (lo := 0) (hi := 5) hx hb hK hw h_vu_4 rfl 104 111 r_v_5 (by decide) (by decide +kernel) dX10_areUnlike_28 (fun v_6 r_v_6 m_v_6 o_v_6 => ?_)
          refine lv_ishl hx hb dX10_areUnlike_29 (lv_topi (fun v_7 e_v_7 => ?_))
          have r_v_7 : RI v_7 1 256 := by rw [e_v_7]; exact ri_shl1 (r_v_6.to (c := 0) (d := 5) (by decide)) (by decide)
          refine lv_ior hx hb dX10_areUnlike_30 (lv_topi (fun v_8 e_v_8 => ?_))
          have r_v_8 := ri_any v_8
          refine lv_istore_n (lv' := [(2, .int v_8), (0, .ref p0), (1, .int p1), (3, .int x3)]) hx hb dX10_areUnlike_31 rfl hl (by decide) rfl (fun ls hl => ?_)
          obtain ⟨v_9, e_v_9⟩ : ∃ q9 : Int32, q9 = x3 + Int32.ofInt 1 := ⟨_, rfl⟩
          obtain ⟨t_v_9, r_v_9⟩ := tq_add (lo := 1) (hi := 8) r_x3 (show RI (Int32.ofInt 1) 1 1 by unfold RI; decide +kernel) (by decide +kernel) e_v_9
          have t_v_9 : v_9.toInt = x3.toInt + 1 := t_v_9
          refine lv_iinc (v := v_9) (lv' := [(3, .int v_9), (2, .int v_8), (0, .ref p0), (1, .int p1)]) hx hb dX10_areUnlike_32 hl (k := 3) rfl e_v_9.symm (by decide) rfl (fun ls hl => ?_)
          refine lv_goto (tgt := 4) hx hb dX10_areUnlike_35 (by decide) ?_
          exact ih4 v_8 v_9 _ _ ls (by have q0 := r_v_9.1; have u0 := r_v_9.2; have o0 := r_x3.1; have p0 := r_x3.2; omega) r_p1 r_v_8 (r_v_9.to (by decide)) hw (lv_sub hl [2, 3, 1, 0] rfl)
  refine lv_iconst (v := 0) hx hb dX10_areUnlike_0 (by decide) ?_
  refine lv_istore_n (lv' := [(2, .int 0), (0, .ref p0), (1, .int p1)]) hx hb dX10_areUnlike_1 rfl hl (by decide) rfl (fun ls hl => ?_)
  refine lv_iconst (v := 0) hx hb dX10_areUnlike_2 (by decide) ?_
  refine lv_istore_n (lv' := [(3, .int 0), (2, .int 0), (0, .ref p0), (1, .int p1)]) hx hb dX10_areUnlike_3 rfl hl (by decide) rfl (fun ls hl => ?_)
  exact B4 4294967298 0 0 _ _ ls (by have q0 := rl_0.1; have u0 := rl_0.2; omega) r_p1 (rl_0.to (by decide)) (rl_0.to (by decide)) hw (lv_sub hl [2, 3, 1, 0] rfl)
abbrev wr_X10_ask : List (Nat × Nat) := [(10, 0)]
abbrev wa_X10_ask : List Nat := []
set_option maxHeartbeats 4000000 in
set_option maxRecDepth 100000 in
theorem c_X10_ask (l : Launch) (D : va_G) (cy : Nat → ClassId) (z : Nat → Nat) (sz : Nat) (Ps : PSI) (w0 : va_W) (hT : HT cy GG Ps w0) (p0 : Nat) (h_p0 : (p0, 55) ∈ Ps) : Met l yX10_ask (Cond.code yX10_ask cX10_ask 1 (some .int) :: gT) ({ frames := 0, cells := 0, slots := 0, locals := 200 } : Room) (va_Pc [.ref p0] (PRE D cy z w0 sz)) (va_Qi (fun (r : Int32) (u : va_W) => (RI r (-1) 7 ∧ (r = 0 → True) ∧ (¬ r = 0 → True)) ∧ HT cy GG Ps u ∧ FR wr_X10_ask wa_X10_ask Ps w0 u) (BB D cy (va_A w0 sz) (fun (u : va_W) => u)) (va_A w0 sz)) 0 0 (va_A w0 sz) := by
  refine Met.ofW (cc := cX10_ask) (maxL := 1) (ret := (some .int)) (by decide) rfl ?_
  intro p e s m args below meth c s₁ B hml hv
  obtain ⟨rfl, hsz, hP, hK, hD0, hSD⟩ := hv
  have hx := B.exec
  have hb := B.bytes
  have hr := B.returns
  have hlocks := B.notSynchronized
  have hts : ∀ w ∈ gT, w.before _ s = true := fun w h => atoms_spec (ws := Cond.code yX10_ask cX10_ask 1 (some .int) :: gT) B.pre w (List.mem_cons_of_mem _ h)
  have hown : s.vm.findClass RX10 = some m.cls := findClass_of_methodNamed B.named
  subst hsz
  have hD := hD0.self (sz := s.heap.size)
  generalize hAe : va_A w0 s.heap.size = A at hD hSD ⊢
  have hA : ∀ q : Nat, s.heap.size ≤ q → A q := fun q h => by rw [← hAe]; exact Or.inr h
  have hl := lv_entry ([.ref p0]) (n := 1) (Nat.le_of_ble_eq_true rfl)
  rw [lg_entry_eq]
  generalize (lg_sl ([.ref p0]) ++ List.replicate (1 - (lg_sl ([.ref p0])).length) Slot.unset).toArray = ls at hl ⊢
  have hl : lv_has ls 1 [(0, .ref p0)] := hl
  refine nameQ (fun Q hQ => ?_)
  have hw : WD D cy GG A s wr_X10_ask wa_X10_ask Ps w0 Ps w0 s.heap [] := ⟨hT, hP, hD, va_S.rf, FR.rf, hT.1, [], (List.append_nil _).symm⟩
  refine lv_aload_n hx hb dX10_ask_0 rfl (lv_at hl 0 rfl) ?_
  refine lv_iconst (v := 0) hx hb dX10_ask_1 (by decide) ?_
  refine tg_put (ci := 10) (ts := ty_MODEL) (v := .int 0) (ty := .int) (C := RX10) (T := TX10) (N := 49) hx hb hts inX10 tyX10 tyX10_ok nmX10 hown hK hw h_p0 rfl rfl 0 (by decide) (hts _ tw_1137) (fun _ h9 => h9) rfl (by decide +kernel) rfl rfl (ft := vI (-2147483648) 2147483647) rfl ⟨_, rfl, (rl_0.to (by decide))⟩ (by decide) dX10_ask_2 (fun ws H locs hw n_k_1 hF9 => ?_)
  refine lv_aload_n hx hb dX10_ask_5 rfl (lv_at hl 0 rfl) ?_
  refine tg_get (ci := 10) (ts := ty_MODEL) (C := RX10) (T := TX10) (N := 49) hx hb hts inX10 hown hK hw h_p0 rfl rfl 30 (by decide) (hts _ tw_1167) (fun _ h9 => h9) (ft := vI (-1) 7) rfl dX10_ask_6 (fun u_2 hv_u_2 m_u_2 => ?_)
  obtain ⟨vu_2, rfl, r_vu_2⟩ := hv_u_2
  subst hQ
  exact W.iret (v := vu_2) hx hb hr (fun t ht hW => ⟨⟨vu_2, ws, rfl, ⟨⟨r_vu_2.to (by decide), (fun h0 => trivial), (fun h0 => trivial)⟩, hw.1, hw.2.2.2.2.1⟩, by rw [ht]; exact hw.2.1, va_K.moved hW.alike hK, hw.2.2.1⟩, hw.2.2.2.1.F ht⟩) hw.2.2.2.1.2.2 dX10_ask_9
abbrev wr_X10_back : List (Nat × Nat) := []
abbrev wa_X10_back : List Nat := [34]
set_option maxHeartbeats 4000000 in
set_option maxRecDepth 100000 in
theorem c_X10_back (l : Launch) (D : va_G) (cy : Nat → ClassId) (z : Nat → Nat) (sz : Nat) (Ps : PSI) (w0 : va_W) (hT : HT cy GG Ps w0) (p0 : Nat) (h_p0 : (p0, 55) ∈ Ps) : Met l yX10_back (Cond.code yX10_back cX10_back 2 none :: gT) ({ frames := 0, cells := 0, slots := 0, locals := 200 } : Room) (va_Pc [.ref p0] (PRE D cy z w0 sz)) (va_Qv (fun (u : va_W) => (True) ∧ HT cy GG Ps u ∧ FR wr_X10_back wa_X10_back Ps w0 u) (BB D cy (va_A w0 sz) (fun (u : va_W) => u)) (va_A w0 sz)) 0 0 (va_A w0 sz) := by
  refine Met.ofW (cc := cX10_back) (maxL := 2) (ret := none) (by decide) rfl ?_
  intro p e s m args below meth c s₁ B hml hv
  obtain ⟨rfl, hsz, hP, hK, hD0, hSD⟩ := hv
  have hx := B.exec
  have hb := B.bytes
  have hr := B.returns
  have hlocks := B.notSynchronized
  have hts : ∀ w ∈ gT, w.before _ s = true := fun w h => atoms_spec (ws := Cond.code yX10_back cX10_back 2 none :: gT) B.pre w (List.mem_cons_of_mem _ h)
  have hown : s.vm.findClass RX10 = some m.cls := findClass_of_methodNamed B.named
  subst hsz
  have hD := hD0.self (sz := s.heap.size)
  generalize hAe : va_A w0 s.heap.size = A at hD hSD ⊢
  have hA : ∀ q : Nat, s.heap.size ≤ q → A q := fun q h => by rw [← hAe]; exact Or.inr h
  have hl := lv_entry ([.ref p0]) (n := 2) (Nat.le_of_ble_eq_true rfl)
  rw [lg_entry_eq]
  generalize (lg_sl ([.ref p0]) ++ List.replicate (2 - (lg_sl ([.ref p0])).length) Slot.unset).toArray = ls at hl ⊢
  have hl : lv_has ls 2 [(0, .ref p0)] := hl
  refine nameQ (fun Q hQ => ?_)
  have hw : WD D cy GG A s wr_X10_back wa_X10_back Ps w0 Ps w0 s.heap [] := ⟨hT, hP, hD, va_S.rf, FR.rf, hT.1, [], (List.append_nil _).symm⟩
  have B2 : ∀ (nf : Nat) (x1 : Int32) (ws : va_W) (H : Heap) (locs : List Loc) (ls : Array Slot), 88 - x1.toInt < (nf : Int) → RI x1 0 88 → WD D cy GG A s wr_X10_back wa_X10_back Ps w0 Ps ws H locs → lv_has ls 2 [(0, .ref p0), (1, .int x1)] → W p l e (headSpec (Cond.code yX10_back cX10_back 2 none :: gT) ({ frames := 0, cells := 0, slots := 0, locals := 200 } : Room)).room s m ([.ref p0] : List Value).toArray below meth c H locs 0 0 Q (F0 m 2 ls []) := by
    intro nf2
    induction nf2 with
    | zero =>
      intro x1 ws H locs ls hn2 r_x1 hw hl
      exact absurd hn2 (by have q0 := r_x1.1; have u0 := r_x1.2; omega)
    | succ nf2 ih2 =>
      intro x1 ws H locs ls hn2 r_x1 hw hl
      refine lv_iload_n hx hb dX10_back_2 rfl (lv_at hl 1 rfl) ?_
      refine lv_bipush (v := 88) hx hb dX10_back_3 (by decide) ?_
      refine lv_icmp_ge (tgt := 29) hx hb dX10_back_5 (by decide) (fun c_5 => ?_) (fun c_5 => ?_)
      · have r_x1 : RI x1 88 88 := rc_le2 rl_88 r_x1 (ti_le c_5) (by decide)
        subst hQ
        exact W.vret hx hb hr (fun t ht hW => ⟨⟨ws, rfl, ⟨trivial, hw.1, hw.2.2.2.2.1⟩, by rw [ht]; exact hw.2.1, va_K.moved hW.alike hK, hw.2.2.1⟩, hw.2.2.2.1.F ht⟩) hw.2.2.2.1.2.2 dX10_back_29
      · have r_x1 : RI x1 0 87 := rc_lt1 r_x1 rl_88 (ti_nle c_5) (by decide)
        refine lv_aload_n hx hb dX10_back_8 rfl (lv_at hl 0 rfl) ?_
        refine tg_get (ci := 10) (ts := ty_MODEL) (C := RX10) (T := TX10) (N := 49) hx hb hts inX10 hown hK hw h_p0 rfl rfl 14 (by decide) (hts _ tw_1151) (fun _ h9 => h9) (ft := vR 34) rfl dX10_back_9 (fun u_1 hv_u_1 m_u_1 => ?_)
        obtain ⟨vu_1, rfl, h_vu_1⟩ := hv_u_1
        refine lv_bipush (v := 84) hx hb dX10_back_12 (by decide) ?_
        refine lv_iload_n hx hb dX10_back_14 rfl (lv_at hl 1 rfl) ?_
        refine lv_iadd hx hb dX10_back_15 (lv_topi (fun v_2 e_v_2 => ?_))
        obtain ⟨t_v_2, r_v_2⟩ := tq_add (lo := 84) (hi := 171) rl_84 r_x1 (by decide +kernel) e_v_2
        have t_v_2 : v_2.toInt = 84 + x1.toInt := t_v_2
        refine lv_aload_n hx hb dX10_back_16 rfl (lv_at hl 0 rfl) ?_
        refine tg_get (ci := 10) (ts := ty_MODEL) (C := RX10) (T := TX10) (N := 49) hx hb hts inX10 hown hK hw h_p0 rfl rfl 19 (by decide) (hts _ tw_1156) (fun _ h9 => h9) (ft := vR 39) rfl dX10_back_17 (fun u_3 hv_u_3 m_u_3 => ?_)
        obtain ⟨vu_3, rfl, h_vu_3⟩ := hv_u_3
        refine lv_iload_n hx hb dX10_back_20 rfl (lv_at hl 1 rfl) ?_
        refine tg_iald (lo := (-2147483648)) (hi := 2147483647) hx hb hK hw h_vu_3 rfl 0 87 r_x1 (by decide) (by decide +kernel) dX10_back_21 (fun v_4 r_v_4 m_v_4 o_v_4 => ?_)
        have e_5 : 84 + x1.toNatClampNeg = v_2.toNatClampNeg := by have k1 := r_x1.cl (by decide); have k2 := r_v_2.cl (by decide); have b10 := r_x1.1; have b20 := r_x1.2; have b11 := r_v_2.1; have b21 := r_v_2.2; have b12 := r_v_4.1; have b22 := r_v_4.2; omega
        refine tg_iasto hx hb hK hw h_vu_1 rfl 84 171 r_v_2 (by decide) (show RI _ (canon (v_2.toNatClampNeg)).1 (canon (v_2.toNatClampNeg)).2 by rw [← e_5]; exact o_v_4) (RN_upd (by decide) (by decide)) (by decide) dX10_back_22 (fun ws H locs hw hF9 hU9 => ?_)
        obtain ⟨v_6, e_v_6⟩ : ∃ q9 : Int32, q9 = x1 + Int32.ofInt 1 := ⟨_, rfl⟩
        obtain ⟨t_v_6, r_v_6⟩ := tq_add (lo := 1) (hi := 88) r_x1 (show RI (Int32.ofInt 1) 1 1 by unfold RI; decide +kernel) (by decide +kernel) e_v_6
        have t_v_6 : v_6.toInt = x1.toInt + 1 := t_v_6
        refine lv_iinc (v := v_6) (lv' := [(1, .int v_6), (0, .ref p0)]) hx hb dX10_back_23 hl (k := 1) rfl e_v_6.symm (by decide) rfl (fun ls hl => ?_)
        refine lv_goto (tgt := 2) hx hb dX10_back_26 (by decide) ?_
        exact ih2 v_6 ws _ _ ls (by have q0 := r_v_6.1; have u0 := r_v_6.2; have o0 := r_x1.1; have p0 := r_x1.2; omega) (r_v_6.to (by decide)) hw (lv_sub hl [1, 0] rfl)
  refine lv_iconst (v := 0) hx hb dX10_back_0 (by decide) ?_
  refine lv_istore_n (lv' := [(1, .int 0), (0, .ref p0)]) hx hb dX10_back_1 rfl hl (by decide) rfl (fun ls hl => ?_)
  exact B2 4294967298 0 w0 _ _ ls (by have q0 := rl_0.1; have u0 := rl_0.2; omega) (rl_0.to (by decide)) hw (lv_sub hl [1, 0] rfl)
abbrev wr_X10_isIn : List (Nat × Nat) := []
abbrev wa_X10_isIn : List Nat := []
set_option maxHeartbeats 4000000 in
set_option maxRecDepth 100000 in
theorem c_X10_isIn (l : Launch) (D : va_G) (cy : Nat → ClassId) (z : Nat → Nat) (sz : Nat) (Ps : PSI) (w0 : va_W) (hT : HT cy GG Ps w0) (p0 : Int32) (p1 : Int32) (p2 : Int32) (r_p0 : RI p0 (-2147483648) 2147483647) (r_p1 : RI p1 0 0) (r_p2 : RI p2 (-1) 63) : Met l yX10_isIn (Cond.code yX10_isIn cX10_isIn 3 (some .boolean) :: gT) ({ frames := 0, cells := 0, slots := 0, locals := 200 } : Room) (va_Pc [.int p0, .int p1, .int p2] (PRE D cy z w0 sz)) (va_Qi (fun (r : Int32) (u : Unit) => RI r 0 1 ∧ (r = 0 → True) ∧ (¬ r = 0 → RI p0 0 63 ∧ RI p2 0 63 ∧ True)) (BB D cy (va_A w0 sz) (fun (u : Unit) => w0)) (va_A w0 sz)) 0 0 (va_A w0 sz) := by
  refine Met.ofW (cc := cX10_isIn) (maxL := 3) (ret := (some .boolean)) (by decide) rfl ?_
  intro p e s m args below meth c s₁ B hml hv
  obtain ⟨rfl, hsz, hP, hK, hD0, hSD⟩ := hv
  have hx := B.exec
  have hb := B.bytes
  have hr := B.returns
  have hlocks := B.notSynchronized
  have hts : ∀ w ∈ gT, w.before _ s = true := fun w h => atoms_spec (ws := Cond.code yX10_isIn cX10_isIn 3 (some .boolean) :: gT) B.pre w (List.mem_cons_of_mem _ h)
  have hown : s.vm.findClass RX10 = some m.cls := findClass_of_methodNamed B.named
  subst hsz
  have hD := hD0.self (sz := s.heap.size)
  generalize hAe : va_A w0 s.heap.size = A at hD hSD ⊢
  have hA : ∀ q : Nat, s.heap.size ≤ q → A q := fun q h => by rw [← hAe]; exact Or.inr h
  have hl := lv_entry ([.int p0, .int p1, .int p2]) (n := 3) (Nat.le_of_ble_eq_true rfl)
  rw [lg_entry_eq]
  generalize (lg_sl ([.int p0, .int p1, .int p2]) ++ List.replicate (3 - (lg_sl ([.int p0, .int p1, .int p2])).length) Slot.unset).toArray = ls at hl ⊢
  have hl : lv_has ls 3 [(0, .int p0), (1, .int p1), (2, .int p2)] := hl
  refine nameQ (fun Q hQ => ?_)
  have hw : WD D cy GG A s wr_X10_isIn wa_X10_isIn Ps w0 Ps w0 s.heap [] := ⟨hT, hP, hD, va_S.rf, FR.rf, hT.1, [], (List.append_nil _).symm⟩
  refine lv_iload_n hx hb dX10_isIn_0 rfl (lv_at hl 0 rfl) ?_
  refine lv_iload_n hx hb dX10_isIn_1 rfl (lv_at hl 1 rfl) ?_
  refine lv_icmp_lt (tgt := 14) hx hb dX10_isIn_2 (by decide) (fun c_2 => ?_) (fun c_2 => ?_)
  · have r_p0 : RI p0 (-2147483648) (-1) := rc_lt1 r_p0 r_p1 (ti_lt c_2) (by decide)
    refine lv_iconst (v := 0) hx hb dX10_isIn_14 (by decide) ?_
    subst hQ
    exact W.zret (v := 0) hx hb hr (rfl) (fun t ht hW => ⟨⟨0, (), rfl, ⟨rl_0.to (by decide), (fun h0 => trivial), (fun h0 => absurd rfl h0)⟩, by rw [ht]; exact hw.2.1, va_K.moved hW.alike hK, hw.2.2.1⟩, hw.2.2.2.1.F ht⟩) hw.2.2.2.1.2.2 dX10_isIn_15
  · have r_p0 : RI p0 0 2147483647 := rc_le2 r_p1 r_p0 (ti_nlt c_2) (by decide)
    refine lv_iload_n hx hb dX10_isIn_5 rfl (lv_at hl 0 rfl) ?_
    refine lv_iload_n hx hb dX10_isIn_6 rfl (lv_at hl 2 rfl) ?_
    refine lv_icmp_gt (tgt := 14) hx hb dX10_isIn_7 (by decide) (fun c_7 => ?_) (fun c_7 => ?_)
    · refine lv_iconst (v := 0) hx hb dX10_isIn_14 (by decide) ?_
      subst hQ
      exact W.zret (v := 0) hx hb hr (rfl) (fun t ht hW => ⟨⟨0, (), rfl, ⟨rl_0.to (by decide), (fun h0 => trivial), (fun h0 => absurd rfl h0)⟩, by rw [ht]; exact hw.2.1, va_K.moved hW.alike hK, hw.2.2.1⟩, hw.2.2.2.1.F ht⟩) hw.2.2.2.1.2.2 dX10_isIn_15
    · have r_p0 : RI p0 0 63 := rc_le1 r_p0 r_p2 (ti_nlt c_7) (by decide)
      have r_p2 : RI p2 0 63 := rc_le2 r_p0 r_p2 (ti_nlt c_7) (by decide)
      refine lv_iconst (v := 1) hx hb dX10_isIn_10 (by decide) ?_
      refine lv_goto (tgt := 15) hx hb dX10_isIn_11 (by decide) ?_
      subst hQ
      exact W.zret (v := 1) hx hb hr (rfl) (fun t ht hW => ⟨⟨1, (), rfl, ⟨rl_1.to (by decide), (fun _ => trivial), (fun h0 => ⟨r_p0, r_p2, trivial⟩)⟩, by rw [ht]; exact hw.2.1, va_K.moved hW.alike hK, hw.2.2.1⟩, hw.2.2.2.1.F ht⟩) hw.2.2.2.1.2.2 dX10_isIn_15
abbrev wr_X10_byteAt : List (Nat × Nat) := [(10, 0)]
abbrev wa_X10_byteAt : List Nat := []
set_option maxHeartbeats 4000000 in
set_option maxRecDepth 100000 in
theorem c_X10_byteAt (l : Launch) (D : va_G) (cy : Nat → ClassId) (z : Nat → Nat) (sz : Nat) (Ps : PSI) (w0 : va_W) (hT : HT cy GG Ps w0) (p0 : Nat) (p1 : Int32) (h_p0 : (p0, 55) ∈ Ps) (r_p1 : RI p1 (-2147483648) 2147483647) : Met l yX10_byteAt (Cond.code yX10_byteAt cX10_byteAt 2 (some .int) :: gT) ({ frames := 2, cells := 0, slots := 0, locals := 400 } : Room) (va_Pc [.ref p0, .int p1] (PRE D cy z w0 sz)) (va_Qi (fun (r : Int32) (u : va_W) => (RI r (-2147483648) 2147483647 ∧ (r = 0 → True) ∧ (¬ r = 0 → True)) ∧ HT cy GG Ps u ∧ FR wr_X10_byteAt wa_X10_byteAt Ps w0 u) (BB D cy (va_A w0 sz) (fun (u : va_W) => u)) (va_A w0 sz)) 0 0 (va_A w0 sz) := by
  refine Met.ofW (cc := cX10_byteAt) (maxL := 2) (ret := (some .int)) (by decide) rfl ?_
  intro p e s m args below meth c s₁ B hml hv
  obtain ⟨rfl, hsz, hP, hK, hD0, hSD⟩ := hv
  have hx := B.exec
  have hb := B.bytes
  have hr := B.returns
  have hlocks := B.notSynchronized
  have hts : ∀ w ∈ gT, w.before _ s = true := fun w h => atoms_spec (ws := Cond.code yX10_byteAt cX10_byteAt 2 (some .int) :: gT) B.pre w (List.mem_cons_of_mem _ h)
  have hown : s.vm.findClass RX10 = some m.cls := findClass_of_methodNamed B.named
  subst hsz
  have hD := hD0.self (sz := s.heap.size)
  generalize hAe : va_A w0 s.heap.size = A at hD hSD ⊢
  have hA : ∀ q : Nat, s.heap.size ≤ q → A q := fun q h => by rw [← hAe]; exact Or.inr h
  have hl := lv_entry ([.ref p0, .int p1]) (n := 2) (Nat.le_of_ble_eq_true rfl)
  rw [lg_entry_eq]
  generalize (lg_sl ([.ref p0, .int p1]) ++ List.replicate (2 - (lg_sl ([.ref p0, .int p1])).length) Slot.unset).toArray = ls at hl ⊢
  have hl : lv_has ls 2 [(0, .ref p0), (1, .int p1)] := hl
  refine nameQ (fun Q hQ => ?_)
  have hw : WD D cy GG A s wr_X10_byteAt wa_X10_byteAt Ps w0 Ps w0 s.heap [] := ⟨hT, hP, hD, va_S.rf, FR.rf, hT.1, [], (List.append_nil _).symm⟩
  refine lv_aload_n hx hb dX10_byteAt_0 rfl (lv_at hl 0 rfl) ?_
  refine lv_iconst (v := 0) hx hb dX10_byteAt_1 (by decide) ?_
  refine tg_put (ci := 10) (ts := ty_MODEL) (v := .int 0) (ty := .int) (C := RX10) (T := TX10) (N := 49) hx hb hts inX10 tyX10 tyX10_ok nmX10 hown hK hw h_p0 rfl rfl 0 (by decide) (hts _ tw_1137) (fun _ h9 => h9) rfl (by decide +kernel) rfl rfl (ft := vI (-2147483648) 2147483647) rfl ⟨_, rfl, (rl_0.to (by decide))⟩ (by decide) dX10_byteAt_2 (fun ws H locs hw n_k_1 hF9 => ?_)
  refine lv_iload_n hx hb dX10_byteAt_5 rfl (lv_at hl 1 rfl) ?_
  refine lv_iconst (v := 0) hx hb dX10_byteAt_6 (by decide) ?_
  refine lv_aload_n hx hb dX10_byteAt_7 rfl (lv_at hl 0 rfl) ?_
  refine tg_get (ci := 10) (ts := ty_MODEL) (C := RX10) (T := TX10) (N := 49) hx hb hts inX10 hown hK hw h_p0 rfl rfl 38 (by decide) (hts _ tw_1175) (fun _ h9 => h9) (ft := vI 0 64) rfl dX10_byteAt_8 (fun u_2 hv_u_2 m_u_2 => ?_)
  obtain ⟨vu_2, rfl, r_vu_2⟩ := hv_u_2
  refine lv_iconst (v := 1) hx hb dX10_byteAt_11 (by decide) ?_
  refine lv_isub hx hb dX10_byteAt_12 (lv_topi (fun v_3 e_v_3 => ?_))
  obtain ⟨t_v_3, r_v_3⟩ := tq_sub (lo := (-1)) (hi := 63) r_vu_2 rl_1 (by decide +kernel) e_v_3
  have t_v_3 : v_3.toInt = vu_2.toInt - 1 := t_v_3
  refine tk_ir (va_runS (As := [.int p1, .int 0, .int v_3]) (rest := []) ⟨hx, hb, hml, hown, hts⟩ (c_X10_isIn l D cy z H.size Ps ws hw.1 p1 0 v_3 r_p1 rl_0 r_v_3) (va_cwS 3 hts (gS tw_1359 tw_1360 tw_15 tw_1361) rfl rfl rfl (by decide +kernel) ⟨Nat.le_of_ble_eq_true rfl, Nat.le_of_ble_eq_true rfl⟩) (tg_preS hw hK hSD hA) rfl rfl hl.1 rfl (lv_room (Nat.le_of_ble_eq_true rfl)) dX10_byteAt_13 ⟨Nat.le_of_ble_eq_true rfl, Nat.le_of_ble_eq_true rfl⟩) hw hA (fun v_4  H locs hp_v_4 hw => ?_)
  have r_v_4 : RI v_4 0 1 := hp_v_4.1
  refine lv_if_eq (tgt := 28) hx hb dX10_byteAt_16 (by decide) (fun c_16 => ?_) (fun c_16 => ?_)
  · have r_v_4 : RI v_4 0 0 := rc_eq1 r_v_4 rl_0 (ti_eq c_16) (by decide)
    refine lv_iconst (v := (-1)) hx hb dX10_byteAt_28 (by decide) ?_
    subst hQ
    exact W.iret (v := (-1)) hx hb hr (fun t ht hW => ⟨⟨(-1), ws, rfl, ⟨⟨rl_m1.to (by decide), (fun _ => trivial), (fun h0 => trivial)⟩, hw.1, hw.2.2.2.2.1⟩, by rw [ht]; exact hw.2.1, va_K.moved hW.alike hK, hw.2.2.1⟩, hw.2.2.2.1.F ht⟩) hw.2.2.2.1.2.2 dX10_byteAt_29
  · have r_v_4 : RI v_4 1 1 := rc_neL r_v_4 rl_0 (ti_ne c_16) (by decide)
    have r_p1 : RI p1 0 63 := ((hp_v_4.2.2 c_16).1)
    have r_v_3 : RI v_3 0 63 := ((hp_v_4.2.2 c_16).2.1)
    refine lv_aload_n hx hb dX10_byteAt_19 rfl (lv_at hl 0 rfl) ?_
    refine tg_get (ci := 10) (ts := ty_MODEL) (C := RX10) (T := TX10) (N := 49) hx hb hts inX10 hown hK hw h_p0 rfl rfl 37 (by decide) (hts _ tw_1174) (fun _ h9 => h9) (ft := vR 51) rfl dX10_byteAt_20 (fun u_5 hv_u_5 m_u_5 => ?_)
    obtain ⟨vu_5, rfl, h_vu_5⟩ := hv_u_5
    refine lv_iload_n hx hb dX10_byteAt_23 rfl (lv_at hl 1 rfl) ?_
    refine tg_iald (lo := (-2147483648)) (hi := 2147483647) hx hb hK hw h_vu_5 rfl 0 63 r_p1 (by decide) (by exact fun _ _ _ => ⟨Int.le_refl _, Int.le_refl _⟩) dX10_byteAt_24 (fun v_6 r_v_6 m_v_6 o_v_6 => ?_)
    refine lv_goto (tgt := 29) hx hb dX10_byteAt_25 (by decide) ?_
    subst hQ
    exact W.iret (v := v_6) hx hb hr (fun t ht hW => ⟨⟨v_6, ws, rfl, ⟨⟨r_v_6.to (by decide), (fun h0 => trivial), (fun h0 => trivial)⟩, hw.1, hw.2.2.2.2.1⟩, by rw [ht]; exact hw.2.1, va_K.moved hW.alike hK, hw.2.2.1⟩, hw.2.2.2.1.F ht⟩) hw.2.2.2.1.2.2 dX10_byteAt_29
abbrev wr_X10_isIn__1 : List (Nat × Nat) := []
abbrev wa_X10_isIn__1 : List Nat := []
set_option maxHeartbeats 4000000 in
set_option maxRecDepth 100000 in
theorem c_X10_isIn__1 (l : Launch) (D : va_G) (cy : Nat → ClassId) (z : Nat → Nat) (sz : Nat) (Ps : PSI) (w0 : va_W) (hT : HT cy GG Ps w0) (p0 : Int32) (p1 : Int32) (p2 : Int32) (r_p0 : RI p0 (-2147483648) 2147483647) (r_p1 : RI p1 0 0) (r_p2 : RI p2 (-1) 5) : Met l yX10_isIn (Cond.code yX10_isIn cX10_isIn 3 (some .boolean) :: gT) ({ frames := 0, cells := 0, slots := 0, locals := 200 } : Room) (va_Pc [.int p0, .int p1, .int p2] (PRE D cy z w0 sz)) (va_Qi (fun (r : Int32) (u : Unit) => RI r 0 1 ∧ (r = 0 → True) ∧ (¬ r = 0 → RI p0 0 5 ∧ RI p2 0 5 ∧ True)) (BB D cy (va_A w0 sz) (fun (u : Unit) => w0)) (va_A w0 sz)) 0 0 (va_A w0 sz) := by
  refine Met.ofW (cc := cX10_isIn) (maxL := 3) (ret := (some .boolean)) (by decide) rfl ?_
  intro p e s m args below meth c s₁ B hml hv
  obtain ⟨rfl, hsz, hP, hK, hD0, hSD⟩ := hv
  have hx := B.exec
  have hb := B.bytes
  have hr := B.returns
  have hlocks := B.notSynchronized
  have hts : ∀ w ∈ gT, w.before _ s = true := fun w h => atoms_spec (ws := Cond.code yX10_isIn cX10_isIn 3 (some .boolean) :: gT) B.pre w (List.mem_cons_of_mem _ h)
  have hown : s.vm.findClass RX10 = some m.cls := findClass_of_methodNamed B.named
  subst hsz
  have hD := hD0.self (sz := s.heap.size)
  generalize hAe : va_A w0 s.heap.size = A at hD hSD ⊢
  have hA : ∀ q : Nat, s.heap.size ≤ q → A q := fun q h => by rw [← hAe]; exact Or.inr h
  have hl := lv_entry ([.int p0, .int p1, .int p2]) (n := 3) (Nat.le_of_ble_eq_true rfl)
  rw [lg_entry_eq]
  generalize (lg_sl ([.int p0, .int p1, .int p2]) ++ List.replicate (3 - (lg_sl ([.int p0, .int p1, .int p2])).length) Slot.unset).toArray = ls at hl ⊢
  have hl : lv_has ls 3 [(0, .int p0), (1, .int p1), (2, .int p2)] := hl
  refine nameQ (fun Q hQ => ?_)
  have hw : WD D cy GG A s wr_X10_isIn__1 wa_X10_isIn__1 Ps w0 Ps w0 s.heap [] := ⟨hT, hP, hD, va_S.rf, FR.rf, hT.1, [], (List.append_nil _).symm⟩
  refine lv_iload_n hx hb dX10_isIn_0 rfl (lv_at hl 0 rfl) ?_
  refine lv_iload_n hx hb dX10_isIn_1 rfl (lv_at hl 1 rfl) ?_
  refine lv_icmp_lt (tgt := 14) hx hb dX10_isIn_2 (by decide) (fun c_2 => ?_) (fun c_2 => ?_)
  · have r_p0 : RI p0 (-2147483648) (-1) := rc_lt1 r_p0 r_p1 (ti_lt c_2) (by decide)
    refine lv_iconst (v := 0) hx hb dX10_isIn_14 (by decide) ?_
    subst hQ
    exact W.zret (v := 0) hx hb hr (rfl) (fun t ht hW => ⟨⟨0, (), rfl, ⟨rl_0.to (by decide), (fun h0 => trivial), (fun h0 => absurd rfl h0)⟩, by rw [ht]; exact hw.2.1, va_K.moved hW.alike hK, hw.2.2.1⟩, hw.2.2.2.1.F ht⟩) hw.2.2.2.1.2.2 dX10_isIn_15
  · have r_p0 : RI p0 0 2147483647 := rc_le2 r_p1 r_p0 (ti_nlt c_2) (by decide)
    refine lv_iload_n hx hb dX10_isIn_5 rfl (lv_at hl 0 rfl) ?_
    refine lv_iload_n hx hb dX10_isIn_6 rfl (lv_at hl 2 rfl) ?_
    refine lv_icmp_gt (tgt := 14) hx hb dX10_isIn_7 (by decide) (fun c_7 => ?_) (fun c_7 => ?_)
    · refine lv_iconst (v := 0) hx hb dX10_isIn_14 (by decide) ?_
      subst hQ
      exact W.zret (v := 0) hx hb hr (rfl) (fun t ht hW => ⟨⟨0, (), rfl, ⟨rl_0.to (by decide), (fun h0 => trivial), (fun h0 => absurd rfl h0)⟩, by rw [ht]; exact hw.2.1, va_K.moved hW.alike hK, hw.2.2.1⟩, hw.2.2.2.1.F ht⟩) hw.2.2.2.1.2.2 dX10_isIn_15
    · have r_p0 : RI p0 0 5 := rc_le1 r_p0 r_p2 (ti_nlt c_7) (by decide)
      have r_p2 : RI p2 0 5 := rc_le2 r_p0 r_p2 (ti_nlt c_7) (by decide)
      refine lv_iconst (v := 1) hx hb dX10_isIn_10 (by decide) ?_
      refine lv_goto (tgt := 15) hx hb dX10_isIn_11 (by decide) ?_
      subst hQ
      exact W.zret (v := 1) hx hb hr (rfl) (fun t ht hW => ⟨⟨1, (), rfl, ⟨rl_1.to (by decide), (fun _ => trivial), (fun h0 => ⟨r_p0, r_p2, trivial⟩)⟩, by rw [ht]; exact hw.2.1, va_K.moved hW.alike hK, hw.2.2.1⟩, hw.2.2.2.1.F ht⟩) hw.2.2.2.1.2.2 dX10_isIn_15
abbrev wr_X10_isParcel : List (Nat × Nat) := []
abbrev wa_X10_isParcel : List Nat := []
set_option maxHeartbeats 4000000 in
set_option maxRecDepth 100000 in
theorem c_X10_isParcel (l : Launch) (D : va_G) (cy : Nat → ClassId) (z : Nat → Nat) (sz : Nat) (Ps : PSI) (w0 : va_W) (hT : HT cy GG Ps w0) (p0 : Nat) (p1 : Int32) (h_p0 : (p0, 55) ∈ Ps) (r_p1 : RI p1 (-2147483648) 2147483647) : Met l yX10_isParcel (Cond.code yX10_isParcel cX10_isParcel 2 (some .boolean) :: gT) ({ frames := 2, cells := 0, slots := 0, locals := 400 } : Room) (va_Pc [.ref p0, .int p1] (PRE D cy z w0 sz)) (va_Qi (fun (r : Int32) (u : Unit) => RI r 0 1 ∧ (r = 0 → True) ∧ (¬ r = 0 → RI p1 0 5 ∧ True)) (BB D cy (va_A w0 sz) (fun (u : Unit) => w0)) (va_A w0 sz)) 0 0 (va_A w0 sz) := by
  refine Met.ofW (cc := cX10_isParcel) (maxL := 2) (ret := (some .boolean)) (by decide) rfl ?_
  intro p e s m args below meth c s₁ B hml hv
  obtain ⟨rfl, hsz, hP, hK, hD0, hSD⟩ := hv
  have hx := B.exec
  have hb := B.bytes
  have hr := B.returns
  have hlocks := B.notSynchronized
  have hts : ∀ w ∈ gT, w.before _ s = true := fun w h => atoms_spec (ws := Cond.code yX10_isParcel cX10_isParcel 2 (some .boolean) :: gT) B.pre w (List.mem_cons_of_mem _ h)
  have hown : s.vm.findClass RX10 = some m.cls := findClass_of_methodNamed B.named
  subst hsz
  have hD := hD0.self (sz := s.heap.size)
  generalize hAe : va_A w0 s.heap.size = A at hD hSD ⊢
  have hA : ∀ q : Nat, s.heap.size ≤ q → A q := fun q h => by rw [← hAe]; exact Or.inr h
  have hl := lv_entry ([.ref p0, .int p1]) (n := 2) (Nat.le_of_ble_eq_true rfl)
  rw [lg_entry_eq]
  generalize (lg_sl ([.ref p0, .int p1]) ++ List.replicate (2 - (lg_sl ([.ref p0, .int p1])).length) Slot.unset).toArray = ls at hl ⊢
  have hl : lv_has ls 2 [(0, .ref p0), (1, .int p1)] := hl
  refine nameQ (fun Q hQ => ?_)
  have hw : WD D cy GG A s wr_X10_isParcel wa_X10_isParcel Ps w0 Ps w0 s.heap [] := ⟨hT, hP, hD, va_S.rf, FR.rf, hT.1, [], (List.append_nil _).symm⟩
  refine lv_iload_n hx hb dX10_isParcel_0 rfl (lv_at hl 1 rfl) ?_
  refine lv_iconst (v := 0) hx hb dX10_isParcel_1 (by decide) ?_
  refine lv_aload_n hx hb dX10_isParcel_2 rfl (lv_at hl 0 rfl) ?_
  refine tg_get (ci := 10) (ts := ty_MODEL) (C := RX10) (T := TX10) (N := 49) hx hb hts inX10 hown hK hw h_p0 rfl rfl 14 (by decide) (hts _ tw_1151) (fun _ h9 => h9) (ft := vR 34) rfl dX10_isParcel_3 (fun u_1 hv_u_1 m_u_1 => ?_)
  obtain ⟨vu_1, rfl, h_vu_1⟩ := hv_u_1
  refine lv_iconst (v := 2) hx hb dX10_isParcel_6 (by decide) ?_
  refine tg_iald (lo := 0) (hi := 6) hx hb hK hw h_vu_1 rfl 2 2 rl_2 (by decide) (by decide +kernel) dX10_isParcel_7 (fun v_2 r_v_2 m_v_2 o_v_2 => ?_)
  refine lv_iconst (v := 1) hx hb dX10_isParcel_8 (by decide) ?_
  refine lv_isub hx hb dX10_isParcel_9 (lv_topi (fun v_3 e_v_3 => ?_))
  obtain ⟨t_v_3, r_v_3⟩ := tq_sub (lo := (-1)) (hi := 5) r_v_2 rl_1 (by decide +kernel) e_v_3
  have t_v_3 : v_3.toInt = v_2.toInt - 1 := t_v_3
  refine tk_ir (va_runS (As := [.int p1, .int 0, .int v_3]) (rest := []) ⟨hx, hb, hml, hown, hts⟩ (c_X10_isIn__1 l D cy z s.heap.size Ps w0 hw.1 p1 0 v_3 r_p1 rl_0 r_v_3) (va_cwS 3 hts (gS tw_1359 tw_1360 tw_15 tw_1361) rfl rfl rfl (by decide +kernel) ⟨Nat.le_of_ble_eq_true rfl, Nat.le_of_ble_eq_true rfl⟩) (tg_preS hw hK hSD hA) rfl rfl hl.1 rfl (lv_room (Nat.le_of_ble_eq_true rfl)) dX10_isParcel_10 ⟨Nat.le_of_ble_eq_true rfl, Nat.le_of_ble_eq_true rfl⟩) hw hA (fun v_4  H locs hp_v_4 hw => ?_)
  have r_v_4 : RI v_4 0 1 := hp_v_4.1
  subst hQ
  exact W.zret (v := v_4) hx hb hr (tq_nz (r_v_4.to (by decide))) (fun t ht hW => ⟨⟨v_4, (), rfl, ⟨r_v_4.to (by decide), (fun h0 => trivial), (fun h0 => ⟨((hp_v_4.2.2 h0).1), trivial⟩)⟩, by rw [ht]; exact hw.2.1, va_K.moved hW.alike hK, hw.2.2.1⟩, hw.2.2.2.1.F ht⟩) hw.2.2.2.1.2.2 dX10_isParcel_13
abbrev wr_X10_isIn__2 : List (Nat × Nat) := []
abbrev wa_X10_isIn__2 : List Nat := []
set_option maxHeartbeats 4000000 in
set_option maxRecDepth 100000 in
theorem c_X10_isIn__2 (l : Launch) (D : va_G) (cy : Nat → ClassId) (z : Nat → Nat) (sz : Nat) (Ps : PSI) (w0 : va_W) (hT : HT cy GG Ps w0) (p0 : Int32) (p1 : Int32) (p2 : Int32) (r_p0 : RI p0 (-2147483648) 2147483647) (r_p1 : RI p1 0 0) (r_p2 : RI p2 (-1) 3) : Met l yX10_isIn (Cond.code yX10_isIn cX10_isIn 3 (some .boolean) :: gT) ({ frames := 0, cells := 0, slots := 0, locals := 200 } : Room) (va_Pc [.int p0, .int p1, .int p2] (PRE D cy z w0 sz)) (va_Qi (fun (r : Int32) (u : Unit) => RI r 0 1 ∧ (r = 0 → True) ∧ (¬ r = 0 → RI p0 0 3 ∧ RI p2 0 3 ∧ True)) (BB D cy (va_A w0 sz) (fun (u : Unit) => w0)) (va_A w0 sz)) 0 0 (va_A w0 sz) := by
  refine Met.ofW (cc := cX10_isIn) (maxL := 3) (ret := (some .boolean)) (by decide) rfl ?_
  intro p e s m args below meth c s₁ B hml hv
  obtain ⟨rfl, hsz, hP, hK, hD0, hSD⟩ := hv
  have hx := B.exec
  have hb := B.bytes
  have hr := B.returns
  have hlocks := B.notSynchronized
  have hts : ∀ w ∈ gT, w.before _ s = true := fun w h => atoms_spec (ws := Cond.code yX10_isIn cX10_isIn 3 (some .boolean) :: gT) B.pre w (List.mem_cons_of_mem _ h)
  have hown : s.vm.findClass RX10 = some m.cls := findClass_of_methodNamed B.named
  subst hsz
  have hD := hD0.self (sz := s.heap.size)
  generalize hAe : va_A w0 s.heap.size = A at hD hSD ⊢
  have hA : ∀ q : Nat, s.heap.size ≤ q → A q := fun q h => by rw [← hAe]; exact Or.inr h
  have hl := lv_entry ([.int p0, .int p1, .int p2]) (n := 3) (Nat.le_of_ble_eq_true rfl)
  rw [lg_entry_eq]
  generalize (lg_sl ([.int p0, .int p1, .int p2]) ++ List.replicate (3 - (lg_sl ([.int p0, .int p1, .int p2])).length) Slot.unset).toArray = ls at hl ⊢
  have hl : lv_has ls 3 [(0, .int p0), (1, .int p1), (2, .int p2)] := hl
  refine nameQ (fun Q hQ => ?_)
  have hw : WD D cy GG A s wr_X10_isIn__2 wa_X10_isIn__2 Ps w0 Ps w0 s.heap [] := ⟨hT, hP, hD, va_S.rf, FR.rf, hT.1, [], (List.append_nil _).symm⟩
  refine lv_iload_n hx hb dX10_isIn_0 rfl (lv_at hl 0 rfl) ?_
  refine lv_iload_n hx hb dX10_isIn_1 rfl (lv_at hl 1 rfl) ?_
  refine lv_icmp_lt (tgt := 14) hx hb dX10_isIn_2 (by decide) (fun c_2 => ?_) (fun c_2 => ?_)
  · have r_p0 : RI p0 (-2147483648) (-1) := rc_lt1 r_p0 r_p1 (ti_lt c_2) (by decide)
    refine lv_iconst (v := 0) hx hb dX10_isIn_14 (by decide) ?_
    subst hQ
    exact W.zret (v := 0) hx hb hr (rfl) (fun t ht hW => ⟨⟨0, (), rfl, ⟨rl_0.to (by decide), (fun h0 => trivial), (fun h0 => absurd rfl h0)⟩, by rw [ht]; exact hw.2.1, va_K.moved hW.alike hK, hw.2.2.1⟩, hw.2.2.2.1.F ht⟩) hw.2.2.2.1.2.2 dX10_isIn_15
  · have r_p0 : RI p0 0 2147483647 := rc_le2 r_p1 r_p0 (ti_nlt c_2) (by decide)
    refine lv_iload_n hx hb dX10_isIn_5 rfl (lv_at hl 0 rfl) ?_
    refine lv_iload_n hx hb dX10_isIn_6 rfl (lv_at hl 2 rfl) ?_
    refine lv_icmp_gt (tgt := 14) hx hb dX10_isIn_7 (by decide) (fun c_7 => ?_) (fun c_7 => ?_)
    · refine lv_iconst (v := 0) hx hb dX10_isIn_14 (by decide) ?_
      subst hQ
      exact W.zret (v := 0) hx hb hr (rfl) (fun t ht hW => ⟨⟨0, (), rfl, ⟨rl_0.to (by decide), (fun h0 => trivial), (fun h0 => absurd rfl h0)⟩, by rw [ht]; exact hw.2.1, va_K.moved hW.alike hK, hw.2.2.1⟩, hw.2.2.2.1.F ht⟩) hw.2.2.2.1.2.2 dX10_isIn_15
    · have r_p0 : RI p0 0 3 := rc_le1 r_p0 r_p2 (ti_nlt c_7) (by decide)
      have r_p2 : RI p2 0 3 := rc_le2 r_p0 r_p2 (ti_nlt c_7) (by decide)
      refine lv_iconst (v := 1) hx hb dX10_isIn_10 (by decide) ?_
      refine lv_goto (tgt := 15) hx hb dX10_isIn_11 (by decide) ?_
      subst hQ
      exact W.zret (v := 1) hx hb hr (rfl) (fun t ht hW => ⟨⟨1, (), rfl, ⟨rl_1.to (by decide), (fun _ => trivial), (fun h0 => ⟨r_p0, r_p2, trivial⟩)⟩, by rw [ht]; exact hw.2.1, va_K.moved hW.alike hK, hw.2.2.1⟩, hw.2.2.2.1.F ht⟩) hw.2.2.2.1.2.2 dX10_isIn_15
abbrev wr_X10_isRoom : List (Nat × Nat) := []
abbrev wa_X10_isRoom : List Nat := []
set_option maxHeartbeats 4000000 in
set_option maxRecDepth 100000 in
theorem c_X10_isRoom (l : Launch) (D : va_G) (cy : Nat → ClassId) (z : Nat → Nat) (sz : Nat) (Ps : PSI) (w0 : va_W) (hT : HT cy GG Ps w0) (p0 : Nat) (p1 : Int32) (h_p0 : (p0, 55) ∈ Ps) (r_p1 : RI p1 (-2147483648) 2147483647) : Met l yX10_isRoom (Cond.code yX10_isRoom cX10_isRoom 2 (some .boolean) :: gT) ({ frames := 2, cells := 0, slots := 0, locals := 400 } : Room) (va_Pc [.ref p0, .int p1] (PRE D cy z w0 sz)) (va_Qi (fun (r : Int32) (u : Unit) => RI r 0 1 ∧ (r = 0 → True) ∧ (¬ r = 0 → RI p1 0 3 ∧ True)) (BB D cy (va_A w0 sz) (fun (u : Unit) => w0)) (va_A w0 sz)) 0 0 (va_A w0 sz) := by
  refine Met.ofW (cc := cX10_isRoom) (maxL := 2) (ret := (some .boolean)) (by decide) rfl ?_
  intro p e s m args below meth c s₁ B hml hv
  obtain ⟨rfl, hsz, hP, hK, hD0, hSD⟩ := hv
  have hx := B.exec
  have hb := B.bytes
  have hr := B.returns
  have hlocks := B.notSynchronized
  have hts : ∀ w ∈ gT, w.before _ s = true := fun w h => atoms_spec (ws := Cond.code yX10_isRoom cX10_isRoom 2 (some .boolean) :: gT) B.pre w (List.mem_cons_of_mem _ h)
  have hown : s.vm.findClass RX10 = some m.cls := findClass_of_methodNamed B.named
  subst hsz
  have hD := hD0.self (sz := s.heap.size)
  generalize hAe : va_A w0 s.heap.size = A at hD hSD ⊢
  have hA : ∀ q : Nat, s.heap.size ≤ q → A q := fun q h => by rw [← hAe]; exact Or.inr h
  have hl := lv_entry ([.ref p0, .int p1]) (n := 2) (Nat.le_of_ble_eq_true rfl)
  rw [lg_entry_eq]
  generalize (lg_sl ([.ref p0, .int p1]) ++ List.replicate (2 - (lg_sl ([.ref p0, .int p1])).length) Slot.unset).toArray = ls at hl ⊢
  have hl : lv_has ls 2 [(0, .ref p0), (1, .int p1)] := hl
  refine nameQ (fun Q hQ => ?_)
  have hw : WD D cy GG A s wr_X10_isRoom wa_X10_isRoom Ps w0 Ps w0 s.heap [] := ⟨hT, hP, hD, va_S.rf, FR.rf, hT.1, [], (List.append_nil _).symm⟩
  refine lv_iload_n hx hb dX10_isRoom_0 rfl (lv_at hl 1 rfl) ?_
  refine lv_iconst (v := 0) hx hb dX10_isRoom_1 (by decide) ?_
  refine lv_aload_n hx hb dX10_isRoom_2 rfl (lv_at hl 0 rfl) ?_
  refine tg_get (ci := 10) (ts := ty_MODEL) (C := RX10) (T := TX10) (N := 49) hx hb hts inX10 hown hK hw h_p0 rfl rfl 14 (by decide) (hts _ tw_1151) (fun _ h9 => h9) (ft := vR 34) rfl dX10_isRoom_3 (fun u_1 hv_u_1 m_u_1 => ?_)
  obtain ⟨vu_1, rfl, h_vu_1⟩ := hv_u_1
  refine lv_iconst (v := 1) hx hb dX10_isRoom_6 (by decide) ?_
  refine tg_iald (lo := 0) (hi := 4) hx hb hK hw h_vu_1 rfl 1 1 rl_1 (by decide) (by decide +kernel) dX10_isRoom_7 (fun v_2 r_v_2 m_v_2 o_v_2 => ?_)
  refine lv_iconst (v := 1) hx hb dX10_isRoom_8 (by decide) ?_
  refine lv_isub hx hb dX10_isRoom_9 (lv_topi (fun v_3 e_v_3 => ?_))
  obtain ⟨t_v_3, r_v_3⟩ := tq_sub (lo := (-1)) (hi := 3) r_v_2 rl_1 (by decide +kernel) e_v_3
  have t_v_3 : v_3.toInt = v_2.toInt - 1 := t_v_3
  refine tk_ir (va_runS (As := [.int p1, .int 0, .int v_3]) (rest := []) ⟨hx, hb, hml, hown, hts⟩ (c_X10_isIn__2 l D cy z s.heap.size Ps w0 hw.1 p1 0 v_3 r_p1 rl_0 r_v_3) (va_cwS 3 hts (gS tw_1359 tw_1360 tw_15 tw_1361) rfl rfl rfl (by decide +kernel) ⟨Nat.le_of_ble_eq_true rfl, Nat.le_of_ble_eq_true rfl⟩) (tg_preS hw hK hSD hA) rfl rfl hl.1 rfl (lv_room (Nat.le_of_ble_eq_true rfl)) dX10_isRoom_10 ⟨Nat.le_of_ble_eq_true rfl, Nat.le_of_ble_eq_true rfl⟩) hw hA (fun v_4  H locs hp_v_4 hw => ?_)
  have r_v_4 : RI v_4 0 1 := hp_v_4.1
  subst hQ
  exact W.zret (v := v_4) hx hb hr (tq_nz (r_v_4.to (by decide))) (fun t ht hW => ⟨⟨v_4, (), rfl, ⟨r_v_4.to (by decide), (fun h0 => trivial), (fun h0 => ⟨((hp_v_4.2.2 h0).1), trivial⟩)⟩, by rw [ht]; exact hw.2.1, va_K.moved hW.alike hK, hw.2.2.1⟩, hw.2.2.2.1.F ht⟩) hw.2.2.2.1.2.2 dX10_isRoom_13
abbrev wr_X10_has__1 : List (Nat × Nat) := []
abbrev wa_X10_has__1 : List Nat := []
set_option maxHeartbeats 4000000 in
set_option maxRecDepth 100000 in
theorem c_X10_has__1 (l : Launch) (D : va_G) (cy : Nat → ClassId) (z : Nat → Nat) (sz : Nat) (Ps : PSI) (w0 : va_W) (hT : HT cy GG Ps w0) (p0 : Int32) (p1 : Int32) (r_p0 : RI p0 (-2147483648) 2147483647) (r_p1 : RI p1 (-2147483648) 2147483647) : Met l yX10_has (Cond.code yX10_has cX10_has 2 (some .boolean) :: gT) ({ frames := 0, cells := 0, slots := 0, locals := 200 } : Room) (va_Pc [.int p0, .int p1] (PRE D cy z w0 sz)) (va_Qi (fun (r : Int32) (u : Unit) => RI r 0 1 ∧ (r = 0 → True) ∧ (¬ r = 0 → True)) (BB D cy (va_A w0 sz) (fun (u : Unit) => w0)) (va_A w0 sz)) 0 0 (va_A w0 sz) := by
  refine Met.ofW (cc := cX10_has) (maxL := 2) (ret := (some .boolean)) (by decide) rfl ?_
  intro p e s m args below meth c s₁ B hml hv
  obtain ⟨rfl, hsz, hP, hK, hD0, hSD⟩ := hv
  have hx := B.exec
  have hb := B.bytes
  have hr := B.returns
  have hlocks := B.notSynchronized
  have hts : ∀ w ∈ gT, w.before _ s = true := fun w h => atoms_spec (ws := Cond.code yX10_has cX10_has 2 (some .boolean) :: gT) B.pre w (List.mem_cons_of_mem _ h)
  have hown : s.vm.findClass RX10 = some m.cls := findClass_of_methodNamed B.named
  subst hsz
  have hD := hD0.self (sz := s.heap.size)
  generalize hAe : va_A w0 s.heap.size = A at hD hSD ⊢
  have hA : ∀ q : Nat, s.heap.size ≤ q → A q := fun q h => by rw [← hAe]; exact Or.inr h
  have hl := lv_entry ([.int p0, .int p1]) (n := 2) (Nat.le_of_ble_eq_true rfl)
  rw [lg_entry_eq]
  generalize (lg_sl ([.int p0, .int p1]) ++ List.replicate (2 - (lg_sl ([.int p0, .int p1])).length) Slot.unset).toArray = ls at hl ⊢
  have hl : lv_has ls 2 [(0, .int p0), (1, .int p1)] := hl
  refine nameQ (fun Q hQ => ?_)
  have hw : WD D cy GG A s wr_X10_has__1 wa_X10_has__1 Ps w0 Ps w0 s.heap [] := ⟨hT, hP, hD, va_S.rf, FR.rf, hT.1, [], (List.append_nil _).symm⟩
  refine lv_iload_n hx hb dX10_has_0 rfl (lv_at hl 0 rfl) ?_
  refine lv_iload_n hx hb dX10_has_1 rfl (lv_at hl 1 rfl) ?_
  refine lv_ishr hx hb dX10_has_2 (lv_topi (fun v_1 e_v_1 => ?_))
  have r_v_1 := ri_any v_1
  refine lv_iconst (v := 1) hx hb dX10_has_3 (by decide) ?_
  refine lv_iand hx hb dX10_has_4 (lv_topi (fun v_2 e_v_2 => ?_))
  have r_v_2 : RI v_2 0 1 := by rw [e_v_2]; exact ri_and (d := 1) (rl_1.to (by decide)) (by decide)
  refine lv_iconst (v := 1) hx hb dX10_has_5 (by decide) ?_
  refine lv_icmp_ne (tgt := 13) hx hb dX10_has_6 (by decide) (fun c_6 => ?_) (fun c_6 => ?_)
  · have r_v_2 : RI v_2 0 0 := rc_neU r_v_2 rl_1 (ti_ne c_6) (by decide)
    refine lv_iconst (v := 0) hx hb dX10_has_13 (by decide) ?_
    subst hQ
    exact W.zret (v := 0) hx hb hr (rfl) (fun t ht hW => ⟨⟨0, (), rfl, ⟨rl_0.to (by decide), (fun h0 => trivial), (fun _ => trivial)⟩, by rw [ht]; exact hw.2.1, va_K.moved hW.alike hK, hw.2.2.1⟩, hw.2.2.2.1.F ht⟩) hw.2.2.2.1.2.2 dX10_has_14
  · have r_v_2 : RI v_2 1 1 := rc_eq1 r_v_2 rl_1 (ti_eq c_6) (by decide)
    refine lv_iconst (v := 1) hx hb dX10_has_9 (by decide) ?_
    refine lv_goto (tgt := 14) hx hb dX10_has_10 (by decide) ?_
    subst hQ
    exact W.zret (v := 1) hx hb hr (rfl) (fun t ht hW => ⟨⟨1, (), rfl, ⟨rl_1.to (by decide), (fun _ => trivial), (fun h0 => trivial)⟩, by rw [ht]; exact hw.2.1, va_K.moved hW.alike hK, hw.2.2.1⟩, hw.2.2.2.1.F ht⟩) hw.2.2.2.1.2.2 dX10_has_14
abbrev wr_X10_isOpen : List (Nat × Nat) := []
abbrev wa_X10_isOpen : List Nat := []
set_option maxHeartbeats 4000000 in
set_option maxRecDepth 100000 in
theorem c_X10_isOpen (l : Launch) (D : va_G) (cy : Nat → ClassId) (z : Nat → Nat) (sz : Nat) (Ps : PSI) (w0 : va_W) (hT : HT cy GG Ps w0) (p0 : Nat) (p1 : Int32) (h_p0 : (p0, 55) ∈ Ps) (r_p1 : RI p1 (-2147483648) 2147483647) : Met l yX10_isOpen (Cond.code yX10_isOpen cX10_isOpen 2 (some .boolean) :: gT) ({ frames := 2, cells := 0, slots := 0, locals := 400 } : Room) (va_Pc [.ref p0, .int p1] (PRE D cy z w0 sz)) (va_Qi (fun (r : Int32) (u : Unit) => RI r 0 1 ∧ (r = 0 → True) ∧ (¬ r = 0 → True)) (BB D cy (va_A w0 sz) (fun (u : Unit) => w0)) (va_A w0 sz)) 0 0 (va_A w0 sz) := by
  refine Met.ofW (cc := cX10_isOpen) (maxL := 2) (ret := (some .boolean)) (by decide) rfl ?_
  intro p e s m args below meth c s₁ B hml hv
  obtain ⟨rfl, hsz, hP, hK, hD0, hSD⟩ := hv
  have hx := B.exec
  have hb := B.bytes
  have hr := B.returns
  have hlocks := B.notSynchronized
  have hts : ∀ w ∈ gT, w.before _ s = true := fun w h => atoms_spec (ws := Cond.code yX10_isOpen cX10_isOpen 2 (some .boolean) :: gT) B.pre w (List.mem_cons_of_mem _ h)
  have hown : s.vm.findClass RX10 = some m.cls := findClass_of_methodNamed B.named
  subst hsz
  have hD := hD0.self (sz := s.heap.size)
  generalize hAe : va_A w0 s.heap.size = A at hD hSD ⊢
  have hA : ∀ q : Nat, s.heap.size ≤ q → A q := fun q h => by rw [← hAe]; exact Or.inr h
  have hl := lv_entry ([.ref p0, .int p1]) (n := 2) (Nat.le_of_ble_eq_true rfl)
  rw [lg_entry_eq]
  generalize (lg_sl ([.ref p0, .int p1]) ++ List.replicate (2 - (lg_sl ([.ref p0, .int p1])).length) Slot.unset).toArray = ls at hl ⊢
  have hl : lv_has ls 2 [(0, .ref p0), (1, .int p1)] := hl
  refine nameQ (fun Q hQ => ?_)
  have hw : WD D cy GG A s wr_X10_isOpen wa_X10_isOpen Ps w0 Ps w0 s.heap [] := ⟨hT, hP, hD, va_S.rf, FR.rf, hT.1, [], (List.append_nil _).symm⟩
  refine lv_aload_n hx hb dX10_isOpen_0 rfl (lv_at hl 0 rfl) ?_
  refine tg_get (ci := 10) (ts := ty_MODEL) (C := RX10) (T := TX10) (N := 49) hx hb hts inX10 hown hK hw h_p0 rfl rfl 14 (by decide) (hts _ tw_1151) (fun _ h9 => h9) (ft := vR 34) rfl dX10_isOpen_1 (fun u_1 hv_u_1 m_u_1 => ?_)
  obtain ⟨vu_1, rfl, h_vu_1⟩ := hv_u_1
  refine lv_bipush (v := 85) hx hb dX10_isOpen_4 (by decide) ?_
  refine tg_iald (lo := (-2147483648)) (hi := 2147483647) hx hb hK hw h_vu_1 rfl 85 85 rl_85 (by decide) (by decide +kernel) dX10_isOpen_6 (fun v_2 r_v_2 m_v_2 o_v_2 => ?_)
  refine lv_iload_n hx hb dX10_isOpen_7 rfl (lv_at hl 1 rfl) ?_
  refine tk_ir (va_runS (As := [.int v_2, .int p1]) (rest := []) ⟨hx, hb, hml, hown, hts⟩ (c_X10_has__1 l D cy z s.heap.size Ps w0 hw.1 v_2 p1 r_v_2 r_p1) (va_cwS 2 hts (gS tw_1402 tw_1403 tw_15 tw_1404) rfl rfl rfl (by decide +kernel) ⟨Nat.le_of_ble_eq_true rfl, Nat.le_of_ble_eq_true rfl⟩) (tg_preS hw hK hSD hA) rfl rfl hl.1 rfl (lv_room (Nat.le_of_ble_eq_true rfl)) dX10_isOpen_8 ⟨Nat.le_of_ble_eq_true rfl, Nat.le_of_ble_eq_true rfl⟩) hw hA (fun v_3  H locs hp_v_3 hw => ?_)
  have r_v_3 : RI v_3 0 1 := hp_v_3.1
  subst hQ
  exact W.zret (v := v_3) hx hb hr (tq_nz (r_v_3.to (by decide))) (fun t ht hW => ⟨⟨v_3, (), rfl, ⟨r_v_3.to (by decide), (fun h0 => trivial), (fun h0 => trivial)⟩, by rw [ht]; exact hw.2.1, va_K.moved hW.alike hK, hw.2.2.1⟩, hw.2.2.2.1.F ht⟩) hw.2.2.2.1.2.2 dX10_isOpen_11
abbrev wr_X10_why : List (Nat × Nat) := []
abbrev wa_X10_why : List Nat := []
set_option maxHeartbeats 4000000 in
set_option maxRecDepth 100000 in
theorem c_X10_why (l : Launch) (D : va_G) (cy : Nat → ClassId) (z : Nat → Nat) (sz : Nat) (Ps : PSI) (w0 : va_W) (hT : HT cy GG Ps w0) (p0 : Nat) (p1 : Int32) (p2 : Int32) (p3 : Int32) (h_p0 : (p0, 55) ∈ Ps) (r_p1 : RI p1 5 5) (r_p2 : RI p2 0 5) (r_p3 : RI p3 0 3) : Met l yX10_why (Cond.code yX10_why cX10_why 4 (some .int) :: gT) ({ frames := 3, cells := 0, slots := 0, locals := 600 } : Room) (va_Pc [.ref p0, .int p1, .int p2, .int p3] (PRE D cy z w0 sz)) (va_Qi (fun (r : Int32) (u : Unit) => RI r 0 2 ∧ (r = 0 → True) ∧ (¬ r = 0 → True)) (BB D cy (va_A w0 sz) (fun (u : Unit) => w0)) (va_A w0 sz)) 0 0 (va_A w0 sz) := by
  refine Met.ofW (cc := cX10_why) (maxL := 4) (ret := (some .int)) (by decide) rfl ?_
  intro p e s m args below meth c s₁ B hml hv
  obtain ⟨rfl, hsz, hP, hK, hD0, hSD⟩ := hv
  have hx := B.exec
  have hb := B.bytes
  have hr := B.returns
  have hlocks := B.notSynchronized
  have hts : ∀ w ∈ gT, w.before _ s = true := fun w h => atoms_spec (ws := Cond.code yX10_why cX10_why 4 (some .int) :: gT) B.pre w (List.mem_cons_of_mem _ h)
  have hown : s.vm.findClass RX10 = some m.cls := findClass_of_methodNamed B.named
  subst hsz
  have hD := hD0.self (sz := s.heap.size)
  generalize hAe : va_A w0 s.heap.size = A at hD hSD ⊢
  have hA : ∀ q : Nat, s.heap.size ≤ q → A q := fun q h => by rw [← hAe]; exact Or.inr h
  have hl := lv_entry ([.ref p0, .int p1, .int p2, .int p3]) (n := 4) (Nat.le_of_ble_eq_true rfl)
  rw [lg_entry_eq]
  generalize (lg_sl ([.ref p0, .int p1, .int p2, .int p3]) ++ List.replicate (4 - (lg_sl ([.ref p0, .int p1, .int p2, .int p3])).length) Slot.unset).toArray = ls at hl ⊢
  have hl : lv_has ls 4 [(0, .ref p0), (1, .int p1), (2, .int p2), (3, .int p3)] := hl
  refine nameQ (fun Q hQ => ?_)
  have hw : WD D cy GG A s wr_X10_why wa_X10_why Ps w0 Ps w0 s.heap [] := ⟨hT, hP, hD, va_S.rf, FR.rf, hT.1, [], (List.append_nil _).symm⟩
  refine lv_iload_n hx hb dX10_why_0 rfl (lv_at hl 1 rfl) ?_
  have w_1 := r_p1
  by_cases cl_1 : p1.toInt < 0 ∨ 4 < p1.toInt
  · refine lv_tableOut (tgt := 146) hx hb dX10_why_1 cl_1 (by decide) ?_
    refine lv_aload_n hx hb dX10_why_146 rfl (lv_at hl 0 rfl) ?_
    refine lv_iload_n hx hb dX10_why_147 rfl (lv_at hl 2 rfl) ?_
    refine tk_ir (va_runV (As := [.int p2]) (rest := []) ⟨hx, hb, hml, hown, hts⟩ (c_X10_isOpen l D cy z s.heap.size Ps w0 hw.1 p0 p2 h_p0 (r_p2.to (by decide))) (cwV 1 hts (gV tw_1457 tw_1459 ts_71 tw_15 tw_1460) rfl rfl rfl (by decide +kernel) ⟨Nat.le_of_ble_eq_true rfl, Nat.le_of_ble_eq_true rfl⟩) (tg_preV hw hK hSD hA (ci := 10) (q := (RX10, TX10, 49)) rfl h_p0 rfl) rfl rfl hl.1 rfl (lv_room (Nat.le_of_ble_eq_true rfl)) dX10_why_148 ⟨Nat.le_of_ble_eq_true rfl, Nat.le_of_ble_eq_true rfl⟩) hw hA (fun v_1  H locs hp_v_1 hw => ?_)
    have r_v_1 : RI v_1 0 1 := hp_v_1.1
    refine lv_if_eq (tgt := 158) hx hb dX10_why_151 (by decide) (fun c_151 => ?_) (fun c_151 => ?_)
    · have r_v_1 : RI v_1 0 0 := rc_eq1 r_v_1 rl_0 (ti_eq c_151) (by decide)
      refine lv_aload_n hx hb dX10_why_158 rfl (lv_at hl 0 rfl) ?_
      refine tg_get (ci := 10) (ts := ty_MODEL) (C := RX10) (T := TX10) (N := 49) hx hb hts inX10 hown hK hw h_p0 rfl rfl 14 (by decide) (hts _ tw_1151) (fun _ h9 => h9) (ft := vR 34) rfl dX10_why_159 (fun u_2 hv_u_2 m_u_2 => ?_)
      obtain ⟨vu_2, rfl, h_vu_2⟩ := hv_u_2
      refine lv_bipush (v := 86) hx hb dX10_why_162 (by decide) ?_
      refine lv_iload_n hx hb dX10_why_164 rfl (lv_at hl 2 rfl) ?_
      refine lv_iadd hx hb dX10_why_165 (lv_topi (fun v_3 e_v_3 => ?_))
      obtain ⟨t_v_3, r_v_3⟩ := tq_add (lo := 86) (hi := 91) rl_86 r_p2 (by decide +kernel) e_v_3
      have t_v_3 : v_3.toInt = 86 + p2.toInt := t_v_3
      refine tg_iald (lo := (-2147483648)) (hi := 2147483647) hx hb hK hw h_vu_2 rfl 86 91 r_v_3 (by decide) (by decide +kernel) dX10_why_166 (fun v_4 r_v_4 m_v_4 o_v_4 => ?_)
      refine lv_iload_n hx hb dX10_why_167 rfl (lv_at hl 3 rfl) ?_
      refine lv_icmp_ne (tgt := 175) hx hb dX10_why_168 (by decide) (fun c_168 => ?_) (fun c_168 => ?_)
      · refine lv_iconst (v := 0) hx hb dX10_why_175 (by decide) ?_
        subst hQ
        exact W.iret (v := 0) hx hb hr (fun t ht hW => ⟨⟨0, (), rfl, ⟨rl_0.to (by decide), (fun h0 => trivial), (fun _ => trivial)⟩, by rw [ht]; exact hw.2.1, va_K.moved hW.alike hK, hw.2.2.1⟩, hw.2.2.2.1.F ht⟩) hw.2.2.2.1.2.2 dX10_why_176
      · have r_v_4 : RI v_4 0 3 := rc_eq1 r_v_4 r_p3 (ti_eq c_168) (by decide)
        refine lv_iconst (v := 2) hx hb dX10_why_171 (by decide) ?_
        refine lv_goto (tgt := 176) hx hb dX10_why_172 (by decide) ?_
        subst hQ
        exact W.iret (v := 2) hx hb hr (fun t ht hW => ⟨⟨2, (), rfl, ⟨rl_2.to (by decide), (fun _ => trivial), (fun h0 => trivial)⟩, by rw [ht]; exact hw.2.1, va_K.moved hW.alike hK, hw.2.2.1⟩, hw.2.2.2.1.F ht⟩) hw.2.2.2.1.2.2 dX10_why_176
    · have r_v_1 : RI v_1 1 1 := rc_neL r_v_1 rl_0 (ti_ne c_151) (by decide)
      refine lv_iconst (v := 1) hx hb dX10_why_154 (by decide) ?_
      refine lv_goto (tgt := 176) hx hb dX10_why_155 (by decide) ?_
      subst hQ
      exact W.iret (v := 1) hx hb hr (fun t ht hW => ⟨⟨1, (), rfl, ⟨rl_1.to (by decide), (fun _ => trivial), (fun h0 => trivial)⟩, by rw [ht]; exact hw.2.1, va_K.moved hW.alike hK, hw.2.2.1⟩, hw.2.2.2.1.F ht⟩) hw.2.2.2.1.2.2 dX10_why_176
  · have e_1 : p1.toInt = 0 ∨ p1.toInt = 1 ∨ p1.toInt = 2 ∨ p1.toInt = 3 ∨ p1.toInt = 4 := by omega
    rcases e_1 with h_1 | h_1 | h_1 | h_1 | h_1
    · exact absurd h_1 (by unfold RI at w_1; omega)
    · exact absurd h_1 (by unfold RI at w_1; omega)
    · exact absurd h_1 (by unfold RI at w_1; omega)
    · exact absurd h_1 (by unfold RI at w_1; omega)
    · exact absurd h_1 (by unfold RI at w_1; omega)
abbrev wr_X10_snap : List (Nat × Nat) := [(10, 25)]
abbrev wa_X10_snap : List Nat := [37]
set_option maxHeartbeats 4000000 in
set_option maxRecDepth 100000 in
theorem c_X10_snap (l : Launch) (D : va_G) (cy : Nat → ClassId) (z : Nat → Nat) (sz : Nat) (Ps : PSI) (w0 : va_W) (hT : HT cy GG Ps w0) (p0 : Nat) (h_p0 : (p0, 55) ∈ Ps) : Met l yX10_snap (Cond.code yX10_snap cX10_snap 2 none :: gT) ({ frames := 0, cells := 0, slots := 0, locals := 200 } : Room) (va_Pc [.ref p0] (PRE D cy z w0 sz)) (va_Qv (fun (u : va_W) => ((∃ v9 : Int32, FLD u p0 10 25 (.int v9) ∧ RI v9 1 8) ∧ True) ∧ HT cy GG Ps u ∧ FR wr_X10_snap wa_X10_snap Ps w0 u) (BB D cy (va_A w0 sz) (fun (u : va_W) => u)) (va_A w0 sz)) 0 0 (va_A w0 sz) := by
  refine Met.ofW (cc := cX10_snap) (maxL := 2) (ret := none) (by decide) rfl ?_
  intro p e s m args below meth c s₁ B hml hv
  obtain ⟨rfl, hsz, hP, hK, hD0, hSD⟩ := hv
  have hx := B.exec
  have hb := B.bytes
  have hr := B.returns
  have hlocks := B.notSynchronized
  have hts : ∀ w ∈ gT, w.before _ s = true := fun w h => atoms_spec (ws := Cond.code yX10_snap cX10_snap 2 none :: gT) B.pre w (List.mem_cons_of_mem _ h)
  have hown : s.vm.findClass RX10 = some m.cls := findClass_of_methodNamed B.named
  subst hsz
  have hD := hD0.self (sz := s.heap.size)
  generalize hAe : va_A w0 s.heap.size = A at hD hSD ⊢
  have hA : ∀ q : Nat, s.heap.size ≤ q → A q := fun q h => by rw [← hAe]; exact Or.inr h
  have hl := lv_entry ([.ref p0]) (n := 2) (Nat.le_of_ble_eq_true rfl)
  rw [lg_entry_eq]
  generalize (lg_sl ([.ref p0]) ++ List.replicate (2 - (lg_sl ([.ref p0])).length) Slot.unset).toArray = ls at hl ⊢
  have hl : lv_has ls 2 [(0, .ref p0)] := hl
  refine nameQ (fun Q hQ => ?_)
  have hw : WD D cy GG A s wr_X10_snap wa_X10_snap Ps w0 Ps w0 s.heap [] := ⟨hT, hP, hD, va_S.rf, FR.rf, hT.1, [], (List.append_nil _).symm⟩
  have B51 : ∀ (nf : Nat) (x1 : Int32) (z0_25 : Int32) (ws : va_W) (H : Heap) (locs : List Loc) (ls : Array Slot), 88 - x1.toInt < (nf : Int) → RI x1 0 88 → RI z0_25 0 7 → FLD ws p0 10 25 (.int z0_25) → WD D cy GG A s wr_X10_snap wa_X10_snap Ps w0 Ps ws H locs → lv_has ls 2 [(0, .ref p0), (1, .int x1)] → W p l e (headSpec (Cond.code yX10_snap cX10_snap 2 none :: gT) ({ frames := 0, cells := 0, slots := 0, locals := 200 } : Room)).room s m ([.ref p0] : List Value).toArray below meth c H locs 0 0 Q (F0 m 51 ls []) := by
    intro nf51
    induction nf51 with
    | zero =>
      intro x1 z0_25 ws H locs ls hn51 r_x1 r_z0_25 m_z0_25 hw hl
      exact absurd hn51 (by have q0 := r_x1.1; have u0 := r_x1.2; omega)
    | succ nf51 ih51 =>
      intro x1 z0_25 ws H locs ls hn51 r_x1 r_z0_25 m_z0_25 hw hl
      refine lv_iload_n hx hb dX10_snap_51 rfl (lv_at hl 1 rfl) ?_
      refine lv_bipush (v := 88) hx hb dX10_snap_52 (by decide) ?_
      refine lv_icmp_ge (tgt := 86) hx hb dX10_snap_54 (by decide) (fun c_54 => ?_) (fun c_54 => ?_)
      · have r_x1 : RI x1 88 88 := rc_le2 rl_88 r_x1 (ti_le c_54) (by decide)
        refine lv_aload_n hx hb dX10_snap_86 rfl (lv_at hl 0 rfl) ?_
        refine lv_dup hx hb dX10_snap_87 rfl ?_
        refine tg_mem (ci := 10) (C := RX10) (T := TX10) (N := 49) hx hb hts inX10 hown hK hw 25 m_z0_25 rfl (by decide) (hts _ tw_1162) (fun _ h9 => h9) dX10_snap_88 ?_
        refine lv_iconst (v := 1) hx hb dX10_snap_91 (by decide) ?_
        refine lv_iadd hx hb dX10_snap_92 (lv_topi (fun v_1 e_v_1 => ?_))
        obtain ⟨t_v_1, r_v_1⟩ := tq_add (lo := 1) (hi := 8) r_z0_25 rl_1 (by decide +kernel) e_v_1
        have t_v_1 : v_1.toInt = z0_25.toInt + 1 := t_v_1
        refine tg_put (ci := 10) (ts := ty_MODEL) (v := .int v_1) (ty := .int) (C := RX10) (T := TX10) (N := 49) hx hb hts inX10 tyX10 tyX10_ok nmX10 hown hK hw h_p0 rfl rfl 25 (by decide) (hts _ tw_1162) (fun _ h9 => h9) rfl (by decide +kernel) rfl rfl (ft := vI 0 8) rfl ⟨_, rfl, (r_v_1.to (by decide))⟩ (by decide) dX10_snap_93 (fun ws H locs hw n_k_2 hF9 => ?_)
        subst hQ
        exact W.vret hx hb hr (fun t ht hW => ⟨⟨ws, rfl, ⟨⟨⟨_, n_k_2, r_v_1⟩, trivial⟩, hw.1, hw.2.2.2.2.1⟩, by rw [ht]; exact hw.2.1, va_K.moved hW.alike hK, hw.2.2.1⟩, hw.2.2.2.1.F ht⟩) hw.2.2.2.1.2.2 dX10_snap_96
      · have r_x1 : RI x1 0 87 := rc_lt1 r_x1 rl_88 (ti_nle c_54) (by decide)
        refine lv_aload_n hx hb dX10_snap_57 rfl (lv_at hl 0 rfl) ?_
        refine tg_get (ci := 10) (ts := ty_MODEL) (C := RX10) (T := TX10) (N := 49) hx hb hts inX10 hown hK hw h_p0 rfl rfl 17 (by decide) (hts _ tw_1154) (fun _ h9 => h9) (ft := vR 37) rfl dX10_snap_58 (fun u_3 hv_u_3 m_u_3 => ?_)
        obtain ⟨vu_3, rfl, h_vu_3⟩ := hv_u_3
        refine lv_bipush (v := 88) hx hb dX10_snap_61 (by decide) ?_
        refine lv_aload_n hx hb dX10_snap_63 rfl (lv_at hl 0 rfl) ?_
        refine tg_mem (ci := 10) (C := RX10) (T := TX10) (N := 49) hx hb hts inX10 hown hK hw 25 m_z0_25 rfl (by decide) (hts _ tw_1162) (fun _ h9 => h9) dX10_snap_64 ?_
        refine lv_imul hx hb dX10_snap_67 (lv_topi (fun v_4 e_v_4 => ?_))
        obtain ⟨t_v_4, r_v_4⟩ := tq_mul (lo := 0) (hi := 616) rl_88 r_z0_25 (by decide +kernel) e_v_4
        have t_v_4 : v_4.toInt = 88 * z0_25.toInt := t_v_4
        refine lv_iload_n hx hb dX10_snap_68 rfl (lv_at hl 1 rfl) ?_
        refine lv_iadd hx hb dX10_snap_69 (lv_topi (fun v_5 e_v_5 => ?_))
        obtain ⟨t_v_5, r_v_5⟩ := tq_add (lo := 0) (hi := 703) r_v_4 r_x1 (by decide +kernel) e_v_5
        refine lv_aload_n hx hb dX10_snap_70 rfl (lv_at hl 0 rfl) ?_
        refine tg_get (ci := 10) (ts := ty_MODEL) (C := RX10) (T := TX10) (N := 49) hx hb hts inX10 hown hK hw h_p0 rfl rfl 14 (by decide) (hts _ tw_1151) (fun _ h9 => h9) (ft := vR 34) rfl dX10_snap_71 (fun u_6 hv_u_6 m_u_6 => ?_)
        obtain ⟨vu_6, rfl, h_vu_6⟩ := hv_u_6
        refine lv_bipush (v := 84) hx hb dX10_snap_74 (by decide) ?_
        refine lv_iload_n hx hb dX10_snap_76 rfl (lv_at hl 1 rfl) ?_
        refine lv_iadd hx hb dX10_snap_77 (lv_topi (fun v_7 e_v_7 => ?_))
        obtain ⟨t_v_7, r_v_7⟩ := tq_add (lo := 84) (hi := 171) rl_84 r_x1 (by decide +kernel) e_v_7
        have t_v_7 : v_7.toInt = 84 + x1.toInt := t_v_7
        refine tg_iald (lo := (-2147483648)) (hi := 2147483647) hx hb hK hw h_vu_6 rfl 84 171 r_v_7 (by decide) (by decide +kernel) dX10_snap_78 (fun v_8 r_v_8 m_v_8 o_v_8 => ?_)
        have e_9 : v_7.toNatClampNeg = 84 + v_5.toNatClampNeg % 88 := by have k1 := r_v_7.cl (by decide); have k2 := r_v_5.cl (by decide); have b10 := r_x1.1; have b20 := r_x1.2; have b11 := r_z0_25.1; have b21 := r_z0_25.2; have b12 := r_v_4.1; have b22 := r_v_4.2; have b13 := r_v_5.1; have b23 := r_v_5.2; have b14 := r_v_7.1; have b24 := r_v_7.2; have b15 := r_v_8.1; have b25 := r_v_8.2; omega
        refine tg_iasto hx hb hK hw h_vu_3 rfl 0 703 r_v_5 (by decide) (show RI _ (canon (84 + v_5.toNatClampNeg % 88)).1 (canon (84 + v_5.toNatClampNeg % 88)).2 by rw [← e_9]; exact o_v_8) (fun _ _ _ _ _ => trivial) (by decide) dX10_snap_79 (fun ws H locs hw hF9 hU9 => ?_)
        have m_z0_25 := FLD.over hF9 m_z0_25 (by decide)
        obtain ⟨v_10, e_v_10⟩ : ∃ q9 : Int32, q9 = x1 + Int32.ofInt 1 := ⟨_, rfl⟩
        obtain ⟨t_v_10, r_v_10⟩ := tq_add (lo := 1) (hi := 88) r_x1 (show RI (Int32.ofInt 1) 1 1 by unfold RI; decide +kernel) (by decide +kernel) e_v_10
        have t_v_10 : v_10.toInt = x1.toInt + 1 := t_v_10
        refine lv_iinc (v := v_10) (lv' := [(1, .int v_10), (0, .ref p0)]) hx hb dX10_snap_80 hl (k := 1) rfl e_v_10.symm (by decide) rfl (fun ls hl => ?_)
        refine lv_goto (tgt := 51) hx hb dX10_snap_83 (by decide) ?_
        exact ih51 v_10 z0_25 ws _ _ ls (by have q0 := r_v_10.1; have u0 := r_v_10.2; have o0 := r_x1.1; have p0 := r_x1.2; omega) (r_v_10.to (by decide)) r_z0_25 m_z0_25 hw (lv_sub hl [1, 0] rfl)
  have B49 : ∀ (z0_25 : Int32) (ws : va_W) (H : Heap) (locs : List Loc) (ls : Array Slot), RI z0_25 0 7 → FLD ws p0 10 25 (.int z0_25) → WD D cy GG A s wr_X10_snap wa_X10_snap Ps w0 Ps ws H locs → lv_has ls 2 [(0, .ref p0)] → W p l e (headSpec (Cond.code yX10_snap cX10_snap 2 none :: gT) ({ frames := 0, cells := 0, slots := 0, locals := 200 } : Room)).room s m ([.ref p0] : List Value).toArray below meth c H locs 0 0 Q (F0 m 49 ls []) := by
    intro z0_25 ws H locs ls r_z0_25 m_z0_25 hw hl
    refine lv_iconst (v := 0) hx hb dX10_snap_49 (by decide) ?_
    refine lv_istore_n (lv' := [(1, .int 0), (0, .ref p0)]) hx hb dX10_snap_50 rfl hl (by decide) rfl (fun ls hl => ?_)
    exact B51 4294967298 0 z0_25 ws _ _ ls (by have q0 := rl_0.1; have u0 := rl_0.2; omega) (rl_0.to (by decide)) r_z0_25 m_z0_25 hw (lv_sub hl [1, 0] rfl)
  have B11 : ∀ (nf : Nat) (x1 : Int32) (z0_25 : Int32) (ws : va_W) (H : Heap) (locs : List Loc) (ls : Array Slot), 616 - x1.toInt < (nf : Int) → RI x1 0 616 → RI z0_25 8 8 → FLD ws p0 10 25 (.int z0_25) → WD D cy GG A s wr_X10_snap wa_X10_snap Ps w0 Ps ws H locs → lv_has ls 2 [(0, .ref p0), (1, .int x1)] → W p l e (headSpec (Cond.code yX10_snap cX10_snap 2 none :: gT) ({ frames := 0, cells := 0, slots := 0, locals := 200 } : Room)).room s m ([.ref p0] : List Value).toArray below meth c H locs 0 0 Q (F0 m 11 ls []) := by
    intro nf11
    induction nf11 with
    | zero =>
      intro x1 z0_25 ws H locs ls hn11 r_x1 r_z0_25 m_z0_25 hw hl
      exact absurd hn11 (by have q0 := r_x1.1; have u0 := r_x1.2; omega)
    | succ nf11 ih11 =>
      intro x1 z0_25 ws H locs ls hn11 r_x1 r_z0_25 m_z0_25 hw hl
      refine lv_iload_n hx hb dX10_snap_11 rfl (lv_at hl 1 rfl) ?_
      refine lv_sipush (v := 616) hx hb dX10_snap_12 (by decide) ?_
      refine lv_icmp_ge (tgt := 39) hx hb dX10_snap_15 (by decide) (fun c_15 => ?_) (fun c_15 => ?_)
      · have r_x1 : RI x1 616 616 := rc_le2 rl_616 r_x1 (ti_le c_15) (by decide)
        refine lv_aload_n hx hb dX10_snap_39 rfl (lv_at hl 0 rfl) ?_
        refine lv_dup hx hb dX10_snap_40 rfl ?_
        refine tg_mem (ci := 10) (C := RX10) (T := TX10) (N := 49) hx hb hts inX10 hown hK hw 25 m_z0_25 rfl (by decide) (hts _ tw_1162) (fun _ h9 => h9) dX10_snap_41 ?_
        refine lv_iconst (v := 1) hx hb dX10_snap_44 (by decide) ?_
        refine lv_isub hx hb dX10_snap_45 (lv_topi (fun v_11 e_v_11 => ?_))
        obtain ⟨t_v_11, r_v_11⟩ := tq_sub (lo := 7) (hi := 7) r_z0_25 rl_1 (by decide +kernel) e_v_11
        have t_v_11 : v_11.toInt = z0_25.toInt - 1 := t_v_11
        refine tg_put (ci := 10) (ts := ty_MODEL) (v := .int v_11) (ty := .int) (C := RX10) (T := TX10) (N := 49) hx hb hts inX10 tyX10 tyX10_ok nmX10 hown hK hw h_p0 rfl rfl 25 (by decide) (hts _ tw_1162) (fun _ h9 => h9) rfl (by decide +kernel) rfl rfl (ft := vI 0 8) rfl ⟨_, rfl, (r_v_11.to (by decide))⟩ (by decide) dX10_snap_46 (fun ws H locs hw n_k_12 hF9 => ?_)
        exact B49 v_11 ws _ _ ls (r_v_11.to (by decide)) n_k_12 hw (lv_sub hl [0] rfl)
      · have r_x1 : RI x1 0 615 := rc_lt1 r_x1 rl_616 (ti_nle c_15) (by decide)
        refine lv_aload_n hx hb dX10_snap_18 rfl (lv_at hl 0 rfl) ?_
        refine tg_get (ci := 10) (ts := ty_MODEL) (C := RX10) (T := TX10) (N := 49) hx hb hts inX10 hown hK hw h_p0 rfl rfl 17 (by decide) (hts _ tw_1154) (fun _ h9 => h9) (ft := vR 37) rfl dX10_snap_19 (fun u_13 hv_u_13 m_u_13 => ?_)
        obtain ⟨vu_13, rfl, h_vu_13⟩ := hv_u_13
        refine lv_iload_n hx hb dX10_snap_22 rfl (lv_at hl 1 rfl) ?_
        refine lv_aload_n hx hb dX10_snap_23 rfl (lv_at hl 0 rfl) ?_
        refine tg_mem (ci := 10) (C := RX10) (T := TX10) (N := 49) hx hb hts inX10 hown hK hw 17 m_u_13 rfl (by decide) (hts _ tw_1154) (fun _ h9 => h9) dX10_snap_24 ?_
        refine lv_iload_n hx hb dX10_snap_27 rfl (lv_at hl 1 rfl) ?_
        refine lv_bipush (v := 88) hx hb dX10_snap_28 (by decide) ?_
        refine lv_iadd hx hb dX10_snap_30 (lv_topi (fun v_14 e_v_14 => ?_))
        obtain ⟨t_v_14, r_v_14⟩ := tq_add (lo := 88) (hi := 703) r_x1 rl_88 (by decide +kernel) e_v_14
        have t_v_14 : v_14.toInt = x1.toInt + 88 := t_v_14
        refine tg_iald (lo := (-2147483648)) (hi := 2147483647) hx hb hK hw h_vu_13 rfl 88 703 r_v_14 (by decide) (by decide +kernel) dX10_snap_31 (fun v_15 r_v_15 m_v_15 o_v_15 => ?_)
        have e_16 : 84 + v_14.toNatClampNeg % 88 = 84 + x1.toNatClampNeg % 88 := by have k1 := r_v_14.cl (by decide); have k2 := r_x1.cl (by decide); have b10 := r_x1.1; have b20 := r_x1.2; have b11 := r_z0_25.1; have b21 := r_z0_25.2; have b12 := r_v_14.1; have b22 := r_v_14.2; have b13 := r_v_15.1; have b23 := r_v_15.2; omega
        refine tg_iasto hx hb hK hw h_vu_13 rfl 0 615 r_x1 (by decide) (show RI _ (canon (84 + x1.toNatClampNeg % 88)).1 (canon (84 + x1.toNatClampNeg % 88)).2 by rw [← e_16]; exact o_v_15) (fun _ _ _ _ _ => trivial) (by decide) dX10_snap_32 (fun ws H locs hw hF9 hU9 => ?_)
        have m_z0_25 := FLD.over hF9 m_z0_25 (by decide)
        obtain ⟨v_17, e_v_17⟩ : ∃ q9 : Int32, q9 = x1 + Int32.ofInt 1 := ⟨_, rfl⟩
        obtain ⟨t_v_17, r_v_17⟩ := tq_add (lo := 1) (hi := 616) r_x1 (show RI (Int32.ofInt 1) 1 1 by unfold RI; decide +kernel) (by decide +kernel) e_v_17
        have t_v_17 : v_17.toInt = x1.toInt + 1 := t_v_17
        refine lv_iinc (v := v_17) (lv' := [(1, .int v_17), (0, .ref p0)]) hx hb dX10_snap_33 hl (k := 1) rfl e_v_17.symm (by decide) rfl (fun ls hl => ?_)
        refine lv_goto (tgt := 11) hx hb dX10_snap_36 (by decide) ?_
        exact ih11 v_17 z0_25 ws _ _ ls (by have q0 := r_v_17.1; have u0 := r_v_17.2; have o0 := r_x1.1; have p0 := r_x1.2; omega) (r_v_17.to (by decide)) r_z0_25 m_z0_25 hw (lv_sub hl [1, 0] rfl)
  refine lv_aload_n hx hb dX10_snap_0 rfl (lv_at hl 0 rfl) ?_
  refine tg_get (ci := 10) (ts := ty_MODEL) (C := RX10) (T := TX10) (N := 49) hx hb hts inX10 hown hK hw h_p0 rfl rfl 25 (by decide) (hts _ tw_1162) (fun _ h9 => h9) (ft := vI 0 8) rfl dX10_snap_1 (fun u_18 hv_u_18 m_u_18 => ?_)
  obtain ⟨vu_18, rfl, r_vu_18⟩ := hv_u_18
  refine lv_bipush (v := 8) hx hb dX10_snap_4 (by decide) ?_
  refine lv_icmp_ne (tgt := 49) hx hb dX10_snap_6 (by decide) (fun c_6 => ?_) (fun c_6 => ?_)
  · have r_vu_18 : RI vu_18 0 7 := rc_neU r_vu_18 rl_8 (ti_ne c_6) (by decide)
    exact B49 vu_18 w0 _ _ ls r_vu_18 m_u_18 hw hl
  · have r_vu_18 : RI vu_18 8 8 := rc_eq1 r_vu_18 rl_8 (ti_eq c_6) (by decide)
    refine lv_iconst (v := 0) hx hb dX10_snap_9 (by decide) ?_
    refine lv_istore_n (lv' := [(1, .int 0), (0, .ref p0)]) hx hb dX10_snap_10 rfl hl (by decide) rfl (fun ls hl => ?_)
    exact B11 4294967298 0 vu_18 w0 _ _ ls (by have q0 := rl_0.1; have u0 := rl_0.2; omega) (rl_0.to (by decide)) r_vu_18 m_u_18 hw (lv_sub hl [1, 0] rfl)
abbrev wr_X10_live : List (Nat × Nat) := []
abbrev wa_X10_live : List Nat := [34]
set_option maxHeartbeats 4000000 in
set_option maxRecDepth 100000 in
theorem c_X10_live (l : Launch) (D : va_G) (cy : Nat → ClassId) (z : Nat → Nat) (sz : Nat) (Ps : PSI) (w0 : va_W) (hT : HT cy GG Ps w0) (p0 : Nat) (p1 : Int32) (p2 : Int32) (p3 : Int32) (h_p0 : (p0, 55) ∈ Ps) (r_p1 : RI p1 5 5) (r_p2 : RI p2 0 5) (r_p3 : RI p3 0 3) : Met l yX10_live (Cond.code yX10_live cX10_live 4 none :: gT) ({ frames := 0, cells := 0, slots := 0, locals := 200 } : Room) (va_Pc [.ref p0, .int p1, .int p2, .int p3] (PRE D cy z w0 sz)) (va_Qv (fun (u : va_W) => (True) ∧ HT cy GG Ps u ∧ FR wr_X10_live wa_X10_live Ps w0 u) (BB D cy (va_A w0 sz) (fun (u : va_W) => u)) (va_A w0 sz)) 0 0 (va_A w0 sz) := by
  refine Met.ofW (cc := cX10_live) (maxL := 4) (ret := none) (by decide) rfl ?_
  intro p e s m args below meth c s₁ B hml hv
  obtain ⟨rfl, hsz, hP, hK, hD0, hSD⟩ := hv
  have hx := B.exec
  have hb := B.bytes
  have hr := B.returns
  have hlocks := B.notSynchronized
  have hts : ∀ w ∈ gT, w.before _ s = true := fun w h => atoms_spec (ws := Cond.code yX10_live cX10_live 4 none :: gT) B.pre w (List.mem_cons_of_mem _ h)
  have hown : s.vm.findClass RX10 = some m.cls := findClass_of_methodNamed B.named
  subst hsz
  have hD := hD0.self (sz := s.heap.size)
  generalize hAe : va_A w0 s.heap.size = A at hD hSD ⊢
  have hA : ∀ q : Nat, s.heap.size ≤ q → A q := fun q h => by rw [← hAe]; exact Or.inr h
  have hl := lv_entry ([.ref p0, .int p1, .int p2, .int p3]) (n := 4) (Nat.le_of_ble_eq_true rfl)
  rw [lg_entry_eq]
  generalize (lg_sl ([.ref p0, .int p1, .int p2, .int p3]) ++ List.replicate (4 - (lg_sl ([.ref p0, .int p1, .int p2, .int p3])).length) Slot.unset).toArray = ls at hl ⊢
  have hl : lv_has ls 4 [(0, .ref p0), (1, .int p1), (2, .int p2), (3, .int p3)] := hl
  refine nameQ (fun Q hQ => ?_)
  have hw : WD D cy GG A s wr_X10_live wa_X10_live Ps w0 Ps w0 s.heap [] := ⟨hT, hP, hD, va_S.rf, FR.rf, hT.1, [], (List.append_nil _).symm⟩
  refine lv_iload_n hx hb dX10_live_0 rfl (lv_at hl 1 rfl) ?_
  have w_1 := r_p1
  by_cases cl_1 : p1.toInt < 0 ∨ 4 < p1.toInt
  · refine lv_tableOut (tgt := 90) hx hb dX10_live_1 cl_1 (by decide) ?_
    refine lv_aload_n hx hb dX10_live_90 rfl (lv_at hl 0 rfl) ?_
    refine tg_get (ci := 10) (ts := ty_MODEL) (C := RX10) (T := TX10) (N := 49) hx hb hts inX10 hown hK hw h_p0 rfl rfl 14 (by decide) (hts _ tw_1151) (fun _ h9 => h9) (ft := vR 34) rfl dX10_live_91 (fun u_1 hv_u_1 m_u_1 => ?_)
    obtain ⟨vu_1, rfl, h_vu_1⟩ := hv_u_1
    refine lv_bipush (v := 86) hx hb dX10_live_94 (by decide) ?_
    refine lv_iload_n hx hb dX10_live_96 rfl (lv_at hl 2 rfl) ?_
    refine lv_iadd hx hb dX10_live_97 (lv_topi (fun v_2 e_v_2 => ?_))
    obtain ⟨t_v_2, r_v_2⟩ := tq_add (lo := 86) (hi := 91) rl_86 r_p2 (by decide +kernel) e_v_2
    have t_v_2 : v_2.toInt = 86 + p2.toInt := t_v_2
    refine lv_iload_n hx hb dX10_live_98 rfl (lv_at hl 3 rfl) ?_
    refine tg_iast hx hb hK hw h_vu_1 rfl 86 91 r_v_2 (by decide) r_p3 (by decide +kernel) (RN_upd (by decide) (by decide)) (by decide) dX10_live_99 (fun ws H locs hw hF9 hU9 => ?_)
    subst hQ
    exact W.vret hx hb hr (fun t ht hW => ⟨⟨ws, rfl, ⟨trivial, hw.1, hw.2.2.2.2.1⟩, by rw [ht]; exact hw.2.1, va_K.moved hW.alike hK, hw.2.2.1⟩, hw.2.2.2.1.F ht⟩) hw.2.2.2.1.2.2 dX10_live_100
  · have e_1 : p1.toInt = 0 ∨ p1.toInt = 1 ∨ p1.toInt = 2 ∨ p1.toInt = 3 ∨ p1.toInt = 4 := by omega
    rcases e_1 with h_1 | h_1 | h_1 | h_1 | h_1
    · exact absurd h_1 (by unfold RI at w_1; omega)
    · exact absurd h_1 (by unfold RI at w_1; omega)
    · exact absurd h_1 (by unfold RI at w_1; omega)
    · exact absurd h_1 (by unfold RI at w_1; omega)
    · exact absurd h_1 (by unfold RI at w_1; omega)
abbrev wr_X10_act : List (Nat × Nat) := [(10, 25)]
abbrev wa_X10_act : List Nat := [34, 37]
set_option maxHeartbeats 4000000 in
set_option maxRecDepth 100000 in
theorem c_X10_act (l : Launch) (D : va_G) (cy : Nat → ClassId) (z : Nat → Nat) (sz : Nat) (Ps : PSI) (w0 : va_W) (hT : HT cy GG Ps w0) (p0 : Nat) (p1 : Int32) (p2 : Int32) (p3 : Int32) (h_p0 : (p0, 55) ∈ Ps) (r_p1 : RI p1 5 5) (r_p2 : RI p2 0 5) (r_p3 : RI p3 0 3) : Met l yX10_act (Cond.code yX10_act cX10_act 5 (some .int) :: gT) ({ frames := 4, cells := 0, slots := 0, locals := 800 } : Room) (va_Pc [.ref p0, .int p1, .int p2, .int p3] (PRE D cy z w0 sz)) (va_Qi (fun (r : Int32) (u : va_W) => (RI r 0 2 ∧ (r = 0 → (∃ v9 : Int32, FLD u p0 10 25 (.int v9) ∧ RI v9 1 8) ∧ True) ∧ (¬ r = 0 → True)) ∧ HT cy GG Ps u ∧ FR wr_X10_act wa_X10_act Ps w0 u) (BB D cy (va_A w0 sz) (fun (u : va_W) => u)) (va_A w0 sz)) 0 0 (va_A w0 sz) := by
  refine Met.ofW (cc := cX10_act) (maxL := 5) (ret := (some .int)) (by decide) rfl ?_
  intro p e s m args below meth c s₁ B hml hv
  obtain ⟨rfl, hsz, hP, hK, hD0, hSD⟩ := hv
  have hx := B.exec
  have hb := B.bytes
  have hr := B.returns
  have hlocks := B.notSynchronized
  have hts : ∀ w ∈ gT, w.before _ s = true := fun w h => atoms_spec (ws := Cond.code yX10_act cX10_act 5 (some .int) :: gT) B.pre w (List.mem_cons_of_mem _ h)
  have hown : s.vm.findClass RX10 = some m.cls := findClass_of_methodNamed B.named
  subst hsz
  have hD := hD0.self (sz := s.heap.size)
  generalize hAe : va_A w0 s.heap.size = A at hD hSD ⊢
  have hA : ∀ q : Nat, s.heap.size ≤ q → A q := fun q h => by rw [← hAe]; exact Or.inr h
  have hl := lv_entry ([.ref p0, .int p1, .int p2, .int p3]) (n := 5) (Nat.le_of_ble_eq_true rfl)
  rw [lg_entry_eq]
  generalize (lg_sl ([.ref p0, .int p1, .int p2, .int p3]) ++ List.replicate (5 - (lg_sl ([.ref p0, .int p1, .int p2, .int p3])).length) Slot.unset).toArray = ls at hl ⊢
  have hl : lv_has ls 5 [(0, .ref p0), (1, .int p1), (2, .int p2), (3, .int p3)] := hl
  refine nameQ (fun Q hQ => ?_)
  have hw : WD D cy GG A s wr_X10_act wa_X10_act Ps w0 Ps w0 s.heap [] := ⟨hT, hP, hD, va_S.rf, FR.rf, hT.1, [], (List.append_nil _).symm⟩
  refine lv_aload_n hx hb dX10_act_0 rfl (lv_at hl 0 rfl) ?_
  refine lv_iload_n hx hb dX10_act_1 rfl (lv_at hl 1 rfl) ?_
  refine lv_iload_n hx hb dX10_act_2 rfl (lv_at hl 2 rfl) ?_
  refine lv_iload_n hx hb dX10_act_3 rfl (lv_at hl 3 rfl) ?_
  refine tk_ir (va_runV (As := [.int p1, .int p2, .int p3]) (rest := []) ⟨hx, hb, hml, hown, hts⟩ (c_X10_why l D cy z s.heap.size Ps w0 hw.1 p0 p1 p2 p3 h_p0 r_p1 r_p2 r_p3) (cwV 3 hts (gV tw_1501 tw_1503 ts_77 tw_15 tw_1504) rfl rfl rfl (by decide +kernel) ⟨Nat.le_of_ble_eq_true rfl, Nat.le_of_ble_eq_true rfl⟩) (tg_preV hw hK hSD hA (ci := 10) (q := (RX10, TX10, 49)) rfl h_p0 rfl) rfl rfl hl.1 rfl (lv_room (Nat.le_of_ble_eq_true rfl)) dX10_act_4 ⟨Nat.le_of_ble_eq_true rfl, Nat.le_of_ble_eq_true rfl⟩) hw hA (fun v_1  H locs hp_v_1 hw => ?_)
  have r_v_1 : RI v_1 0 2 := hp_v_1.1
  refine lv_istore (lv' := [(4, .int v_1), (0, .ref p0), (1, .int p1), (2, .int p2), (3, .int p3)]) hx hb dX10_act_7 hl (by decide) rfl (fun ls hl => ?_)
  refine lv_iload hx hb dX10_act_9 (lv_at hl 0 rfl) ?_
  refine lv_if_eq (tgt := 17) hx hb dX10_act_11 (by decide) (fun c_11 => ?_) (fun c_11 => ?_)
  · have r_v_1 : RI v_1 0 0 := rc_eq1 r_v_1 rl_0 (ti_eq c_11) (by decide)
    refine lv_aload_n hx hb dX10_act_17 rfl (lv_at hl 1 rfl) ?_
    refine tk_v (va_runV (As := []) (rest := []) ⟨hx, hb, hml, hown, hts⟩ (c_X10_snap l D cy z H.size Ps w0 hw.1 p0 h_p0) (cwV 0 hts (gV tw_1505 tw_1507 ts_78 tw_15 tw_1508) rfl rfl rfl (by decide +kernel) ⟨Nat.le_of_ble_eq_true rfl, Nat.le_of_ble_eq_true rfl⟩) (tg_preV hw hK hSD hA (ci := 10) (q := (RX10, TX10, 49)) rfl h_p0 rfl) rfl rfl hl.1 rfl (lv_room (Nat.le_of_ble_eq_true rfl)) dX10_act_18 ⟨Nat.le_of_ble_eq_true rfl, Nat.le_of_ble_eq_true rfl⟩) hw hA ⟨by decide, by decide⟩ (fun ws H locs hp_v_2 hw hF9 => ?_)
    obtain ⟨v_3, m_v_3, r_v_3⟩ := (hp_v_2.1)
    refine lv_aload_n hx hb dX10_act_21 rfl (lv_at hl 1 rfl) ?_
    refine lv_iload_n hx hb dX10_act_22 rfl (lv_at hl 2 rfl) ?_
    refine lv_iload_n hx hb dX10_act_23 rfl (lv_at hl 3 rfl) ?_
    refine lv_iload_n hx hb dX10_act_24 rfl (lv_at hl 4 rfl) ?_
    refine tk_v (va_runV (As := [.int p1, .int p2, .int p3]) (rest := []) ⟨hx, hb, hml, hown, hts⟩ (c_X10_live l D cy z H.size Ps ws hw.1 p0 p1 p2 p3 h_p0 r_p1 r_p2 r_p3) (cwV 3 hts (gV tw_1509 tw_1511 ts_79 tw_15 tw_1512) rfl rfl rfl (by decide +kernel) ⟨Nat.le_of_ble_eq_true rfl, Nat.le_of_ble_eq_true rfl⟩) (tg_preV hw hK hSD hA (ci := 10) (q := (RX10, TX10, 49)) rfl h_p0 rfl) rfl rfl hl.1 rfl (lv_room (Nat.le_of_ble_eq_true rfl)) dX10_act_25 ⟨Nat.le_of_ble_eq_true rfl, Nat.le_of_ble_eq_true rfl⟩) hw hA ⟨by decide, by decide⟩ (fun ws H locs hp_v_4 hw hF9 => ?_)
    have m_v_3 := FLD.over hF9 m_v_3 (by decide)
    refine lv_iconst (v := 0) hx hb dX10_act_28 (by decide) ?_
    subst hQ
    exact W.iret (v := 0) hx hb hr (fun t ht hW => ⟨⟨0, ws, rfl, ⟨⟨rl_0.to (by decide), (fun h0 => ⟨⟨_, m_v_3, r_v_3⟩, trivial⟩), (fun _ => trivial)⟩, hw.1, hw.2.2.2.2.1⟩, by rw [ht]; exact hw.2.1, va_K.moved hW.alike hK, hw.2.2.1⟩, hw.2.2.2.1.F ht⟩) hw.2.2.2.1.2.2 dX10_act_29
  · have r_v_1 : RI v_1 1 2 := rc_neL r_v_1 rl_0 (ti_ne c_11) (by decide)
    refine lv_iload hx hb dX10_act_14 (lv_at hl 0 rfl) ?_
    subst hQ
    exact W.iret (v := v_1) hx hb hr (fun t ht hW => ⟨⟨v_1, w0, rfl, ⟨⟨r_v_1.to (by decide), (fun h0 => absurd (ti_eq h0) (by have h8 := r_v_1; unfold RI at h8; rw [Int32.toInt_zero]; omega)), (fun h0 => trivial)⟩, hw.1, hw.2.2.2.2.1⟩, by rw [ht]; exact hw.2.1, va_K.moved hW.alike hK, hw.2.2.1⟩, hw.2.2.2.1.F ht⟩) hw.2.2.2.1.2.2 dX10_act_16
abbrev wr_X10_carry : List (Nat × Nat) := [(10, 0), (10, 25)]
abbrev wa_X10_carry : List Nat := [34, 37]
set_option maxHeartbeats 4000000 in
set_option maxRecDepth 100000 in
theorem c_X10_carry (l : Launch) (D : va_G) (cy : Nat → ClassId) (z : Nat → Nat) (sz : Nat) (Ps : PSI) (w0 : va_W) (hT : HT cy GG Ps w0) (p0 : Nat) (p1 : Int32) (p2 : Int32) (h_p0 : (p0, 55) ∈ Ps) (r_p1 : RI p1 (-2147483648) 2147483647) (r_p2 : RI p2 (-2147483648) 2147483647) : Met l yX10_carry (Cond.code yX10_carry cX10_carry 3 (some .int) :: gT) ({ frames := 5, cells := 0, slots := 0, locals := 1000 } : Room) (va_Pc [.ref p0, .int p1, .int p2] (PRE D cy z w0 sz)) (va_Qi (fun (r : Int32) (u : va_W) => (RI r (-1) 2 ∧ (r = 0 → True) ∧ (¬ r = 0 → True)) ∧ HT cy GG Ps u ∧ FR wr_X10_carry wa_X10_carry Ps w0 u) (BB D cy (va_A w0 sz) (fun (u : va_W) => u)) (va_A w0 sz)) 0 0 (va_A w0 sz) := by
  refine Met.ofW (cc := cX10_carry) (maxL := 3) (ret := (some .int)) (by decide) rfl ?_
  intro p e s m args below meth c s₁ B hml hv
  obtain ⟨rfl, hsz, hP, hK, hD0, hSD⟩ := hv
  have hx := B.exec
  have hb := B.bytes
  have hr := B.returns
  have hlocks := B.notSynchronized
  have hts : ∀ w ∈ gT, w.before _ s = true := fun w h => atoms_spec (ws := Cond.code yX10_carry cX10_carry 3 (some .int) :: gT) B.pre w (List.mem_cons_of_mem _ h)
  have hown : s.vm.findClass RX10 = some m.cls := findClass_of_methodNamed B.named
  subst hsz
  have hD := hD0.self (sz := s.heap.size)
  generalize hAe : va_A w0 s.heap.size = A at hD hSD ⊢
  have hA : ∀ q : Nat, s.heap.size ≤ q → A q := fun q h => by rw [← hAe]; exact Or.inr h
  have hl := lv_entry ([.ref p0, .int p1, .int p2]) (n := 3) (Nat.le_of_ble_eq_true rfl)
  rw [lg_entry_eq]
  generalize (lg_sl ([.ref p0, .int p1, .int p2]) ++ List.replicate (3 - (lg_sl ([.ref p0, .int p1, .int p2])).length) Slot.unset).toArray = ls at hl ⊢
  have hl : lv_has ls 3 [(0, .ref p0), (1, .int p1), (2, .int p2)] := hl
  refine nameQ (fun Q hQ => ?_)
  have hw : WD D cy GG A s wr_X10_carry wa_X10_carry Ps w0 Ps w0 s.heap [] := ⟨hT, hP, hD, va_S.rf, FR.rf, hT.1, [], (List.append_nil _).symm⟩
  refine lv_aload_n hx hb dX10_carry_0 rfl (lv_at hl 0 rfl) ?_
  refine lv_iconst (v := 0) hx hb dX10_carry_1 (by decide) ?_
  refine tg_put (ci := 10) (ts := ty_MODEL) (v := .int 0) (ty := .int) (C := RX10) (T := TX10) (N := 49) hx hb hts inX10 tyX10 tyX10_ok nmX10 hown hK hw h_p0 rfl rfl 0 (by decide) (hts _ tw_1137) (fun _ h9 => h9) rfl (by decide +kernel) rfl rfl (ft := vI (-2147483648) 2147483647) rfl ⟨_, rfl, (rl_0.to (by decide))⟩ (by decide) dX10_carry_2 (fun ws H locs hw n_k_1 hF9 => ?_)
  refine lv_aload_n hx hb dX10_carry_5 rfl (lv_at hl 0 rfl) ?_
  refine lv_iload_n hx hb dX10_carry_6 rfl (lv_at hl 1 rfl) ?_
  refine tk_ir (va_runV (As := [.int p1]) (rest := []) ⟨hx, hb, hml, hown, hts⟩ (c_X10_isParcel l D cy z H.size Ps ws hw.1 p0 p1 h_p0 r_p1) (cwV 1 hts (gV tw_1429 tw_1431 ts_65 tw_15 tw_1432) rfl rfl rfl (by decide +kernel) ⟨Nat.le_of_ble_eq_true rfl, Nat.le_of_ble_eq_true rfl⟩) (tg_preV hw hK hSD hA (ci := 10) (q := (RX10, TX10, 49)) rfl h_p0 rfl) rfl rfl hl.1 rfl (lv_room (Nat.le_of_ble_eq_true rfl)) dX10_carry_7 ⟨Nat.le_of_ble_eq_true rfl, Nat.le_of_ble_eq_true rfl⟩) hw hA (fun v_2  H locs hp_v_2 hw => ?_)
  have r_v_2 : RI v_2 0 1 := hp_v_2.1
  refine lv_if_eq (tgt := 31) hx hb dX10_carry_10 (by decide) (fun c_10 => ?_) (fun c_10 => ?_)
  · have r_v_2 : RI v_2 0 0 := rc_eq1 r_v_2 rl_0 (ti_eq c_10) (by decide)
    refine lv_iconst (v := (-1)) hx hb dX10_carry_31 (by decide) ?_
    subst hQ
    exact W.iret (v := (-1)) hx hb hr (fun t ht hW => ⟨⟨(-1), ws, rfl, ⟨⟨rl_m1.to (by decide), (fun _ => trivial), (fun h0 => trivial)⟩, hw.1, hw.2.2.2.2.1⟩, by rw [ht]; exact hw.2.1, va_K.moved hW.alike hK, hw.2.2.1⟩, hw.2.2.2.1.F ht⟩) hw.2.2.2.1.2.2 dX10_carry_32
  · have r_v_2 : RI v_2 1 1 := rc_neL r_v_2 rl_0 (ti_ne c_10) (by decide)
    have r_p1 : RI p1 0 5 := ((hp_v_2.2.2 c_10).1)
    refine lv_aload_n hx hb dX10_carry_13 rfl (lv_at hl 0 rfl) ?_
    refine lv_iload_n hx hb dX10_carry_14 rfl (lv_at hl 2 rfl) ?_
    refine tk_ir (va_runV (As := [.int p2]) (rest := []) ⟨hx, hb, hml, hown, hts⟩ (c_X10_isRoom l D cy z H.size Ps ws hw.1 p0 p2 h_p0 r_p2) (cwV 1 hts (gV tw_1548 tw_1550 ts_83 tw_15 tw_1551) rfl rfl rfl (by decide +kernel) ⟨Nat.le_of_ble_eq_true rfl, Nat.le_of_ble_eq_true rfl⟩) (tg_preV hw hK hSD hA (ci := 10) (q := (RX10, TX10, 49)) rfl h_p0 rfl) rfl rfl hl.1 rfl (lv_room (Nat.le_of_ble_eq_true rfl)) dX10_carry_15 ⟨Nat.le_of_ble_eq_true rfl, Nat.le_of_ble_eq_true rfl⟩) hw hA (fun v_3  H locs hp_v_3 hw => ?_)
    have r_v_3 : RI v_3 0 1 := hp_v_3.1
    refine lv_if_eq (tgt := 31) hx hb dX10_carry_18 (by decide) (fun c_18 => ?_) (fun c_18 => ?_)
    · have r_v_3 : RI v_3 0 0 := rc_eq1 r_v_3 rl_0 (ti_eq c_18) (by decide)
      refine lv_iconst (v := (-1)) hx hb dX10_carry_31 (by decide) ?_
      subst hQ
      exact W.iret (v := (-1)) hx hb hr (fun t ht hW => ⟨⟨(-1), ws, rfl, ⟨⟨rl_m1.to (by decide), (fun _ => trivial), (fun h0 => trivial)⟩, hw.1, hw.2.2.2.2.1⟩, by rw [ht]; exact hw.2.1, va_K.moved hW.alike hK, hw.2.2.1⟩, hw.2.2.2.1.F ht⟩) hw.2.2.2.1.2.2 dX10_carry_32
    · have r_v_3 : RI v_3 1 1 := rc_neL r_v_3 rl_0 (ti_ne c_18) (by decide)
      have r_p2 : RI p2 0 3 := ((hp_v_3.2.2 c_18).1)
      refine lv_aload_n hx hb dX10_carry_21 rfl (lv_at hl 0 rfl) ?_
      refine lv_iconst (v := 5) hx hb dX10_carry_22 (by decide) ?_
      refine lv_iload_n hx hb dX10_carry_23 rfl (lv_at hl 1 rfl) ?_
      refine lv_iload_n hx hb dX10_carry_24 rfl (lv_at hl 2 rfl) ?_
      refine tk_i (va_runV (As := [.int 5, .int p1, .int p2]) (rest := []) ⟨hx, hb, hml, hown, hts⟩ (c_X10_act l D cy z H.size Ps ws hw.1 p0 5 p1 p2 h_p0 rl_5 r_p1 r_p2) (cwV 3 hts (gV tw_1497 tw_1499 ts_76 tw_15 tw_1500) rfl rfl rfl (by decide +kernel) ⟨Nat.le_of_ble_eq_true rfl, Nat.le_of_ble_eq_true rfl⟩) (tg_preV hw hK hSD hA (ci := 10) (q := (RX10, TX10, 49)) rfl h_p0 rfl) rfl rfl hl.1 rfl (lv_room (Nat.le_of_ble_eq_true rfl)) dX10_carry_25 ⟨Nat.le_of_ble_eq_true rfl, Nat.le_of_ble_eq_true rfl⟩) hw hA ⟨by decide, by decide⟩ (fun v_4 ws H locs hp_v_4 hw hF9 => ?_)
      have n_k_1 := FLD.over hF9 n_k_1 (by decide)
      have r_v_4 : RI v_4 0 2 := hp_v_4.1
      by_cases c9_v_4 : v_4 = 0
      · have r_v_4 : RI v_4 0 0 := by rw [c9_v_4]; exact rl_0
        obtain ⟨v_5, m_v_5, r_v_5⟩ := ((hp_v_4.2.1 c9_v_4).1)
        refine lv_goto (tgt := 32) hx hb dX10_carry_28 (by decide) ?_
        subst hQ
        exact W.iret (v := v_4) hx hb hr (fun t ht hW => ⟨⟨v_4, ws, rfl, ⟨⟨r_v_4.to (by decide), (fun h0 => trivial), (fun _ => trivial)⟩, hw.1, hw.2.2.2.2.1⟩, by rw [ht]; exact hw.2.1, va_K.moved hW.alike hK, hw.2.2.1⟩, hw.2.2.2.1.F ht⟩) hw.2.2.2.1.2.2 dX10_carry_32
      · have r_v_4 : RI v_4 1 2 := rc_neL r_v_4 rl_0 (ti_ne c9_v_4) (by decide)
        refine lv_goto (tgt := 32) hx hb dX10_carry_28 (by decide) ?_
        subst hQ
        exact W.iret (v := v_4) hx hb hr (fun t ht hW => ⟨⟨v_4, ws, rfl, ⟨⟨r_v_4.to (by decide), (fun _ => trivial), (fun h0 => trivial)⟩, hw.1, hw.2.2.2.2.1⟩, by rw [ht]; exact hw.2.1, va_K.moved hW.alike hK, hw.2.2.1⟩, hw.2.2.2.1.F ht⟩) hw.2.2.2.1.2.2 dX10_carry_32
abbrev wr_X10_count : List (Nat × Nat) := [(10, 0)]
abbrev wa_X10_count : List Nat := []
set_option maxHeartbeats 4000000 in
set_option maxRecDepth 100000 in
theorem c_X10_count (l : Launch) (D : va_G) (cy : Nat → ClassId) (z : Nat → Nat) (sz : Nat) (Ps : PSI) (w0 : va_W) (hT : HT cy GG Ps w0) (p0 : Nat) (p1 : Int32) (h_p0 : (p0, 55) ∈ Ps) (r_p1 : RI p1 (-2147483648) 2147483647) : Met l yX10_count (Cond.code yX10_count cX10_count 2 (some .int) :: gT) ({ frames := 0, cells := 0, slots := 0, locals := 200 } : Room) (va_Pc [.ref p0, .int p1] (PRE D cy z w0 sz)) (va_Qi (fun (r : Int32) (u : va_W) => (RI r (-2147483648) 2147483647 ∧ (r = 0 → True) ∧ (¬ r = 0 → True)) ∧ HT cy GG Ps u ∧ FR wr_X10_count wa_X10_count Ps w0 u) (BB D cy (va_A w0 sz) (fun (u : va_W) => u)) (va_A w0 sz)) 0 0 (va_A w0 sz) := by
  refine Met.ofW (cc := cX10_count) (maxL := 2) (ret := (some .int)) (by decide) rfl ?_
  intro p e s m args below meth c s₁ B hml hv
  obtain ⟨rfl, hsz, hP, hK, hD0, hSD⟩ := hv
  have hx := B.exec
  have hb := B.bytes
  have hr := B.returns
  have hlocks := B.notSynchronized
  have hts : ∀ w ∈ gT, w.before _ s = true := fun w h => atoms_spec (ws := Cond.code yX10_count cX10_count 2 (some .int) :: gT) B.pre w (List.mem_cons_of_mem _ h)
  have hown : s.vm.findClass RX10 = some m.cls := findClass_of_methodNamed B.named
  subst hsz
  have hD := hD0.self (sz := s.heap.size)
  generalize hAe : va_A w0 s.heap.size = A at hD hSD ⊢
  have hA : ∀ q : Nat, s.heap.size ≤ q → A q := fun q h => by rw [← hAe]; exact Or.inr h
  have hl := lv_entry ([.ref p0, .int p1]) (n := 2) (Nat.le_of_ble_eq_true rfl)
  rw [lg_entry_eq]
  generalize (lg_sl ([.ref p0, .int p1]) ++ List.replicate (2 - (lg_sl ([.ref p0, .int p1])).length) Slot.unset).toArray = ls at hl ⊢
  have hl : lv_has ls 2 [(0, .ref p0), (1, .int p1)] := hl
  refine nameQ (fun Q hQ => ?_)
  have hw : WD D cy GG A s wr_X10_count wa_X10_count Ps w0 Ps w0 s.heap [] := ⟨hT, hP, hD, va_S.rf, FR.rf, hT.1, [], (List.append_nil _).symm⟩
  refine lv_aload_n hx hb dX10_count_0 rfl (lv_at hl 0 rfl) ?_
  refine lv_iconst (v := 0) hx hb dX10_count_1 (by decide) ?_
  refine tg_put (ci := 10) (ts := ty_MODEL) (v := .int 0) (ty := .int) (C := RX10) (T := TX10) (N := 49) hx hb hts inX10 tyX10 tyX10_ok nmX10 hown hK hw h_p0 rfl rfl 0 (by decide) (hts _ tw_1137) (fun _ h9 => h9) rfl (by decide +kernel) rfl rfl (ft := vI (-2147483648) 2147483647) rfl ⟨_, rfl, (rl_0.to (by decide))⟩ (by decide) dX10_count_2 (fun ws H locs hw n_k_1 hF9 => ?_)
  refine lv_iload_n hx hb dX10_count_5 rfl (lv_at hl 1 rfl) ?_
  have w_6 := r_p1
  by_cases cl_6 : p1.toInt < 0 ∨ 6 < p1.toInt
  · refine lv_tableOut (tgt := 95) hx hb dX10_count_6 cl_6 (by decide) ?_
    refine lv_iconst (v := (-1)) hx hb dX10_count_95 (by decide) ?_
    subst hQ
    exact W.iret (v := (-1)) hx hb hr (fun t ht hW => ⟨⟨(-1), ws, rfl, ⟨⟨rl_m1.to (by decide), (fun _ => trivial), (fun h0 => trivial)⟩, hw.1, hw.2.2.2.2.1⟩, by rw [ht]; exact hw.2.1, va_K.moved hW.alike hK, hw.2.2.1⟩, hw.2.2.2.1.F ht⟩) hw.2.2.2.1.2.2 dX10_count_96
  · have e_6 : p1.toInt = 0 ∨ p1.toInt = 1 ∨ p1.toInt = 2 ∨ p1.toInt = 3 ∨ p1.toInt = 4 ∨ p1.toInt = 5 ∨ p1.toInt = 6 := by omega
    rcases e_6 with h_6 | h_6 | h_6 | h_6 | h_6 | h_6 | h_6
    · refine lv_tableIn (tgt := 48) (off := 42) hx hb dX10_count_6 (by omega) (by omega) (by rw [h_6]; rfl) (by decide) ?_
      have r_p1 : RI p1 0 0 := ⟨by omega, by omega⟩
      refine lv_aload_n hx hb dX10_count_48 rfl (lv_at hl 0 rfl) ?_
      refine tg_get (ci := 10) (ts := ty_MODEL) (C := RX10) (T := TX10) (N := 49) hx hb hts inX10 hown hK hw h_p0 rfl rfl 14 (by decide) (hts _ tw_1151) (fun _ h9 => h9) (ft := vR 34) rfl dX10_count_49 (fun u_2 hv_u_2 m_u_2 => ?_)
      obtain ⟨vu_2, rfl, h_vu_2⟩ := hv_u_2
      refine lv_iconst (v := 0) hx hb dX10_count_52 (by decide) ?_
      refine tg_iald (lo := 0) (hi := 6) hx hb hK hw h_vu_2 rfl 0 0 rl_0 (by decide) (by decide +kernel) dX10_count_53 (fun v_3 r_v_3 m_v_3 o_v_3 => ?_)
      subst hQ
      exact W.iret (v := v_3) hx hb hr (fun t ht hW => ⟨⟨v_3, ws, rfl, ⟨⟨r_v_3.to (by decide), (fun h0 => trivial), (fun h0 => trivial)⟩, hw.1, hw.2.2.2.2.1⟩, by rw [ht]; exact hw.2.1, va_K.moved hW.alike hK, hw.2.2.1⟩, hw.2.2.2.1.F ht⟩) hw.2.2.2.1.2.2 dX10_count_54
    · refine lv_tableIn (tgt := 55) (off := 49) hx hb dX10_count_6 (by omega) (by omega) (by rw [h_6]; rfl) (by decide) ?_
      have r_p1 : RI p1 1 1 := ⟨by omega, by omega⟩
      refine lv_aload_n hx hb dX10_count_55 rfl (lv_at hl 0 rfl) ?_
      refine tg_get (ci := 10) (ts := ty_MODEL) (C := RX10) (T := TX10) (N := 49) hx hb hts inX10 hown hK hw h_p0 rfl rfl 14 (by decide) (hts _ tw_1151) (fun _ h9 => h9) (ft := vR 34) rfl dX10_count_56 (fun u_4 hv_u_4 m_u_4 => ?_)
      obtain ⟨vu_4, rfl, h_vu_4⟩ := hv_u_4
      refine lv_iconst (v := 1) hx hb dX10_count_59 (by decide) ?_
      refine tg_iald (lo := 0) (hi := 4) hx hb hK hw h_vu_4 rfl 1 1 rl_1 (by decide) (by decide +kernel) dX10_count_60 (fun v_5 r_v_5 m_v_5 o_v_5 => ?_)
      subst hQ
      exact W.iret (v := v_5) hx hb hr (fun t ht hW => ⟨⟨v_5, ws, rfl, ⟨⟨r_v_5.to (by decide), (fun h0 => trivial), (fun h0 => trivial)⟩, hw.1, hw.2.2.2.2.1⟩, by rw [ht]; exact hw.2.1, va_K.moved hW.alike hK, hw.2.2.1⟩, hw.2.2.2.1.F ht⟩) hw.2.2.2.1.2.2 dX10_count_61
    · refine lv_tableIn (tgt := 62) (off := 56) hx hb dX10_count_6 (by omega) (by omega) (by rw [h_6]; rfl) (by decide) ?_
      have r_p1 : RI p1 2 2 := ⟨by omega, by omega⟩
      refine lv_aload_n hx hb dX10_count_62 rfl (lv_at hl 0 rfl) ?_
      refine tg_get (ci := 10) (ts := ty_MODEL) (C := RX10) (T := TX10) (N := 49) hx hb hts inX10 hown hK hw h_p0 rfl rfl 14 (by decide) (hts _ tw_1151) (fun _ h9 => h9) (ft := vR 34) rfl dX10_count_63 (fun u_6 hv_u_6 m_u_6 => ?_)
      obtain ⟨vu_6, rfl, h_vu_6⟩ := hv_u_6
      refine lv_iconst (v := 2) hx hb dX10_count_66 (by decide) ?_
      refine tg_iald (lo := 0) (hi := 6) hx hb hK hw h_vu_6 rfl 2 2 rl_2 (by decide) (by decide +kernel) dX10_count_67 (fun v_7 r_v_7 m_v_7 o_v_7 => ?_)
      subst hQ
      exact W.iret (v := v_7) hx hb hr (fun t ht hW => ⟨⟨v_7, ws, rfl, ⟨⟨r_v_7.to (by decide), (fun h0 => trivial), (fun h0 => trivial)⟩, hw.1, hw.2.2.2.2.1⟩, by rw [ht]; exact hw.2.1, va_K.moved hW.alike hK, hw.2.2.1⟩, hw.2.2.2.1.F ht⟩) hw.2.2.2.1.2.2 dX10_count_68
    · refine lv_tableIn (tgt := 69) (off := 63) hx hb dX10_count_6 (by omega) (by omega) (by rw [h_6]; rfl) (by decide) ?_
      have r_p1 : RI p1 3 3 := ⟨by omega, by omega⟩
      refine lv_aload_n hx hb dX10_count_69 rfl (lv_at hl 0 rfl) ?_
      refine tg_get (ci := 10) (ts := ty_MODEL) (C := RX10) (T := TX10) (N := 49) hx hb hts inX10 hown hK hw h_p0 rfl rfl 14 (by decide) (hts _ tw_1151) (fun _ h9 => h9) (ft := vR 34) rfl dX10_count_70 (fun u_8 hv_u_8 m_u_8 => ?_)
      obtain ⟨vu_8, rfl, h_vu_8⟩ := hv_u_8
      refine lv_iconst (v := 3) hx hb dX10_count_73 (by decide) ?_
      refine tg_iald (lo := 0) (hi := 8) hx hb hK hw h_vu_8 rfl 3 3 rl_3 (by decide) (by decide +kernel) dX10_count_74 (fun v_9 r_v_9 m_v_9 o_v_9 => ?_)
      subst hQ
      exact W.iret (v := v_9) hx hb hr (fun t ht hW => ⟨⟨v_9, ws, rfl, ⟨⟨r_v_9.to (by decide), (fun h0 => trivial), (fun h0 => trivial)⟩, hw.1, hw.2.2.2.2.1⟩, by rw [ht]; exact hw.2.1, va_K.moved hW.alike hK, hw.2.2.1⟩, hw.2.2.2.1.F ht⟩) hw.2.2.2.1.2.2 dX10_count_75
    · refine lv_tableIn (tgt := 76) (off := 70) hx hb dX10_count_6 (by omega) (by omega) (by rw [h_6]; rfl) (by decide) ?_
      have r_p1 : RI p1 4 4 := ⟨by omega, by omega⟩
      refine lv_aload_n hx hb dX10_count_76 rfl (lv_at hl 0 rfl) ?_
      refine tg_get (ci := 10) (ts := ty_MODEL) (C := RX10) (T := TX10) (N := 49) hx hb hts inX10 hown hK hw h_p0 rfl rfl 14 (by decide) (hts _ tw_1151) (fun _ h9 => h9) (ft := vR 34) rfl dX10_count_77 (fun u_10 hv_u_10 m_u_10 => ?_)
      obtain ⟨vu_10, rfl, h_vu_10⟩ := hv_u_10
      refine lv_iconst (v := 4) hx hb dX10_count_80 (by decide) ?_
      refine tg_iald (lo := (-2147483648)) (hi := 2147483647) hx hb hK hw h_vu_10 rfl 4 4 rl_4 (by decide) (by decide +kernel) dX10_count_81 (fun v_11 r_v_11 m_v_11 o_v_11 => ?_)
      subst hQ
      exact W.iret (v := v_11) hx hb hr (fun t ht hW => ⟨⟨v_11, ws, rfl, ⟨⟨r_v_11.to (by decide), (fun h0 => trivial), (fun h0 => trivial)⟩, hw.1, hw.2.2.2.2.1⟩, by rw [ht]; exact hw.2.1, va_K.moved hW.alike hK, hw.2.2.1⟩, hw.2.2.2.1.F ht⟩) hw.2.2.2.1.2.2 dX10_count_82
    · refine lv_tableIn (tgt := 83) (off := 77) hx hb dX10_count_6 (by omega) (by omega) (by rw [h_6]; rfl) (by decide) ?_
      have r_p1 : RI p1 5 5 := ⟨by omega, by omega⟩
      refine lv_aload_n hx hb dX10_count_83 rfl (lv_at hl 0 rfl) ?_
      refine tg_get (ci := 10) (ts := ty_MODEL) (C := RX10) (T := TX10) (N := 49) hx hb hts inX10 hown hK hw h_p0 rfl rfl 14 (by decide) (hts _ tw_1151) (fun _ h9 => h9) (ft := vR 34) rfl dX10_count_84 (fun u_12 hv_u_12 m_u_12 => ?_)
      obtain ⟨vu_12, rfl, h_vu_12⟩ := hv_u_12
      refine lv_iconst (v := 5) hx hb dX10_count_87 (by decide) ?_
      refine tg_iald (lo := (-2147483648)) (hi := 2147483647) hx hb hK hw h_vu_12 rfl 5 5 rl_5 (by decide) (by decide +kernel) dX10_count_88 (fun v_13 r_v_13 m_v_13 o_v_13 => ?_)
      subst hQ
      exact W.iret (v := v_13) hx hb hr (fun t ht hW => ⟨⟨v_13, ws, rfl, ⟨⟨r_v_13.to (by decide), (fun h0 => trivial), (fun h0 => trivial)⟩, hw.1, hw.2.2.2.2.1⟩, by rw [ht]; exact hw.2.1, va_K.moved hW.alike hK, hw.2.2.1⟩, hw.2.2.2.1.F ht⟩) hw.2.2.2.1.2.2 dX10_count_89
    · refine lv_tableIn (tgt := 90) (off := 84) hx hb dX10_count_6 (by omega) (by omega) (by rw [h_6]; rfl) (by decide) ?_
      have r_p1 : RI p1 6 6 := ⟨by omega, by omega⟩
      refine lv_aload_n hx hb dX10_count_90 rfl (lv_at hl 0 rfl) ?_
      refine tg_get (ci := 10) (ts := ty_MODEL) (C := RX10) (T := TX10) (N := 49) hx hb hts inX10 hown hK hw h_p0 rfl rfl 2 (by decide) (hts _ tw_1139) (fun _ h9 => h9) (ft := vI 0 940) rfl dX10_count_91 (fun u_14 hv_u_14 m_u_14 => ?_)
      obtain ⟨vu_14, rfl, r_vu_14⟩ := hv_u_14
      subst hQ
      exact W.iret (v := vu_14) hx hb hr (fun t ht hW => ⟨⟨vu_14, ws, rfl, ⟨⟨r_vu_14.to (by decide), (fun h0 => trivial), (fun h0 => trivial)⟩, hw.1, hw.2.2.2.2.1⟩, by rw [ht]; exact hw.2.1, va_K.moved hW.alike hK, hw.2.2.1⟩, hw.2.2.2.1.F ht⟩) hw.2.2.2.1.2.2 dX10_count_94
abbrev wr_X10_isIn__3 : List (Nat × Nat) := []
abbrev wa_X10_isIn__3 : List Nat := []
set_option maxHeartbeats 4000000 in
set_option maxRecDepth 100000 in
theorem c_X10_isIn__3 (l : Launch) (D : va_G) (cy : Nat → ClassId) (z : Nat → Nat) (sz : Nat) (Ps : PSI) (w0 : va_W) (hT : HT cy GG Ps w0) (p0 : Int32) (p1 : Int32) (p2 : Int32) (r_p0 : RI p0 (-2147483648) 2147483647) (r_p1 : RI p1 1 1) (r_p2 : RI p2 60 60) : Met l yX10_isIn (Cond.code yX10_isIn cX10_isIn 3 (some .boolean) :: gT) ({ frames := 0, cells := 0, slots := 0, locals := 200 } : Room) (va_Pc [.int p0, .int p1, .int p2] (PRE D cy z w0 sz)) (va_Qi (fun (r : Int32) (u : Unit) => RI r 0 1 ∧ (r = 0 → True) ∧ (¬ r = 0 → RI p0 1 60 ∧ True)) (BB D cy (va_A w0 sz) (fun (u : Unit) => w0)) (va_A w0 sz)) 0 0 (va_A w0 sz) := by
  refine Met.ofW (cc := cX10_isIn) (maxL := 3) (ret := (some .boolean)) (by decide) rfl ?_
  intro p e s m args below meth c s₁ B hml hv
  obtain ⟨rfl, hsz, hP, hK, hD0, hSD⟩ := hv
  have hx := B.exec
  have hb := B.bytes
  have hr := B.returns
  have hlocks := B.notSynchronized
  have hts : ∀ w ∈ gT, w.before _ s = true := fun w h => atoms_spec (ws := Cond.code yX10_isIn cX10_isIn 3 (some .boolean) :: gT) B.pre w (List.mem_cons_of_mem _ h)
  have hown : s.vm.findClass RX10 = some m.cls := findClass_of_methodNamed B.named
  subst hsz
  have hD := hD0.self (sz := s.heap.size)
  generalize hAe : va_A w0 s.heap.size = A at hD hSD ⊢
  have hA : ∀ q : Nat, s.heap.size ≤ q → A q := fun q h => by rw [← hAe]; exact Or.inr h
  have hl := lv_entry ([.int p0, .int p1, .int p2]) (n := 3) (Nat.le_of_ble_eq_true rfl)
  rw [lg_entry_eq]
  generalize (lg_sl ([.int p0, .int p1, .int p2]) ++ List.replicate (3 - (lg_sl ([.int p0, .int p1, .int p2])).length) Slot.unset).toArray = ls at hl ⊢
  have hl : lv_has ls 3 [(0, .int p0), (1, .int p1), (2, .int p2)] := hl
  refine nameQ (fun Q hQ => ?_)
  have hw : WD D cy GG A s wr_X10_isIn__3 wa_X10_isIn__3 Ps w0 Ps w0 s.heap [] := ⟨hT, hP, hD, va_S.rf, FR.rf, hT.1, [], (List.append_nil _).symm⟩
  refine lv_iload_n hx hb dX10_isIn_0 rfl (lv_at hl 0 rfl) ?_
  refine lv_iload_n hx hb dX10_isIn_1 rfl (lv_at hl 1 rfl) ?_
  refine lv_icmp_lt (tgt := 14) hx hb dX10_isIn_2 (by decide) (fun c_2 => ?_) (fun c_2 => ?_)
  · have r_p0 : RI p0 (-2147483648) 0 := rc_lt1 r_p0 r_p1 (ti_lt c_2) (by decide)
    refine lv_iconst (v := 0) hx hb dX10_isIn_14 (by decide) ?_
    subst hQ
    exact W.zret (v := 0) hx hb hr (rfl) (fun t ht hW => ⟨⟨0, (), rfl, ⟨rl_0.to (by decide), (fun h0 => trivial), (fun h0 => absurd rfl h0)⟩, by rw [ht]; exact hw.2.1, va_K.moved hW.alike hK, hw.2.2.1⟩, hw.2.2.2.1.F ht⟩) hw.2.2.2.1.2.2 dX10_isIn_15
  · have r_p0 : RI p0 1 2147483647 := rc_le2 r_p1 r_p0 (ti_nlt c_2) (by decide)
    refine lv_iload_n hx hb dX10_isIn_5 rfl (lv_at hl 0 rfl) ?_
    refine lv_iload_n hx hb dX10_isIn_6 rfl (lv_at hl 2 rfl) ?_
    refine lv_icmp_gt (tgt := 14) hx hb dX10_isIn_7 (by decide) (fun c_7 => ?_) (fun c_7 => ?_)
    · have r_p0 : RI p0 61 2147483647 := rc_lt2 r_p2 r_p0 (ti_lt c_7) (by decide)
      refine lv_iconst (v := 0) hx hb dX10_isIn_14 (by decide) ?_
      subst hQ
      exact W.zret (v := 0) hx hb hr (rfl) (fun t ht hW => ⟨⟨0, (), rfl, ⟨rl_0.to (by decide), (fun h0 => trivial), (fun h0 => absurd rfl h0)⟩, by rw [ht]; exact hw.2.1, va_K.moved hW.alike hK, hw.2.2.1⟩, hw.2.2.2.1.F ht⟩) hw.2.2.2.1.2.2 dX10_isIn_15
    · have r_p0 : RI p0 1 60 := rc_le1 r_p0 r_p2 (ti_nlt c_7) (by decide)
      refine lv_iconst (v := 1) hx hb dX10_isIn_10 (by decide) ?_
      refine lv_goto (tgt := 15) hx hb dX10_isIn_11 (by decide) ?_
      subst hQ
      exact W.zret (v := 1) hx hb hr (rfl) (fun t ht hW => ⟨⟨1, (), rfl, ⟨rl_1.to (by decide), (fun _ => trivial), (fun h0 => ⟨r_p0, trivial⟩)⟩, by rw [ht]; exact hw.2.1, va_K.moved hW.alike hK, hw.2.2.1⟩, hw.2.2.2.1.F ht⟩) hw.2.2.2.1.2.2 dX10_isIn_15
abbrev wr_X10_whatIs : List (Nat × Nat) := []
abbrev wa_X10_whatIs : List Nat := []
set_option maxHeartbeats 4000000 in
set_option maxRecDepth 100000 in
theorem c_X10_whatIs (l : Launch) (D : va_G) (cy : Nat → ClassId) (z : Nat → Nat) (sz : Nat) (Ps : PSI) (w0 : va_W) (hT : HT cy GG Ps w0) (p0 : Nat) (p1 : Int32) (h_p0 : (p0, 55) ∈ Ps) (r_p1 : RI p1 0 5) : Met l yX10_whatIs (Cond.code yX10_whatIs cX10_whatIs 4 (some .int) :: gT) ({ frames := 2, cells := 0, slots := 0, locals := 400 } : Room) (va_Pc [.ref p0, .int p1] (PRE D cy z w0 sz)) (va_Qi (fun (r : Int32) (u : Unit) => RI r (-1) 5 ∧ (r = 0 → True) ∧ (¬ r = 0 → True) ∧ (True) ∧ (r.toInt < 0 → AX 14 34 (fun f => NBp f p1) Ps w0 p0 ∧ True) ∧ (0 ≤ r.toInt → AX 14 34 (fun f => WBp f p1 r) Ps w0 p0 ∧ True)) (BB D cy (va_A w0 sz) (fun (u : Unit) => w0)) (va_A w0 sz)) 0 0 (va_A w0 sz) := by
  refine Met.ofW (cc := cX10_whatIs) (maxL := 4) (ret := (some .int)) (by decide) rfl ?_
  intro p e s m args below meth c s₁ B hml hv
  obtain ⟨rfl, hsz, hP, hK, hD0, hSD⟩ := hv
  have hx := B.exec
  have hb := B.bytes
  have hr := B.returns
  have hlocks := B.notSynchronized
  have hts : ∀ w ∈ gT, w.before _ s = true := fun w h => atoms_spec (ws := Cond.code yX10_whatIs cX10_whatIs 4 (some .int) :: gT) B.pre w (List.mem_cons_of_mem _ h)
  have hown : s.vm.findClass RX10 = some m.cls := findClass_of_methodNamed B.named
  subst hsz
  have hD := hD0.self (sz := s.heap.size)
  generalize hAe : va_A w0 s.heap.size = A at hD hSD ⊢
  have hA : ∀ q : Nat, s.heap.size ≤ q → A q := fun q h => by rw [← hAe]; exact Or.inr h
  have hl := lv_entry ([.ref p0, .int p1]) (n := 4) (Nat.le_of_ble_eq_true rfl)
  rw [lg_entry_eq]
  generalize (lg_sl ([.ref p0, .int p1]) ++ List.replicate (4 - (lg_sl ([.ref p0, .int p1])).length) Slot.unset).toArray = ls at hl ⊢
  have hl : lv_has ls 4 [(0, .ref p0), (1, .int p1)] := hl
  refine nameQ (fun Q hQ => ?_)
  have hw : WD D cy GG A s wr_X10_whatIs wa_X10_whatIs Ps w0 Ps w0 s.heap [] := ⟨hT, hP, hD, va_S.rf, FR.rf, hT.1, [], (List.append_nil _).symm⟩
  have B11 : ∀ (nf : Nat) (x2 : Int32) (x3 : Int32) (H : Heap) (locs : List Loc) (ls : Array Slot), x3.toInt - (-1) < (nf : Int) → RI p1 0 5 → RI x2 (-1) 5 → RI x3 (-1) 5 → AX 14 34 (fun f => WIp f p1 x2 x3) Ps w0 p0 → WD D cy GG A s wr_X10_whatIs wa_X10_whatIs Ps w0 Ps w0 H locs → lv_has ls 4 [(0, .ref p0), (1, .int p1), (2, .int x2), (3, .int x3)] → W p l e (headSpec (Cond.code yX10_whatIs cX10_whatIs 4 (some .int) :: gT) ({ frames := 2, cells := 0, slots := 0, locals := 400 } : Room)).room s m ([.ref p0, .int p1] : List Value).toArray below meth c H locs 0 0 Q (F0 m 11 ls []) := by
    intro nf11
    induction nf11 with
    | zero =>
      intro x2 x3 H locs ls hn11 r_p1 r_x2 r_x3 x_WI_p0_p1__2__3 hw hl
      exact absurd hn11 (by have q0 := r_x3.1; have u0 := r_x3.2; omega)
    | succ nf11 ih11 =>
      intro x2 x3 H locs ls hn11 r_p1 r_x2 r_x3 x_WI_p0_p1__2__3 hw hl
      refine lv_iload_n hx hb dX10_whatIs_11 rfl (lv_at hl 3 rfl) ?_
      refine lv_if_lt (tgt := 61) hx hb dX10_whatIs_12 (by decide) (fun c_12 => ?_) (fun c_12 => ?_)
      · have r_x3 : RI x3 (-1) (-1) := rc_lt1 r_x3 rl_0 (ti_lt c_12) (by decide)
        by_cases c8_x2 : x2.toInt < 0
        · have r_x2 : RI x2 (-1) (-1) := by have k1 := r_x2.1; have k2 := r_x2.2; exact ⟨by omega, by omega⟩
          have x_NB_p0_p1 : AX 14 34 (fun f => NBp f p1) Ps w0 p0 := AX.imp x_WI_p0_p1__2__3 (fun f9 h9 => WI_nb h9 r_x2 r_x3)
          refine lv_iload_n hx hb dX10_whatIs_61 rfl (lv_at hl 2 rfl) ?_
          subst hQ
          exact W.iret (v := x2) hx hb hr (fun t ht hW => ⟨⟨x2, (), rfl, ⟨r_x2.to (by decide), (fun _ => trivial), (fun h0 => trivial), trivial, (fun h0 => ⟨x_NB_p0_p1, trivial⟩), (fun h0 => absurd h0 (by have h8 := r_x2; unfold RI at h8; omega))⟩, by rw [ht]; exact hw.2.1, va_K.moved hW.alike hK, hw.2.2.1⟩, hw.2.2.2.1.F ht⟩) hw.2.2.2.1.2.2 dX10_whatIs_62
        · have r_x2 : RI x2 0 5 := by have k1 := r_x2.1; have k2 := r_x2.2; exact ⟨by omega, by omega⟩
          have x_WB_p0_p1_x2 : AX 14 34 (fun f => WBp f p1 x2) Ps w0 p0 := AX.imp x_WI_p0_p1__2__3 (fun f9 h9 => h9.2.1 r_x2.1)
          refine lv_iload_n hx hb dX10_whatIs_61 rfl (lv_at hl 2 rfl) ?_
          subst hQ
          exact W.iret (v := x2) hx hb hr (fun t ht hW => ⟨⟨x2, (), rfl, ⟨r_x2.to (by decide), (fun h0 => trivial), (fun h0 => trivial), trivial, (fun h0 => absurd h0 (by have h8 := r_x2; unfold RI at h8; omega)), (fun h0 => ⟨x_WB_p0_p1_x2, trivial⟩)⟩, by rw [ht]; exact hw.2.1, va_K.moved hW.alike hK, hw.2.2.1⟩, hw.2.2.2.1.F ht⟩) hw.2.2.2.1.2.2 dX10_whatIs_62
      · have r_x3 : RI x3 0 5 := rc_le2 rl_0 r_x3 (ti_nlt c_12) (by decide)
        refine lv_aload_n hx hb dX10_whatIs_15 rfl (lv_at hl 0 rfl) ?_
        refine lv_iload_n hx hb dX10_whatIs_16 rfl (lv_at hl 1 rfl) ?_
        refine lv_iload_n hx hb dX10_whatIs_17 rfl (lv_at hl 3 rfl) ?_
        refine tk_ir (va_runV (As := [.int p1, .int x3]) (rest := []) ⟨hx, hb, hml, hown, hts⟩ (c_X10_muchOf l D cy z H.size Ps w0 hw.1 p0 p1 x3 h_p0 r_p1 r_x3) (cwV 2 hts (gV tw_1437 tw_1439 ts_67 tw_15 tw_1440) rfl rfl rfl (by decide +kernel) ⟨Nat.le_of_ble_eq_true rfl, Nat.le_of_ble_eq_true rfl⟩) (tg_preV hw hK hSD hA (ci := 10) (q := (RX10, TX10, 49)) rfl h_p0 rfl) rfl rfl hl.1 rfl (lv_room (Nat.le_of_ble_eq_true rfl)) dX10_whatIs_18 ⟨Nat.le_of_ble_eq_true rfl, Nat.le_of_ble_eq_true rfl⟩) hw hA (fun v_1  H locs hp_v_1 hw => ?_)
        have r_v_1 : RI v_1 (-2147483648) 2147483647 := hp_v_1.1
        have x_MUCH_p0_p1_x3_v_1 := hp_v_1.2.2.2.1.1
        refine lv_aload_n hx hb dX10_whatIs_21 rfl (lv_at hl 0 rfl) ?_
        refine tg_get (ci := 10) (ts := ty_MODEL) (C := RX10) (T := TX10) (N := 49) hx hb hts inX10 hown hK hw h_p0 rfl rfl 14 (by decide) (hts _ tw_1151) (fun _ h9 => h9) (ft := vR 34) rfl dX10_whatIs_22 (fun u_2 hv_u_2 m_u_2 => ?_)
        obtain ⟨vu_2, rfl, h_vu_2⟩ := hv_u_2
        refine lv_bipush (v := 6) hx hb dX10_whatIs_25 (by decide) ?_
        refine lv_iload_n hx hb dX10_whatIs_27 rfl (lv_at hl 3 rfl) ?_
        refine lv_iadd hx hb dX10_whatIs_28 (lv_topi (fun v_3 e_v_3 => ?_))
        obtain ⟨t_v_3, r_v_3⟩ := tq_add (lo := 6) (hi := 11) rl_6 r_x3 (by decide +kernel) e_v_3
        have t_v_3 : v_3.toInt = 6 + x3.toInt := t_v_3
        refine tg_iald (lo := (-2147483648)) (hi := 2147483647) hx hb hK hw h_vu_2 rfl 6 11 r_v_3 (by decide) (by decide +kernel) dX10_whatIs_29 (fun v_4 r_v_4 m_v_4 o_v_4 => ?_)
        refine lv_icmp_lt (tgt := 55) hx hb dX10_whatIs_30 (by decide) (fun c_30 => ?_) (fun c_30 => ?_)
        · have r_v_1 : RI v_1 (-2147483648) 2147483646 := rc_lt1 r_v_1 r_v_4 (ti_lt c_30) (by decide)
          have r_v_4 : RI v_4 (-2147483647) 2147483647 := rc_lt2 r_v_1 r_v_4 (ti_lt c_30) (by decide)
          have x_NEEDX_p0_x3_v_4 : AX 14 34 (fun f => f (6 + Int32.toNatClampNeg x3) = v_4) Ps w0 p0 := AX.mk hw h_vu_2 rfl m_u_2 (fun f9 g9 _ => by have e9 := g9 _ _ m_v_4; have j9 : Int32.toNatClampNeg v_3 = 6 + Int32.toNatClampNeg x3 := (by have k1 := r_v_3.cl (by decide); have k2 := r_x3.cl (by decide); omega); rw [j9] at e9; exact e9)
          have x_WJ_p0_p1_x2_x3 : AX 14 34 (fun f => WJp f p1 x2 x3) Ps w0 p0 := AX.imp (AX.and hw (AX.and hw x_MUCH_p0_p1_x3_v_1 x_NEEDX_p0_x3_v_4) x_WI_p0_p1__2__3) (fun f9 h9 => WJ_a h9.2 (r_x3.to (by decide)) h9.1.1 h9.1.2 c_30)
          obtain ⟨v_5, e_v_5⟩ : ∃ q9 : Int32, q9 = x3 + Int32.ofInt (-1) := ⟨_, rfl⟩
          obtain ⟨t_v_5, r_v_5⟩ := tq_add (lo := (-1)) (hi := 4) r_x3 (show RI (Int32.ofInt (-1)) (-1) (-1) by unfold RI; decide +kernel) (by decide +kernel) e_v_5
          have t_v_5 : v_5.toInt = x3.toInt + (-1) := t_v_5
          refine lv_iinc (v := v_5) (lv' := [(3, .int v_5), (0, .ref p0), (1, .int p1), (2, .int x2)]) hx hb dX10_whatIs_55 hl (k := 3) rfl e_v_5.symm (by decide) rfl (fun ls hl => ?_)
          refine lv_goto (tgt := 11) hx hb dX10_whatIs_58 (by decide) ?_
          have x_WI_p0_p1_x2_v_5 : AX 14 34 (fun f => WIp f p1 x2 v_5) Ps w0 p0 := AX.imp x_WJ_p0_p1_x2_x3 (fun f9 h9 => WI_next h9 t_v_5)
          exact ih11 x2 v_5 _ _ ls (by have q0 := r_v_5.1; have u0 := r_v_5.2; have o0 := r_x3.1; have p0 := r_x3.2; omega) r_p1 r_x2 (r_v_5.to (by decide)) x_WI_p0_p1_x2_v_5 hw (lv_sub hl [1, 2, 3, 0] rfl)
        · refine lv_iload_n hx hb dX10_whatIs_33 rfl (lv_at hl 2 rfl) ?_
          refine lv_iconst (v := (-1)) hx hb dX10_whatIs_34 (by decide) ?_
          refine lv_icmp_eq (tgt := 53) hx hb dX10_whatIs_35 (by decide) (fun c_35 => ?_) (fun c_35 => ?_)
          · have r_x2 : RI x2 (-1) (-1) := rc_eq1 r_x2 rl_m1 (ti_eq c_35) (by decide)
            refine lv_iload_n hx hb dX10_whatIs_53 rfl (lv_at hl 3 rfl) ?_
            refine lv_istore_n (lv' := [(2, .int x3), (0, .ref p0), (1, .int p1), (3, .int x3)]) hx hb dX10_whatIs_54 rfl hl (by decide) rfl (fun ls hl => ?_)
            have x_NEEDX_p0_x3_v_4 : AX 14 34 (fun f => f (6 + Int32.toNatClampNeg x3) = v_4) Ps w0 p0 := AX.mk hw h_vu_2 rfl m_u_2 (fun f9 g9 _ => by have e9 := g9 _ _ m_v_4; have j9 : Int32.toNatClampNeg v_3 = 6 + Int32.toNatClampNeg x3 := (by have k1 := r_v_3.cl (by decide); have k2 := r_x3.cl (by decide); omega); rw [j9] at e9; exact e9)
            have x_WJ_p0_p1_x3_x3 : AX 14 34 (fun f => WJp f p1 x3 x3) Ps w0 p0 := AX.imp (AX.and hw (AX.and hw x_MUCH_p0_p1_x3_v_1 x_NEEDX_p0_x3_v_4) x_WI_p0_p1__2__3) (fun f9 h9 => WJ_b h9.2 (r_x3.to (by decide)) h9.1.1 h9.1.2 c_30)
            obtain ⟨v_6, e_v_6⟩ : ∃ q9 : Int32, q9 = x3 + Int32.ofInt (-1) := ⟨_, rfl⟩
            obtain ⟨t_v_6, r_v_6⟩ := tq_add (lo := (-1)) (hi := 4) r_x3 (show RI (Int32.ofInt (-1)) (-1) (-1) by unfold RI; decide +kernel) (by decide +kernel) e_v_6
            have t_v_6 : v_6.toInt = x3.toInt + (-1) := t_v_6
            refine lv_iinc (v := v_6) (lv' := [(3, .int v_6), (2, .int x3), (0, .ref p0), (1, .int p1)]) hx hb dX10_whatIs_55 hl (k := 3) rfl e_v_6.symm (by decide) rfl (fun ls hl => ?_)
            refine lv_goto (tgt := 11) hx hb dX10_whatIs_58 (by decide) ?_
            have x_WI_p0_p1_x3_v_6 : AX 14 34 (fun f => WIp f p1 x3 v_6) Ps w0 p0 := AX.imp x_WJ_p0_p1_x3_x3 (fun f9 h9 => WI_next h9 t_v_6)
            exact ih11 x3 v_6 _ _ ls (by have q0 := r_v_6.1; have u0 := r_v_6.2; have o0 := r_x3.1; have p0 := r_x3.2; omega) r_p1 (r_x3.to (by decide)) (r_v_6.to (by decide)) x_WI_p0_p1_x3_v_6 hw (lv_sub hl [2, 3, 1, 0] rfl)
          · have r_x2 : RI x2 0 5 := rc_neL r_x2 rl_m1 (ti_ne c_35) (by decide)
            refine lv_aload_n hx hb dX10_whatIs_38 rfl (lv_at hl 0 rfl) ?_
            refine lv_iload_n hx hb dX10_whatIs_39 rfl (lv_at hl 1 rfl) ?_
            refine lv_iload_n hx hb dX10_whatIs_40 rfl (lv_at hl 3 rfl) ?_
            refine tk_ir (va_runV (As := [.int p1, .int x3]) (rest := []) ⟨hx, hb, hml, hown, hts⟩ (c_X10_muchOf l D cy z H.size Ps w0 hw.1 p0 p1 x3 h_p0 r_p1 r_x3) (cwV 2 hts (gV tw_1437 tw_1439 ts_67 tw_15 tw_1440) rfl rfl rfl (by decide +kernel) ⟨Nat.le_of_ble_eq_true rfl, Nat.le_of_ble_eq_true rfl⟩) (tg_preV hw hK hSD hA (ci := 10) (q := (RX10, TX10, 49)) rfl h_p0 rfl) rfl rfl hl.1 rfl (lv_room (Nat.le_of_ble_eq_true rfl)) dX10_whatIs_41 ⟨Nat.le_of_ble_eq_true rfl, Nat.le_of_ble_eq_true rfl⟩) hw hA (fun v_7  H locs hp_v_7 hw => ?_)
            have r_v_7 : RI v_7 (-2147483648) 2147483647 := hp_v_7.1
            have x_MUCH_p0_p1_x3_v_7 := hp_v_7.2.2.2.1.1
            refine lv_aload_n hx hb dX10_whatIs_44 rfl (lv_at hl 0 rfl) ?_
            refine lv_iload_n hx hb dX10_whatIs_45 rfl (lv_at hl 1 rfl) ?_
            refine lv_iload_n hx hb dX10_whatIs_46 rfl (lv_at hl 2 rfl) ?_
            refine tk_ir (va_runV (As := [.int p1, .int x2]) (rest := [.int v_7]) ⟨hx, hb, hml, hown, hts⟩ (c_X10_muchOf l D cy z H.size Ps w0 hw.1 p0 p1 x2 h_p0 r_p1 r_x2) (cwV 2 hts (gV tw_1437 tw_1439 ts_67 tw_15 tw_1440) rfl rfl rfl (by decide +kernel) ⟨Nat.le_of_ble_eq_true rfl, Nat.le_of_ble_eq_true rfl⟩) (tg_preV hw hK hSD hA (ci := 10) (q := (RX10, TX10, 49)) rfl h_p0 rfl) rfl rfl hl.1 rfl (lv_room (Nat.le_of_ble_eq_true rfl)) dX10_whatIs_47 ⟨Nat.le_of_ble_eq_true rfl, Nat.le_of_ble_eq_true rfl⟩) hw hA (fun v_8  H locs hp_v_8 hw => ?_)
            have r_v_8 : RI v_8 (-2147483648) 2147483647 := hp_v_8.1
            have x_MUCH_p0_p1_x2_v_8 := hp_v_8.2.2.2.1.1
            refine lv_icmp_lt (tgt := 55) hx hb dX10_whatIs_50 (by decide) (fun c_50 => ?_) (fun c_50 => ?_)
            · have r_v_7 : RI v_7 (-2147483648) 2147483646 := rc_lt1 r_v_7 r_v_8 (ti_lt c_50) (by decide)
              have r_v_8 : RI v_8 (-2147483647) 2147483647 := rc_lt2 r_v_7 r_v_8 (ti_lt c_50) (by decide)
              have x_WJ_p0_p1_x2_x3 : AX 14 34 (fun f => WJp f p1 x2 x3) Ps w0 p0 := AX.imp x_WI_p0_p1__2__3 (fun f9 h9 => WJ_c h9 (r_x2.to (by decide)))
              obtain ⟨v_9, e_v_9⟩ : ∃ q9 : Int32, q9 = x3 + Int32.ofInt (-1) := ⟨_, rfl⟩
              obtain ⟨t_v_9, r_v_9⟩ := tq_add (lo := (-1)) (hi := 4) r_x3 (show RI (Int32.ofInt (-1)) (-1) (-1) by unfold RI; decide +kernel) (by decide +kernel) e_v_9
              have t_v_9 : v_9.toInt = x3.toInt + (-1) := t_v_9
              refine lv_iinc (v := v_9) (lv' := [(3, .int v_9), (0, .ref p0), (1, .int p1), (2, .int x2)]) hx hb dX10_whatIs_55 hl (k := 3) rfl e_v_9.symm (by decide) rfl (fun ls hl => ?_)
              refine lv_goto (tgt := 11) hx hb dX10_whatIs_58 (by decide) ?_
              have x_WI_p0_p1_x2_v_9 : AX 14 34 (fun f => WIp f p1 x2 v_9) Ps w0 p0 := AX.imp x_WJ_p0_p1_x2_x3 (fun f9 h9 => WI_next h9 t_v_9)
              exact ih11 x2 v_9 _ _ ls (by have q0 := r_v_9.1; have u0 := r_v_9.2; have o0 := r_x3.1; have p0 := r_x3.2; omega) r_p1 (r_x2.to (by decide)) (r_v_9.to (by decide)) x_WI_p0_p1_x2_v_9 hw (lv_sub hl [1, 2, 3, 0] rfl)
            · refine lv_iload_n hx hb dX10_whatIs_53 rfl (lv_at hl 3 rfl) ?_
              refine lv_istore_n (lv' := [(2, .int x3), (0, .ref p0), (1, .int p1), (3, .int x3)]) hx hb dX10_whatIs_54 rfl hl (by decide) rfl (fun ls hl => ?_)
              have x_NEEDX_p0_x3_v_4 : AX 14 34 (fun f => f (6 + Int32.toNatClampNeg x3) = v_4) Ps w0 p0 := AX.mk hw h_vu_2 rfl m_u_2 (fun f9 g9 _ => by have e9 := g9 _ _ m_v_4; have j9 : Int32.toNatClampNeg v_3 = 6 + Int32.toNatClampNeg x3 := (by have k1 := r_v_3.cl (by decide); have k2 := r_x3.cl (by decide); omega); rw [j9] at e9; exact e9)
              have x_WJ_p0_p1_x3_x3 : AX 14 34 (fun f => WJp f p1 x3 x3) Ps w0 p0 := AX.imp (AX.and hw (AX.and hw x_MUCH_p0_p1_x3_v_1 x_NEEDX_p0_x3_v_4) x_WI_p0_p1__2__3) (fun f9 h9 => WJ_b h9.2 (r_x3.to (by decide)) h9.1.1 h9.1.2 c_30)
              obtain ⟨v_10, e_v_10⟩ : ∃ q9 : Int32, q9 = x3 + Int32.ofInt (-1) := ⟨_, rfl⟩
              obtain ⟨t_v_10, r_v_10⟩ := tq_add (lo := (-1)) (hi := 4) r_x3 (show RI (Int32.ofInt (-1)) (-1) (-1) by unfold RI; decide +kernel) (by decide +kernel) e_v_10
              have t_v_10 : v_10.toInt = x3.toInt + (-1) := t_v_10
              refine lv_iinc (v := v_10) (lv' := [(3, .int v_10), (2, .int x3), (0, .ref p0), (1, .int p1)]) hx hb dX10_whatIs_55 hl (k := 3) rfl e_v_10.symm (by decide) rfl (fun ls hl => ?_)
              refine lv_goto (tgt := 11) hx hb dX10_whatIs_58 (by decide) ?_
              have x_WI_p0_p1_x3_v_10 : AX 14 34 (fun f => WIp f p1 x3 v_10) Ps w0 p0 := AX.imp x_WJ_p0_p1_x3_x3 (fun f9 h9 => WI_next h9 t_v_10)
              exact ih11 x3 v_10 _ _ ls (by have q0 := r_v_10.1; have u0 := r_v_10.2; have o0 := r_x3.1; have p0 := r_x3.2; omega) r_p1 (r_x3.to (by decide)) (r_v_10.to (by decide)) x_WI_p0_p1_x3_v_10 hw (lv_sub hl [2, 3, 1, 0] rfl)
  refine lv_iconst (v := (-1)) hx hb dX10_whatIs_0 (by decide) ?_
  refine lv_istore_n (lv' := [(2, .int (-1)), (0, .ref p0), (1, .int p1)]) hx hb dX10_whatIs_1 rfl hl (by decide) rfl (fun ls hl => ?_)
  refine lv_aload_n hx hb dX10_whatIs_2 rfl (lv_at hl 1 rfl) ?_
  refine tg_get (ci := 10) (ts := ty_MODEL) (C := RX10) (T := TX10) (N := 49) hx hb hts inX10 hown hK hw h_p0 rfl rfl 14 (by decide) (hts _ tw_1151) (fun _ h9 => h9) (ft := vR 34) rfl dX10_whatIs_3 (fun u_11 hv_u_11 m_u_11 => ?_)
  obtain ⟨vu_11, rfl, h_vu_11⟩ := hv_u_11
  refine lv_iconst (v := 0) hx hb dX10_whatIs_6 (by decide) ?_
  refine tg_iald (lo := 0) (hi := 6) hx hb hK hw h_vu_11 rfl 0 0 rl_0 (by decide) (by decide +kernel) dX10_whatIs_7 (fun v_12 r_v_12 m_v_12 o_v_12 => ?_)
  refine lv_iconst (v := 1) hx hb dX10_whatIs_8 (by decide) ?_
  refine lv_isub hx hb dX10_whatIs_9 (lv_topi (fun v_13 e_v_13 => ?_))
  obtain ⟨t_v_13, r_v_13⟩ := tq_sub (lo := (-1)) (hi := 5) r_v_12 rl_1 (by decide +kernel) e_v_13
  have t_v_13 : v_13.toInt = v_12.toInt - 1 := t_v_13
  refine lv_istore_n (lv' := [(3, .int v_13), (2, .int (-1)), (0, .ref p0), (1, .int p1)]) hx hb dX10_whatIs_10 rfl hl (by decide) rfl (fun ls hl => ?_)
  have x_WI_p0_p1___1__v_13 : AX 14 34 (fun f => WIp f p1 (-1) v_13) Ps w0 p0 := AX.mk hw h_vu_11 rfl m_u_11 (fun f9 g9 _ => WI_start (v := v_12) (by have e9 := g9 _ _ m_v_12; have j9 : Int32.toNatClampNeg 0 = 0 := (by decide); rw [j9] at e9; exact e9) t_v_13)
  exact B11 4294967298 (-1) v_13 _ _ ls (by have q0 := r_v_13.1; have u0 := r_v_13.2; omega) r_p1 (rl_m1.to (by decide)) r_v_13 x_WI_p0_p1___1__v_13 hw (lv_sub hl [2, 3, 1, 0] rfl)
abbrev wr_X10_sittersOf : List (Nat × Nat) := []
abbrev wa_X10_sittersOf : List Nat := []
set_option maxHeartbeats 4000000 in
set_option maxRecDepth 100000 in
theorem c_X10_sittersOf (l : Launch) (D : va_G) (cy : Nat → ClassId) (z : Nat → Nat) (sz : Nat) (Ps : PSI) (w0 : va_W) (hT : HT cy GG Ps w0) (p0 : Nat) (p1 : Int32) (h_p0 : (p0, 55) ∈ Ps) (r_p1 : RI p1 (-2147483648) 2147483647) : Met l yX10_sittersOf (Cond.code yX10_sittersOf cX10_sittersOf 4 (some .int) :: gT) ({ frames := 0, cells := 0, slots := 0, locals := 200 } : Room) (va_Pc [.ref p0, .int p1] (PRE D cy z w0 sz)) (va_Qi (fun (r : Int32) (u : Unit) => RI r (-2147483648) 2147483647 ∧ (r = 0 → True) ∧ (¬ r = 0 → True)) (BB D cy (va_A w0 sz) (fun (u : Unit) => w0)) (va_A w0 sz)) 0 0 (va_A w0 sz) := by
  refine Met.ofW (cc := cX10_sittersOf) (maxL := 4) (ret := (some .int)) (by decide) rfl ?_
  intro p e s m args below meth c s₁ B hml hv
  obtain ⟨rfl, hsz, hP, hK, hD0, hSD⟩ := hv
  have hx := B.exec
  have hb := B.bytes
  have hr := B.returns
  have hlocks := B.notSynchronized
  have hts : ∀ w ∈ gT, w.before _ s = true := fun w h => atoms_spec (ws := Cond.code yX10_sittersOf cX10_sittersOf 4 (some .int) :: gT) B.pre w (List.mem_cons_of_mem _ h)
  have hown : s.vm.findClass RX10 = some m.cls := findClass_of_methodNamed B.named
  subst hsz
  have hD := hD0.self (sz := s.heap.size)
  generalize hAe : va_A w0 s.heap.size = A at hD hSD ⊢
  have hA : ∀ q : Nat, s.heap.size ≤ q → A q := fun q h => by rw [← hAe]; exact Or.inr h
  have hl := lv_entry ([.ref p0, .int p1]) (n := 4) (Nat.le_of_ble_eq_true rfl)
  rw [lg_entry_eq]
  generalize (lg_sl ([.ref p0, .int p1]) ++ List.replicate (4 - (lg_sl ([.ref p0, .int p1])).length) Slot.unset).toArray = ls at hl ⊢
  have hl : lv_has ls 4 [(0, .ref p0), (1, .int p1)] := hl
  refine nameQ (fun Q hQ => ?_)
  have hw : WD D cy GG A s wr_X10_sittersOf wa_X10_sittersOf Ps w0 Ps w0 s.heap [] := ⟨hT, hP, hD, va_S.rf, FR.rf, hT.1, [], (List.append_nil _).symm⟩
  have B4 : ∀ (nf : Nat) (x2 : Int32) (x3 : Int32) (H : Heap) (locs : List Loc) (ls : Array Slot), 8 - x3.toInt < (nf : Int) → RI p1 (-2147483648) 2147483647 → RI x2 (-2147483648) 2147483647 → RI x3 0 8 → WD D cy GG A s wr_X10_sittersOf wa_X10_sittersOf Ps w0 Ps w0 H locs → lv_has ls 4 [(0, .ref p0), (1, .int p1), (2, .int x2), (3, .int x3)] → W p l e (headSpec (Cond.code yX10_sittersOf cX10_sittersOf 4 (some .int) :: gT) ({ frames := 0, cells := 0, slots := 0, locals := 200 } : Room)).room s m ([.ref p0, .int p1] : List Value).toArray below meth c H locs 0 0 Q (F0 m 4 ls []) := by
    intro nf4
    induction nf4 with
    | zero =>
      intro x2 x3 H locs ls hn4 r_p1 r_x2 r_x3 hw hl
      exact absurd hn4 (by have q0 := r_x3.1; have u0 := r_x3.2; omega)
    | succ nf4 ih4 =>
      intro x2 x3 H locs ls hn4 r_p1 r_x2 r_x3 hw hl
      refine lv_iload_n hx hb dX10_sittersOf_4 rfl (lv_at hl 3 rfl) ?_
      refine lv_aload_n hx hb dX10_sittersOf_5 rfl (lv_at hl 0 rfl) ?_
      refine tg_get (ci := 10) (ts := ty_MODEL) (C := RX10) (T := TX10) (N := 49) hx hb hts inX10 hown hK hw h_p0 rfl rfl 14 (by decide) (hts _ tw_1151) (fun _ h9 => h9) (ft := vR 34) rfl dX10_sittersOf_6 (fun u_1 hv_u_1 m_u_1 => ?_)
      obtain ⟨vu_1, rfl, h_vu_1⟩ := hv_u_1
      refine lv_iconst (v := 3) hx hb dX10_sittersOf_9 (by decide) ?_
      refine tg_iald (lo := 0) (hi := 8) hx hb hK hw h_vu_1 rfl 3 3 rl_3 (by decide) (by decide +kernel) dX10_sittersOf_10 (fun v_2 r_v_2 m_v_2 o_v_2 => ?_)
      refine lv_icmp_ge (tgt := 39) hx hb dX10_sittersOf_11 (by decide) (fun c_11 => ?_) (fun c_11 => ?_)
      · refine lv_iload_n hx hb dX10_sittersOf_39 rfl (lv_at hl 2 rfl) ?_
        subst hQ
        exact W.iret (v := x2) hx hb hr (fun t ht hW => ⟨⟨x2, (), rfl, ⟨r_x2.to (by decide), (fun h0 => trivial), (fun h0 => trivial)⟩, by rw [ht]; exact hw.2.1, va_K.moved hW.alike hK, hw.2.2.1⟩, hw.2.2.2.1.F ht⟩) hw.2.2.2.1.2.2 dX10_sittersOf_40
      · have r_x3 : RI x3 0 7 := rc_lt1 r_x3 r_v_2 (ti_nle c_11) (by decide)
        have r_v_2 : RI v_2 1 8 := rc_lt2 r_x3 r_v_2 (ti_nle c_11) (by decide)
        refine lv_aload_n hx hb dX10_sittersOf_14 rfl (lv_at hl 0 rfl) ?_
        refine tg_mem (ci := 10) (C := RX10) (T := TX10) (N := 49) hx hb hts inX10 hown hK hw 14 m_u_1 rfl (by decide) (hts _ tw_1151) (fun _ h9 => h9) dX10_sittersOf_15 ?_
        refine lv_bipush (v := 112) hx hb dX10_sittersOf_18 (by decide) ?_
        refine lv_iload_n hx hb dX10_sittersOf_20 rfl (lv_at hl 3 rfl) ?_
        refine lv_iadd hx hb dX10_sittersOf_21 (lv_topi (fun v_3 e_v_3 => ?_))
        obtain ⟨t_v_3, r_v_3⟩ := tq_add (lo := 112) (hi := 119) rl_112 r_x3 (by decide +kernel) e_v_3
        have t_v_3 : v_3.toInt = 112 + x3.toInt := t_v_3
        refine tg_iald (lo := (-1)) (hi := 5) hx hb hK hw h_vu_1 rfl 112 119 r_v_3 (by decide) (by decide +kernel) dX10_sittersOf_22 (fun v_4 r_v_4 m_v_4 o_v_4 => ?_)
        refine lv_iload_n hx hb dX10_sittersOf_23 rfl (lv_at hl 1 rfl) ?_
        refine lv_icmp_ne (tgt := 33) hx hb dX10_sittersOf_24 (by decide) (fun c_24 => ?_) (fun c_24 => ?_)
        · obtain ⟨v_5, e_v_5⟩ : ∃ q9 : Int32, q9 = x3 + Int32.ofInt 1 := ⟨_, rfl⟩
          obtain ⟨t_v_5, r_v_5⟩ := tq_add (lo := 1) (hi := 8) r_x3 (show RI (Int32.ofInt 1) 1 1 by unfold RI; decide +kernel) (by decide +kernel) e_v_5
          have t_v_5 : v_5.toInt = x3.toInt + 1 := t_v_5
          refine lv_iinc (v := v_5) (lv' := [(3, .int v_5), (0, .ref p0), (1, .int p1), (2, .int x2)]) hx hb dX10_sittersOf_33 hl (k := 3) rfl e_v_5.symm (by decide) rfl (fun ls hl => ?_)
          refine lv_goto (tgt := 4) hx hb dX10_sittersOf_36 (by decide) ?_
          exact ih4 x2 v_5 _ _ ls (by have q0 := r_v_5.1; have u0 := r_v_5.2; have o0 := r_x3.1; have p0 := r_x3.2; omega) r_p1 r_x2 (r_v_5.to (by decide)) hw (lv_sub hl [1, 2, 3, 0] rfl)
        · have r_p1 : RI p1 (-1) 5 := rc_eq2 r_v_4 r_p1 (ti_eq c_24) (by decide)
          refine lv_iload_n hx hb dX10_sittersOf_27 rfl (lv_at hl 2 rfl) ?_
          refine lv_iconst (v := 1) hx hb dX10_sittersOf_28 (by decide) ?_
          refine lv_iload_n hx hb dX10_sittersOf_29 rfl (lv_at hl 3 rfl) ?_
          refine lv_ishl hx hb dX10_sittersOf_30 (lv_topi (fun v_6 e_v_6 => ?_))
          have r_v_6 : RI v_6 1 256 := by rw [e_v_6]; exact ri_shl1 (r_x3.to (c := 0) (d := 7) (by decide)) (by decide)
          refine lv_ior hx hb dX10_sittersOf_31 (lv_topi (fun v_7 e_v_7 => ?_))
          have r_v_7 := ri_any v_7
          refine lv_istore_n (lv' := [(2, .int v_7), (0, .ref p0), (1, .int p1), (3, .int x3)]) hx hb dX10_sittersOf_32 rfl hl (by decide) rfl (fun ls hl => ?_)
          obtain ⟨v_8, e_v_8⟩ : ∃ q9 : Int32, q9 = x3 + Int32.ofInt 1 := ⟨_, rfl⟩
          obtain ⟨t_v_8, r_v_8⟩ := tq_add (lo := 1) (hi := 8) r_x3 (show RI (Int32.ofInt 1) 1 1 by unfold RI; decide +kernel) (by decide +kernel) e_v_8
          have t_v_8 : v_8.toInt = x3.toInt + 1 := t_v_8
          refine lv_iinc (v := v_8) (lv' := [(3, .int v_8), (2, .int v_7), (0, .ref p0), (1, .int p1)]) hx hb dX10_sittersOf_33 hl (k := 3) rfl e_v_8.symm (by decide) rfl (fun ls hl => ?_)
          refine lv_goto (tgt := 4) hx hb dX10_sittersOf_36 (by decide) ?_
          exact ih4 v_7 v_8 _ _ ls (by have q0 := r_v_8.1; have u0 := r_v_8.2; have o0 := r_x3.1; have p0 := r_x3.2; omega) (r_p1.to (by decide)) r_v_7 (r_v_8.to (by decide)) hw (lv_sub hl [2, 3, 1, 0] rfl)
  refine lv_iconst (v := 0) hx hb dX10_sittersOf_0 (by decide) ?_
  refine lv_istore_n (lv' := [(2, .int 0), (0, .ref p0), (1, .int p1)]) hx hb dX10_sittersOf_1 rfl hl (by decide) rfl (fun ls hl => ?_)
  refine lv_iconst (v := 0) hx hb dX10_sittersOf_2 (by decide) ?_
  refine lv_istore_n (lv' := [(3, .int 0), (2, .int 0), (0, .ref p0), (1, .int p1)]) hx hb dX10_sittersOf_3 rfl hl (by decide) rfl (fun ls hl => ?_)
  exact B4 4294967298 0 0 _ _ ls (by have q0 := rl_0.1; have u0 := rl_0.2; omega) r_p1 (rl_0.to (by decide)) (rl_0.to (by decide)) hw (lv_sub hl [2, 3, 1, 0] rfl)
abbrev wr_X10_wonders : List (Nat × Nat) := []
abbrev wa_X10_wonders : List Nat := [34]
set_option maxHeartbeats 4000000 in
set_option maxRecDepth 100000 in
theorem c_X10_wonders (l : Launch) (D : va_G) (cy : Nat → ClassId) (z : Nat → Nat) (sz : Nat) (Ps : PSI) (w0 : va_W) (hT : HT cy GG Ps w0) (p0 : Nat) (p1 : Int32) (h_p0 : (p0, 55) ∈ Ps) (r_p1 : RI p1 0 7) : Met l yX10_wonders (Cond.code yX10_wonders cX10_wonders 4 none :: gT) ({ frames := 3, cells := 0, slots := 0, locals := 600 } : Room) (va_Pc [.ref p0, .int p1] (PRE D cy z w0 sz)) (va_Qv (fun (u : va_W) => (True) ∧ HT cy GG Ps u ∧ FR wr_X10_wonders wa_X10_wonders Ps w0 u) (BB D cy (va_A w0 sz) (fun (u : va_W) => u)) (va_A w0 sz)) 0 0 (va_A w0 sz) := by
  refine Met.ofW (cc := cX10_wonders) (maxL := 4) (ret := none) (by decide) rfl ?_
  intro p e s m args below meth c s₁ B hml hv
  obtain ⟨rfl, hsz, hP, hK, hD0, hSD⟩ := hv
  have hx := B.exec
  have hb := B.bytes
  have hr := B.returns
  have hlocks := B.notSynchronized
  have hts : ∀ w ∈ gT, w.before _ s = true := fun w h => atoms_spec (ws := Cond.code yX10_wonders cX10_wonders 4 none :: gT) B.pre w (List.mem_cons_of_mem _ h)
  have hown : s.vm.findClass RX10 = some m.cls := findClass_of_methodNamed B.named
  subst hsz
  have hD := hD0.self (sz := s.heap.size)
  generalize hAe : va_A w0 s.heap.size = A at hD hSD ⊢
  have hA : ∀ q : Nat, s.heap.size ≤ q → A q := fun q h => by rw [← hAe]; exact Or.inr h
  have hl := lv_entry ([.ref p0, .int p1]) (n := 4) (Nat.le_of_ble_eq_true rfl)
  rw [lg_entry_eq]
  generalize (lg_sl ([.ref p0, .int p1]) ++ List.replicate (4 - (lg_sl ([.ref p0, .int p1])).length) Slot.unset).toArray = ls at hl ⊢
  have hl : lv_has ls 4 [(0, .ref p0), (1, .int p1)] := hl
  refine nameQ (fun Q hQ => ?_)
  have hw : WD D cy GG A s wr_X10_wonders wa_X10_wonders Ps w0 Ps w0 s.heap [] := ⟨hT, hP, hD, va_S.rf, FR.rf, hT.1, [], (List.append_nil _).symm⟩
  have B49 : ∀ (nf : Nat) (x2 : Int32) (x3 : Int32) (ws : va_W) (H : Heap) (locs : List Loc) (ls : Array Slot), 6 - x3.toInt < (nf : Int) → RI p1 0 7 → RI x2 0 5 → RI x3 0 6 → WD D cy GG A s wr_X10_wonders wa_X10_wonders Ps w0 Ps ws H locs → lv_has ls 4 [(0, .ref p0), (1, .int p1), (2, .int x2), (3, .int x3)] → W p l e (headSpec (Cond.code yX10_wonders cX10_wonders 4 none :: gT) ({ frames := 3, cells := 0, slots := 0, locals := 600 } : Room)).room s m ([.ref p0, .int p1] : List Value).toArray below meth c H locs 0 0 Q (F0 m 49 ls []) := by
    intro nf49
    induction nf49 with
    | zero =>
      intro x2 x3 ws H locs ls hn49 r_p1 r_x2 r_x3 hw hl
      exact absurd hn49 (by have q0 := r_x3.1; have u0 := r_x3.2; omega)
    | succ nf49 ih49 =>
      intro x2 x3 ws H locs ls hn49 r_p1 r_x2 r_x3 hw hl
      refine lv_iload_n hx hb dX10_wonders_49 rfl (lv_at hl 3 rfl) ?_
      refine lv_aload_n hx hb dX10_wonders_50 rfl (lv_at hl 0 rfl) ?_
      refine tg_get (ci := 10) (ts := ty_MODEL) (C := RX10) (T := TX10) (N := 49) hx hb hts inX10 hown hK hw h_p0 rfl rfl 14 (by decide) (hts _ tw_1151) (fun _ h9 => h9) (ft := vR 34) rfl dX10_wonders_51 (fun u_1 hv_u_1 m_u_1 => ?_)
      obtain ⟨vu_1, rfl, h_vu_1⟩ := hv_u_1
      refine lv_iconst (v := 2) hx hb dX10_wonders_54 (by decide) ?_
      refine tg_iald (lo := 0) (hi := 6) hx hb hK hw h_vu_1 rfl 2 2 rl_2 (by decide) (by decide +kernel) dX10_wonders_55 (fun v_2 r_v_2 m_v_2 o_v_2 => ?_)
      refine lv_icmp_ge (tgt := 119) hx hb dX10_wonders_56 (by decide) (fun c_56 => ?_) (fun c_56 => ?_)
      · subst hQ
        exact W.vret hx hb hr (fun t ht hW => ⟨⟨ws, rfl, ⟨trivial, hw.1, hw.2.2.2.2.1⟩, by rw [ht]; exact hw.2.1, va_K.moved hW.alike hK, hw.2.2.1⟩, hw.2.2.2.1.F ht⟩) hw.2.2.2.1.2.2 dX10_wonders_119
      · have r_x3 : RI x3 0 5 := rc_lt1 r_x3 r_v_2 (ti_nle c_56) (by decide)
        have r_v_2 : RI v_2 1 6 := rc_lt2 r_x3 r_v_2 (ti_nle c_56) (by decide)
        refine lv_iload_n hx hb dX10_wonders_59 rfl (lv_at hl 3 rfl) ?_
        refine lv_iload_n hx hb dX10_wonders_60 rfl (lv_at hl 2 rfl) ?_
        refine lv_icmp_eq (tgt := 113) hx hb dX10_wonders_61 (by decide) (fun c_61 => ?_) (fun c_61 => ?_)
        · obtain ⟨v_3, e_v_3⟩ : ∃ q9 : Int32, q9 = x3 + Int32.ofInt 1 := ⟨_, rfl⟩
          obtain ⟨t_v_3, r_v_3⟩ := tq_add (lo := 1) (hi := 6) r_x3 (show RI (Int32.ofInt 1) 1 1 by unfold RI; decide +kernel) (by decide +kernel) e_v_3
          have t_v_3 : v_3.toInt = x3.toInt + 1 := t_v_3
          refine lv_iinc (v := v_3) (lv' := [(3, .int v_3), (0, .ref p0), (1, .int p1), (2, .int x2)]) hx hb dX10_wonders_113 hl (k := 3) rfl e_v_3.symm (by decide) rfl (fun ls hl => ?_)
          refine lv_goto (tgt := 49) hx hb dX10_wonders_116 (by decide) ?_
          exact ih49 x2 v_3 ws _ _ ls (by have q0 := r_v_3.1; have u0 := r_v_3.2; have o0 := r_x3.1; have p0 := r_x3.2; omega) r_p1 r_x2 (r_v_3.to (by decide)) hw (lv_sub hl [1, 2, 3, 0] rfl)
        · refine lv_aload_n hx hb dX10_wonders_64 rfl (lv_at hl 0 rfl) ?_
          refine lv_iload_n hx hb dX10_wonders_65 rfl (lv_at hl 3 rfl) ?_
          refine tk_ir (va_runV (As := [.int x3]) (rest := []) ⟨hx, hb, hml, hown, hts⟩ (c_X10_isOpen l D cy z H.size Ps ws hw.1 p0 x3 h_p0 (r_x3.to (by decide))) (cwV 1 hts (gV tw_1457 tw_1459 ts_71 tw_15 tw_1460) rfl rfl rfl (by decide +kernel) ⟨Nat.le_of_ble_eq_true rfl, Nat.le_of_ble_eq_true rfl⟩) (tg_preV hw hK hSD hA (ci := 10) (q := (RX10, TX10, 49)) rfl h_p0 rfl) rfl rfl hl.1 rfl (lv_room (Nat.le_of_ble_eq_true rfl)) dX10_wonders_66 ⟨Nat.le_of_ble_eq_true rfl, Nat.le_of_ble_eq_true rfl⟩) hw hA (fun v_4  H locs hp_v_4 hw => ?_)
          have r_v_4 : RI v_4 0 1 := hp_v_4.1
          refine lv_if_ne (tgt := 113) hx hb dX10_wonders_69 (by decide) (fun c_69 => ?_) (fun c_69 => ?_)
          · have r_v_4 : RI v_4 1 1 := rc_neL r_v_4 rl_0 (ti_ne c_69) (by decide)
            obtain ⟨v_5, e_v_5⟩ : ∃ q9 : Int32, q9 = x3 + Int32.ofInt 1 := ⟨_, rfl⟩
            obtain ⟨t_v_5, r_v_5⟩ := tq_add (lo := 1) (hi := 6) r_x3 (show RI (Int32.ofInt 1) 1 1 by unfold RI; decide +kernel) (by decide +kernel) e_v_5
            have t_v_5 : v_5.toInt = x3.toInt + 1 := t_v_5
            refine lv_iinc (v := v_5) (lv' := [(3, .int v_5), (0, .ref p0), (1, .int p1), (2, .int x2)]) hx hb dX10_wonders_113 hl (k := 3) rfl e_v_5.symm (by decide) rfl (fun ls hl => ?_)
            refine lv_goto (tgt := 49) hx hb dX10_wonders_116 (by decide) ?_
            exact ih49 x2 v_5 ws _ _ ls (by have q0 := r_v_5.1; have u0 := r_v_5.2; have o0 := r_x3.1; have p0 := r_x3.2; omega) r_p1 r_x2 (r_v_5.to (by decide)) hw (lv_sub hl [1, 2, 3, 0] rfl)
          · have r_v_4 : RI v_4 0 0 := rc_eq1 r_v_4 rl_0 (ti_eq c_69) (by decide)
            refine lv_aload_n hx hb dX10_wonders_72 rfl (lv_at hl 0 rfl) ?_
            refine tg_mem (ci := 10) (C := RX10) (T := TX10) (N := 49) hx hb hts inX10 hown hK hw 14 m_u_1 rfl (by decide) (hts _ tw_1151) (fun _ h9 => h9) dX10_wonders_73 ?_
            refine lv_bipush (v := 86) hx hb dX10_wonders_76 (by decide) ?_
            refine lv_iload_n hx hb dX10_wonders_78 rfl (lv_at hl 3 rfl) ?_
            refine lv_iadd hx hb dX10_wonders_79 (lv_topi (fun v_6 e_v_6 => ?_))
            obtain ⟨t_v_6, r_v_6⟩ := tq_add (lo := 86) (hi := 91) rl_86 r_x3 (by decide +kernel) e_v_6
            have t_v_6 : v_6.toInt = 86 + x3.toInt := t_v_6
            refine tg_iald (lo := (-2147483648)) (hi := 2147483647) hx hb hK hw h_vu_1 rfl 86 91 r_v_6 (by decide) (by decide +kernel) dX10_wonders_80 (fun v_7 r_v_7 m_v_7 o_v_7 => ?_)
            refine lv_aload_n hx hb dX10_wonders_81 rfl (lv_at hl 0 rfl) ?_
            refine tg_mem (ci := 10) (C := RX10) (T := TX10) (N := 49) hx hb hts inX10 hown hK hw 14 m_u_1 rfl (by decide) (hts _ tw_1151) (fun _ h9 => h9) dX10_wonders_82 ?_
            refine lv_bipush (v := 86) hx hb dX10_wonders_85 (by decide) ?_
            refine lv_iload_n hx hb dX10_wonders_87 rfl (lv_at hl 2 rfl) ?_
            refine lv_iadd hx hb dX10_wonders_88 (lv_topi (fun v_8 e_v_8 => ?_))
            obtain ⟨t_v_8, r_v_8⟩ := tq_add (lo := 86) (hi := 91) rl_86 r_x2 (by decide +kernel) e_v_8
            have t_v_8 : v_8.toInt = 86 + x2.toInt := t_v_8
            refine tg_iald (lo := (-2147483648)) (hi := 2147483647) hx hb hK hw h_vu_1 rfl 86 91 r_v_8 (by decide) (by decide +kernel) dX10_wonders_89 (fun v_9 r_v_9 m_v_9 o_v_9 => ?_)
            refine lv_icmp_ne (tgt := 113) hx hb dX10_wonders_90 (by decide) (fun c_90 => ?_) (fun c_90 => ?_)
            · obtain ⟨v_10, e_v_10⟩ : ∃ q9 : Int32, q9 = x3 + Int32.ofInt 1 := ⟨_, rfl⟩
              obtain ⟨t_v_10, r_v_10⟩ := tq_add (lo := 1) (hi := 6) r_x3 (show RI (Int32.ofInt 1) 1 1 by unfold RI; decide +kernel) (by decide +kernel) e_v_10
              have t_v_10 : v_10.toInt = x3.toInt + 1 := t_v_10
              refine lv_iinc (v := v_10) (lv' := [(3, .int v_10), (0, .ref p0), (1, .int p1), (2, .int x2)]) hx hb dX10_wonders_113 hl (k := 3) rfl e_v_10.symm (by decide) rfl (fun ls hl => ?_)
              refine lv_goto (tgt := 49) hx hb dX10_wonders_116 (by decide) ?_
              exact ih49 x2 v_10 ws _ _ ls (by have q0 := r_v_10.1; have u0 := r_v_10.2; have o0 := r_x3.1; have p0 := r_x3.2; omega) r_p1 r_x2 (r_v_10.to (by decide)) hw (lv_sub hl [1, 2, 3, 0] rfl)
            · refine lv_aload_n hx hb dX10_wonders_93 rfl (lv_at hl 0 rfl) ?_
              refine lv_iload_n hx hb dX10_wonders_94 rfl (lv_at hl 3 rfl) ?_
              refine lv_aload_n hx hb dX10_wonders_95 rfl (lv_at hl 0 rfl) ?_
              refine tg_mem (ci := 10) (C := RX10) (T := TX10) (N := 49) hx hb hts inX10 hown hK hw 14 m_u_1 rfl (by decide) (hts _ tw_1151) (fun _ h9 => h9) dX10_wonders_96 ?_
              refine lv_bipush (v := 104) hx hb dX10_wonders_99 (by decide) ?_
              refine lv_iload_n hx hb dX10_wonders_101 rfl (lv_at hl 1 rfl) ?_
              refine lv_iadd hx hb dX10_wonders_102 (lv_topi (fun v_11 e_v_11 => ?_))
              obtain ⟨t_v_11, r_v_11⟩ := tq_add (lo := 104) (hi := 111) rl_104 r_p1 (by decide +kernel) e_v_11
              have t_v_11 : v_11.toInt = 104 + p1.toInt := t_v_11
              refine tg_iald (lo := 0) (hi := 5) hx hb hK hw h_vu_1 rfl 104 111 r_v_11 (by decide) (by decide +kernel) dX10_wonders_103 (fun v_12 r_v_12 m_v_12 o_v_12 => ?_)
              refine lv_aload_n hx hb dX10_wonders_104 rfl (lv_at hl 0 rfl) ?_
              refine tg_mem (ci := 10) (C := RX10) (T := TX10) (N := 49) hx hb hts inX10 hown hK hw 14 m_u_1 rfl (by decide) (hts _ tw_1151) (fun _ h9 => h9) dX10_wonders_105 ?_
              refine lv_iconst (v := 4) hx hb dX10_wonders_108 (by decide) ?_
              refine tg_iald (lo := (-2147483648)) (hi := 2147483647) hx hb hK hw h_vu_1 rfl 4 4 rl_4 (by decide) (by decide +kernel) dX10_wonders_109 (fun v_13 r_v_13 m_v_13 o_v_13 => ?_)
              refine tk_v (va_runV (As := [.int x3, .int v_12, .int v_13]) (rest := []) ⟨hx, hb, hml, hown, hts⟩ (c_X10_adds l D cy z H.size Ps ws hw.1 p0 x3 v_12 v_13 h_p0 r_x3 r_v_12 r_v_13) (cwV 3 hts (gV tw_1521 tw_1523 ts_82 tw_15 tw_1524) rfl rfl rfl (by decide +kernel) ⟨Nat.le_of_ble_eq_true rfl, Nat.le_of_ble_eq_true rfl⟩) (tg_preV hw hK hSD hA (ci := 10) (q := (RX10, TX10, 49)) rfl h_p0 rfl) rfl rfl hl.1 rfl (lv_room (Nat.le_of_ble_eq_true rfl)) dX10_wonders_110 ⟨Nat.le_of_ble_eq_true rfl, Nat.le_of_ble_eq_true rfl⟩) hw hA ⟨by decide, by decide⟩ (fun ws H locs hp_v_14 hw hF9 => ?_)
              obtain ⟨v_15, e_v_15⟩ : ∃ q9 : Int32, q9 = x3 + Int32.ofInt 1 := ⟨_, rfl⟩
              obtain ⟨t_v_15, r_v_15⟩ := tq_add (lo := 1) (hi := 6) r_x3 (show RI (Int32.ofInt 1) 1 1 by unfold RI; decide +kernel) (by decide +kernel) e_v_15
              have t_v_15 : v_15.toInt = x3.toInt + 1 := t_v_15
              refine lv_iinc (v := v_15) (lv' := [(3, .int v_15), (0, .ref p0), (1, .int p1), (2, .int x2)]) hx hb dX10_wonders_113 hl (k := 3) rfl e_v_15.symm (by decide) rfl (fun ls hl => ?_)
              refine lv_goto (tgt := 49) hx hb dX10_wonders_116 (by decide) ?_
              exact ih49 x2 v_15 ws _ _ ls (by have q0 := r_v_15.1; have u0 := r_v_15.2; have o0 := r_x3.1; have p0 := r_x3.2; omega) r_p1 r_x2 (r_v_15.to (by decide)) hw (lv_sub hl [1, 2, 3, 0] rfl)
  refine lv_aload_n hx hb dX10_wonders_0 rfl (lv_at hl 0 rfl) ?_
  refine tg_get (ci := 10) (ts := ty_MODEL) (C := RX10) (T := TX10) (N := 49) hx hb hts inX10 hown hK hw h_p0 rfl rfl 14 (by decide) (hts _ tw_1151) (fun _ h9 => h9) (ft := vR 34) rfl dX10_wonders_1 (fun u_16 hv_u_16 m_u_16 => ?_)
  obtain ⟨vu_16, rfl, h_vu_16⟩ := hv_u_16
  refine lv_bipush (v := 112) hx hb dX10_wonders_4 (by decide) ?_
  refine lv_iload_n hx hb dX10_wonders_6 rfl (lv_at hl 1 rfl) ?_
  refine lv_iadd hx hb dX10_wonders_7 (lv_topi (fun v_17 e_v_17 => ?_))
  obtain ⟨t_v_17, r_v_17⟩ := tq_add (lo := 112) (hi := 119) rl_112 r_p1 (by decide +kernel) e_v_17
  have t_v_17 : v_17.toInt = 112 + p1.toInt := t_v_17
  refine tg_iald (lo := (-1)) (hi := 5) hx hb hK hw h_vu_16 rfl 112 119 r_v_17 (by decide) (by decide +kernel) dX10_wonders_8 (fun v_18 r_v_18 m_v_18 o_v_18 => ?_)
  refine lv_istore_n (lv' := [(2, .int v_18), (0, .ref p0), (1, .int p1)]) hx hb dX10_wonders_9 rfl hl (by decide) rfl (fun ls hl => ?_)
  refine lv_iload_n hx hb dX10_wonders_10 rfl (lv_at hl 0 rfl) ?_
  refine lv_iconst (v := (-1)) hx hb dX10_wonders_11 (by decide) ?_
  refine lv_icmp_eq (tgt := 23) hx hb dX10_wonders_12 (by decide) (fun c_12 => ?_) (fun c_12 => ?_)
  · have r_v_18 : RI v_18 (-1) (-1) := rc_eq1 r_v_18 rl_m1 (ti_eq c_12) (by decide)
    subst hQ
    exact W.vret hx hb hr (fun t ht hW => ⟨⟨w0, rfl, ⟨trivial, hw.1, hw.2.2.2.2.1⟩, by rw [ht]; exact hw.2.1, va_K.moved hW.alike hK, hw.2.2.1⟩, hw.2.2.2.1.F ht⟩) hw.2.2.2.1.2.2 dX10_wonders_23
  · have r_v_18 : RI v_18 0 5 := rc_neL r_v_18 rl_m1 (ti_ne c_12) (by decide)
    refine lv_aload_n hx hb dX10_wonders_15 rfl (lv_at hl 1 rfl) ?_
    refine lv_iload_n hx hb dX10_wonders_16 rfl (lv_at hl 0 rfl) ?_
    refine tk_ir (va_runV (As := [.int v_18]) (rest := []) ⟨hx, hb, hml, hown, hts⟩ (c_X10_isOpen l D cy z s.heap.size Ps w0 hw.1 p0 v_18 h_p0 (r_v_18.to (by decide))) (cwV 1 hts (gV tw_1457 tw_1459 ts_71 tw_15 tw_1460) rfl rfl rfl (by decide +kernel) ⟨Nat.le_of_ble_eq_true rfl, Nat.le_of_ble_eq_true rfl⟩) (tg_preV hw hK hSD hA (ci := 10) (q := (RX10, TX10, 49)) rfl h_p0 rfl) rfl rfl hl.1 rfl (lv_room (Nat.le_of_ble_eq_true rfl)) dX10_wonders_17 ⟨Nat.le_of_ble_eq_true rfl, Nat.le_of_ble_eq_true rfl⟩) hw hA (fun v_19  H locs hp_v_19 hw => ?_)
    have r_v_19 : RI v_19 0 1 := hp_v_19.1
    refine lv_if_eq (tgt := 24) hx hb dX10_wonders_20 (by decide) (fun c_20 => ?_) (fun c_20 => ?_)
    · have r_v_19 : RI v_19 0 0 := rc_eq1 r_v_19 rl_0 (ti_eq c_20) (by decide)
      refine lv_aload_n hx hb dX10_wonders_24 rfl (lv_at hl 1 rfl) ?_
      refine lv_iload_n hx hb dX10_wonders_25 rfl (lv_at hl 0 rfl) ?_
      refine lv_aload_n hx hb dX10_wonders_26 rfl (lv_at hl 1 rfl) ?_
      refine tg_mem (ci := 10) (C := RX10) (T := TX10) (N := 49) hx hb hts inX10 hown hK hw 14 m_u_16 rfl (by decide) (hts _ tw_1151) (fun _ h9 => h9) dX10_wonders_27 ?_
      refine lv_bipush (v := 104) hx hb dX10_wonders_30 (by decide) ?_
      refine lv_iload_n hx hb dX10_wonders_32 rfl (lv_at hl 2 rfl) ?_
      refine lv_iadd hx hb dX10_wonders_33 (lv_topi (fun v_20 e_v_20 => ?_))
      obtain ⟨t_v_20, r_v_20⟩ := tq_add (lo := 104) (hi := 111) rl_104 r_p1 (by decide +kernel) e_v_20
      have t_v_20 : v_20.toInt = 104 + p1.toInt := t_v_20
      refine tg_iald (lo := 0) (hi := 5) hx hb hK hw h_vu_16 rfl 104 111 r_v_20 (by decide) (by decide +kernel) dX10_wonders_34 (fun v_21 r_v_21 m_v_21 o_v_21 => ?_)
      refine lv_aload_n hx hb dX10_wonders_35 rfl (lv_at hl 1 rfl) ?_
      refine tg_mem (ci := 10) (C := RX10) (T := TX10) (N := 49) hx hb hts inX10 hown hK hw 14 m_u_16 rfl (by decide) (hts _ tw_1151) (fun _ h9 => h9) dX10_wonders_36 ?_
      refine lv_bipush (v := 32) hx hb dX10_wonders_39 (by decide) ?_
      refine lv_iload_n hx hb dX10_wonders_41 rfl (lv_at hl 2 rfl) ?_
      refine lv_iadd hx hb dX10_wonders_42 (lv_topi (fun v_22 e_v_22 => ?_))
      obtain ⟨t_v_22, r_v_22⟩ := tq_add (lo := 32) (hi := 39) rl_32 r_p1 (by decide +kernel) e_v_22
      have t_v_22 : v_22.toInt = 32 + p1.toInt := t_v_22
      refine tg_iald (lo := (-2147483648)) (hi := 2147483647) hx hb hK hw h_vu_16 rfl 32 39 r_v_22 (by decide) (by decide +kernel) dX10_wonders_43 (fun v_23 r_v_23 m_v_23 o_v_23 => ?_)
      refine tk_v (va_runV (As := [.int v_18, .int v_21, .int v_23]) (rest := []) ⟨hx, hb, hml, hown, hts⟩ (c_X10_adds l D cy z H.size Ps w0 hw.1 p0 v_18 v_21 v_23 h_p0 r_v_18 r_v_21 r_v_23) (cwV 3 hts (gV tw_1521 tw_1523 ts_82 tw_15 tw_1524) rfl rfl rfl (by decide +kernel) ⟨Nat.le_of_ble_eq_true rfl, Nat.le_of_ble_eq_true rfl⟩) (tg_preV hw hK hSD hA (ci := 10) (q := (RX10, TX10, 49)) rfl h_p0 rfl) rfl rfl hl.1 rfl (lv_room (Nat.le_of_ble_eq_true rfl)) dX10_wonders_44 ⟨Nat.le_of_ble_eq_true rfl, Nat.le_of_ble_eq_true rfl⟩) hw hA ⟨by decide, by decide⟩ (fun ws H locs hp_v_24 hw hF9 => ?_)
      refine lv_iconst (v := 0) hx hb dX10_wonders_47 (by decide) ?_
      refine lv_istore_n (lv' := [(3, .int 0), (2, .int v_18), (0, .ref p0), (1, .int p1)]) hx hb dX10_wonders_48 rfl hl (by decide) rfl (fun ls hl => ?_)
      exact B49 4294967298 v_18 0 ws _ _ ls (by have q0 := rl_0.1; have u0 := rl_0.2; omega) r_p1 r_v_18 (rl_0.to (by decide)) hw (lv_sub hl [2, 3, 1, 0] rfl)
    · have r_v_19 : RI v_19 1 1 := rc_neL r_v_19 rl_0 (ti_ne c_20) (by decide)
      subst hQ
      exact W.vret hx hb hr (fun t ht hW => ⟨⟨w0, rfl, ⟨trivial, hw.1, hw.2.2.2.2.1⟩, by rw [ht]; exact hw.2.1, va_K.moved hW.alike hK, hw.2.2.1⟩, hw.2.2.2.1.F ht⟩) hw.2.2.2.1.2.2 dX10_wonders_23
abbrev wr_X10_oneDay : List (Nat × Nat) := []
abbrev wa_X10_oneDay : List Nat := [34, 46]
set_option maxHeartbeats 4000000 in
set_option maxRecDepth 100000 in
theorem c_X10_oneDay (l : Launch) (D : va_G) (cy : Nat → ClassId) (z : Nat → Nat) (sz : Nat) (Ps : PSI) (w0 : va_W) (hT : HT cy GG Ps w0) (p0 : Nat) (h_p0 : (p0, 55) ∈ Ps) : Met l yX10_oneDay (Cond.code yX10_oneDay cX10_oneDay 2 none :: gT) ({ frames := 4, cells := 0, slots := 0, locals := 800 } : Room) (va_Pc [.ref p0] (PRE D cy z w0 sz)) (va_Qv (fun (u : va_W) => (True) ∧ HT cy GG Ps u ∧ FR wr_X10_oneDay wa_X10_oneDay Ps w0 u) (BB D cy (va_A w0 sz) (fun (u : va_W) => u)) (va_A w0 sz)) 0 0 (va_A w0 sz) := by
  refine Met.ofW (cc := cX10_oneDay) (maxL := 2) (ret := none) (by decide) rfl ?_
  intro p e s m args below meth c s₁ B hml hv
  obtain ⟨rfl, hsz, hP, hK, hD0, hSD⟩ := hv
  have hx := B.exec
  have hb := B.bytes
  have hr := B.returns
  have hlocks := B.notSynchronized
  have hts : ∀ w ∈ gT, w.before _ s = true := fun w h => atoms_spec (ws := Cond.code yX10_oneDay cX10_oneDay 2 none :: gT) B.pre w (List.mem_cons_of_mem _ h)
  have hown : s.vm.findClass RX10 = some m.cls := findClass_of_methodNamed B.named
  subst hsz
  have hD := hD0.self (sz := s.heap.size)
  generalize hAe : va_A w0 s.heap.size = A at hD hSD ⊢
  have hA : ∀ q : Nat, s.heap.size ≤ q → A q := fun q h => by rw [← hAe]; exact Or.inr h
  have hl := lv_entry ([.ref p0]) (n := 2) (Nat.le_of_ble_eq_true rfl)
  rw [lg_entry_eq]
  generalize (lg_sl ([.ref p0]) ++ List.replicate (2 - (lg_sl ([.ref p0])).length) Slot.unset).toArray = ls at hl ⊢
  have hl : lv_has ls 2 [(0, .ref p0)] := hl
  refine nameQ (fun Q hQ => ?_)
  have hw : WD D cy GG A s wr_X10_oneDay wa_X10_oneDay Ps w0 Ps w0 s.heap [] := ⟨hT, hP, hD, va_S.rf, FR.rf, hT.1, [], (List.append_nil _).symm⟩
  have B54 : ∀ (nf : Nat) (x1 : Int32) (ws : va_W) (H : Heap) (locs : List Loc) (ls : Array Slot), 6 - x1.toInt < (nf : Int) → RI x1 0 6 → WD D cy GG A s wr_X10_oneDay wa_X10_oneDay Ps w0 Ps ws H locs → lv_has ls 2 [(0, .ref p0), (1, .int x1)] → W p l e (headSpec (Cond.code yX10_oneDay cX10_oneDay 2 none :: gT) ({ frames := 4, cells := 0, slots := 0, locals := 800 } : Room)).room s m ([.ref p0] : List Value).toArray below meth c H locs 0 0 Q (F0 m 54 ls []) := by
    intro nf54
    induction nf54 with
    | zero =>
      intro x1 ws H locs ls hn54 r_x1 hw hl
      exact absurd hn54 (by have q0 := r_x1.1; have u0 := r_x1.2; omega)
    | succ nf54 ih54 =>
      have B109 : ∀ (x1 : Int32) (ws : va_W) (H : Heap) (locs : List Loc) (ls : Array Slot), RI x1 0 5 → 6 - x1.toInt < ((nf54 + 1 : Nat) : Int) → WD D cy GG A s wr_X10_oneDay wa_X10_oneDay Ps w0 Ps ws H locs → lv_has ls 2 [(0, .ref p0), (1, .int x1)] → W p l e (headSpec (Cond.code yX10_oneDay cX10_oneDay 2 none :: gT) ({ frames := 4, cells := 0, slots := 0, locals := 800 } : Room)).room s m ([.ref p0] : List Value).toArray below meth c H locs 0 0 Q (F0 m 109 ls []) := by
        intro x1 ws H locs ls r_x1 hn54 hw hl
        refine lv_aload_n hx hb dX10_oneDay_109 rfl (lv_at hl 0 rfl) ?_
        refine lv_iload_n hx hb dX10_oneDay_110 rfl (lv_at hl 1 rfl) ?_
        refine tk_ir (va_runV (As := [.int x1]) (rest := []) ⟨hx, hb, hml, hown, hts⟩ (c_X10_whatIs l D cy z H.size Ps ws hw.1 p0 x1 h_p0 r_x1) (cwV 1 hts (gV tw_1449 tw_1451 ts_69 tw_15 tw_1452) rfl rfl rfl (by decide +kernel) ⟨Nat.le_of_ble_eq_true rfl, Nat.le_of_ble_eq_true rfl⟩) (tg_preV hw hK hSD hA (ci := 10) (q := (RX10, TX10, 49)) rfl h_p0 rfl) rfl rfl hl.1 rfl (lv_room (Nat.le_of_ble_eq_true rfl)) dX10_oneDay_111 ⟨Nat.le_of_ble_eq_true rfl, Nat.le_of_ble_eq_true rfl⟩) hw hA (fun v_1  H locs hp_v_1 hw => ?_)
        have r_v_1 : RI v_1 (-1) 5 := hp_v_1.1
        by_cases c9_v_1 : v_1.toInt < 0
        · have r_v_1 : RI v_1 (-1) (-1) := by unfold RI at r_v_1 ⊢; omega
          have x_NB_p0_x1 := (hp_v_1.2.2.2.2.1 (by omega)).1
          refine lv_aload_n hx hb dX10_oneDay_114 rfl (lv_at hl 0 rfl) ?_
          refine tg_get (ci := 10) (ts := ty_MODEL) (C := RX10) (T := TX10) (N := 49) hx hb hts inX10 hown hK hw h_p0 rfl rfl 26 (by decide) (hts _ tw_1163) (fun _ h9 => h9) (ft := vR 46) rfl dX10_oneDay_115 (fun u_2 hv_u_2 m_u_2 => ?_)
          obtain ⟨vu_2, rfl, h_vu_2⟩ := hv_u_2
          refine lv_iload_n hx hb dX10_oneDay_118 rfl (lv_at hl 1 rfl) ?_
          refine tg_iald (lo := (-2147483648)) (hi := 2147483647) hx hb hK hw h_vu_2 rfl 0 5 r_x1 (by decide) (by exact fun _ _ _ => ⟨Int.le_refl _, Int.le_refl _⟩) dX10_oneDay_119 (fun v_3 r_v_3 m_v_3 o_v_3 => ?_)
          refine lv_icmp_eq (tgt := 136) hx hb dX10_oneDay_120 (by decide) (fun c_120 => ?_) (fun c_120 => ?_)
          · have r_v_3 : RI v_3 (-1) (-1) := rc_eq2 r_v_1 r_v_3 (ti_eq c_120) (by decide)
            obtain ⟨v_4, e_v_4⟩ : ∃ q9 : Int32, q9 = x1 + Int32.ofInt 1 := ⟨_, rfl⟩
            obtain ⟨t_v_4, r_v_4⟩ := tq_add (lo := 1) (hi := 6) r_x1 (show RI (Int32.ofInt 1) 1 1 by unfold RI; decide +kernel) (by decide +kernel) e_v_4
            have t_v_4 : v_4.toInt = x1.toInt + 1 := t_v_4
            refine lv_iinc (v := v_4) (lv' := [(1, .int v_4), (0, .ref p0)]) hx hb dX10_oneDay_136 hl (k := 1) rfl e_v_4.symm (by decide) rfl (fun ls hl => ?_)
            refine lv_goto (tgt := 54) hx hb dX10_oneDay_139 (by decide) ?_
            exact ih54 v_4 ws _ _ ls (by have q0 := r_v_4.1; have u0 := r_v_4.2; have o0 := r_x1.1; have p0 := r_x1.2; omega) (r_v_4.to (by decide)) hw (lv_sub hl [1, 0] rfl)
          · refine lv_aload_n hx hb dX10_oneDay_123 rfl (lv_at hl 0 rfl) ?_
            refine tg_get (ci := 10) (ts := ty_MODEL) (C := RX10) (T := TX10) (N := 49) hx hb hts inX10 hown hK hw h_p0 rfl rfl 14 (by decide) (hts _ tw_1151) (fun _ h9 => h9) (ft := vR 34) rfl dX10_oneDay_124 (fun u_5 hv_u_5 m_u_5 => ?_)
            obtain ⟨vu_5, rfl, h_vu_5⟩ := hv_u_5
            refine lv_bipush (v := 98) hx hb dX10_oneDay_127 (by decide) ?_
            refine lv_iload_n hx hb dX10_oneDay_129 rfl (lv_at hl 1 rfl) ?_
            refine lv_iadd hx hb dX10_oneDay_130 (lv_topi (fun v_6 e_v_6 => ?_))
            obtain ⟨t_v_6, r_v_6⟩ := tq_add (lo := 98) (hi := 103) rl_98 r_x1 (by decide +kernel) e_v_6
            have t_v_6 : v_6.toInt = 98 + x1.toInt := t_v_6
            refine lv_dup2_11 hx hb dX10_oneDay_131 rfl rfl ?_
            refine tg_iald (lo := (-2147483648)) (hi := 2147483647) hx hb hK hw h_vu_5 rfl 98 103 r_v_6 (by decide) (by decide +kernel) dX10_oneDay_132 (fun v_7 r_v_7 m_v_7 o_v_7 => ?_)
            refine lv_iconst (v := 1) hx hb dX10_oneDay_133 (by decide) ?_
            refine lv_iadd hx hb dX10_oneDay_134 (lv_topi (fun v_8 e_v_8 => ?_))
            have r_v_8 := ri_any v_8
            refine tg_iast hx hb hK hw h_vu_5 rfl 98 103 r_v_6 (by decide) r_v_8 (by decide +kernel) (RN_upd (by decide) (by decide)) (by decide) dX10_oneDay_135 (fun ws H locs hw hF9 hU9 => ?_)
            obtain ⟨v_9, e_v_9⟩ : ∃ q9 : Int32, q9 = x1 + Int32.ofInt 1 := ⟨_, rfl⟩
            obtain ⟨t_v_9, r_v_9⟩ := tq_add (lo := 1) (hi := 6) r_x1 (show RI (Int32.ofInt 1) 1 1 by unfold RI; decide +kernel) (by decide +kernel) e_v_9
            have t_v_9 : v_9.toInt = x1.toInt + 1 := t_v_9
            refine lv_iinc (v := v_9) (lv' := [(1, .int v_9), (0, .ref p0)]) hx hb dX10_oneDay_136 hl (k := 1) rfl e_v_9.symm (by decide) rfl (fun ls hl => ?_)
            refine lv_goto (tgt := 54) hx hb dX10_oneDay_139 (by decide) ?_
            exact ih54 v_9 ws _ _ ls (by have q0 := r_v_9.1; have u0 := r_v_9.2; have o0 := r_x1.1; have p0 := r_x1.2; omega) (r_v_9.to (by decide)) hw (lv_sub hl [1, 0] rfl)
        · have r_v_1 : RI v_1 0 5 := by unfold RI at r_v_1 ⊢; omega
          have x_WB_p0_x1_v_1 := (hp_v_1.2.2.2.2.2 (by omega)).1
          refine lv_aload_n hx hb dX10_oneDay_114 rfl (lv_at hl 0 rfl) ?_
          refine tg_get (ci := 10) (ts := ty_MODEL) (C := RX10) (T := TX10) (N := 49) hx hb hts inX10 hown hK hw h_p0 rfl rfl 26 (by decide) (hts _ tw_1163) (fun _ h9 => h9) (ft := vR 46) rfl dX10_oneDay_115 (fun u_10 hv_u_10 m_u_10 => ?_)
          obtain ⟨vu_10, rfl, h_vu_10⟩ := hv_u_10
          refine lv_iload_n hx hb dX10_oneDay_118 rfl (lv_at hl 1 rfl) ?_
          refine tg_iald (lo := (-2147483648)) (hi := 2147483647) hx hb hK hw h_vu_10 rfl 0 5 r_x1 (by decide) (by exact fun _ _ _ => ⟨Int.le_refl _, Int.le_refl _⟩) dX10_oneDay_119 (fun v_11 r_v_11 m_v_11 o_v_11 => ?_)
          refine lv_icmp_eq (tgt := 136) hx hb dX10_oneDay_120 (by decide) (fun c_120 => ?_) (fun c_120 => ?_)
          · have r_v_11 : RI v_11 0 5 := rc_eq2 r_v_1 r_v_11 (ti_eq c_120) (by decide)
            obtain ⟨v_12, e_v_12⟩ : ∃ q9 : Int32, q9 = x1 + Int32.ofInt 1 := ⟨_, rfl⟩
            obtain ⟨t_v_12, r_v_12⟩ := tq_add (lo := 1) (hi := 6) r_x1 (show RI (Int32.ofInt 1) 1 1 by unfold RI; decide +kernel) (by decide +kernel) e_v_12
            have t_v_12 : v_12.toInt = x1.toInt + 1 := t_v_12
            refine lv_iinc (v := v_12) (lv' := [(1, .int v_12), (0, .ref p0)]) hx hb dX10_oneDay_136 hl (k := 1) rfl e_v_12.symm (by decide) rfl (fun ls hl => ?_)
            refine lv_goto (tgt := 54) hx hb dX10_oneDay_139 (by decide) ?_
            exact ih54 v_12 ws _ _ ls (by have q0 := r_v_12.1; have u0 := r_v_12.2; have o0 := r_x1.1; have p0 := r_x1.2; omega) (r_v_12.to (by decide)) hw (lv_sub hl [1, 0] rfl)
          · refine lv_aload_n hx hb dX10_oneDay_123 rfl (lv_at hl 0 rfl) ?_
            refine tg_get (ci := 10) (ts := ty_MODEL) (C := RX10) (T := TX10) (N := 49) hx hb hts inX10 hown hK hw h_p0 rfl rfl 14 (by decide) (hts _ tw_1151) (fun _ h9 => h9) (ft := vR 34) rfl dX10_oneDay_124 (fun u_13 hv_u_13 m_u_13 => ?_)
            obtain ⟨vu_13, rfl, h_vu_13⟩ := hv_u_13
            refine lv_bipush (v := 98) hx hb dX10_oneDay_127 (by decide) ?_
            refine lv_iload_n hx hb dX10_oneDay_129 rfl (lv_at hl 1 rfl) ?_
            refine lv_iadd hx hb dX10_oneDay_130 (lv_topi (fun v_14 e_v_14 => ?_))
            obtain ⟨t_v_14, r_v_14⟩ := tq_add (lo := 98) (hi := 103) rl_98 r_x1 (by decide +kernel) e_v_14
            have t_v_14 : v_14.toInt = 98 + x1.toInt := t_v_14
            refine lv_dup2_11 hx hb dX10_oneDay_131 rfl rfl ?_
            refine tg_iald (lo := (-2147483648)) (hi := 2147483647) hx hb hK hw h_vu_13 rfl 98 103 r_v_14 (by decide) (by decide +kernel) dX10_oneDay_132 (fun v_15 r_v_15 m_v_15 o_v_15 => ?_)
            refine lv_iconst (v := 1) hx hb dX10_oneDay_133 (by decide) ?_
            refine lv_iadd hx hb dX10_oneDay_134 (lv_topi (fun v_16 e_v_16 => ?_))
            have r_v_16 := ri_any v_16
            refine tg_iast hx hb hK hw h_vu_13 rfl 98 103 r_v_14 (by decide) r_v_16 (by decide +kernel) (RN_upd (by decide) (by decide)) (by decide) dX10_oneDay_135 (fun ws H locs hw hF9 hU9 => ?_)
            obtain ⟨v_17, e_v_17⟩ : ∃ q9 : Int32, q9 = x1 + Int32.ofInt 1 := ⟨_, rfl⟩
            obtain ⟨t_v_17, r_v_17⟩ := tq_add (lo := 1) (hi := 6) r_x1 (show RI (Int32.ofInt 1) 1 1 by unfold RI; decide +kernel) (by decide +kernel) e_v_17
            have t_v_17 : v_17.toInt = x1.toInt + 1 := t_v_17
            refine lv_iinc (v := v_17) (lv' := [(1, .int v_17), (0, .ref p0)]) hx hb dX10_oneDay_136 hl (k := 1) rfl e_v_17.symm (by decide) rfl (fun ls hl => ?_)
            refine lv_goto (tgt := 54) hx hb dX10_oneDay_139 (by decide) ?_
            exact ih54 v_17 ws _ _ ls (by have q0 := r_v_17.1; have u0 := r_v_17.2; have o0 := r_x1.1; have p0 := r_x1.2; omega) (r_v_17.to (by decide)) hw (lv_sub hl [1, 0] rfl)
      intro x1 ws H locs ls hn54 r_x1 hw hl
      refine lv_iload_n hx hb dX10_oneDay_54 rfl (lv_at hl 1 rfl) ?_
      refine lv_aload_n hx hb dX10_oneDay_55 rfl (lv_at hl 0 rfl) ?_
      refine tg_get (ci := 10) (ts := ty_MODEL) (C := RX10) (T := TX10) (N := 49) hx hb hts inX10 hown hK hw h_p0 rfl rfl 14 (by decide) (hts _ tw_1151) (fun _ h9 => h9) (ft := vR 34) rfl dX10_oneDay_56 (fun u_18 hv_u_18 m_u_18 => ?_)
      obtain ⟨vu_18, rfl, h_vu_18⟩ := hv_u_18
      refine lv_iconst (v := 2) hx hb dX10_oneDay_59 (by decide) ?_
      refine tg_iald (lo := 0) (hi := 6) hx hb hK hw h_vu_18 rfl 2 2 rl_2 (by decide) (by decide +kernel) dX10_oneDay_60 (fun v_19 r_v_19 m_v_19 o_v_19 => ?_)
      refine lv_icmp_ge (tgt := 142) hx hb dX10_oneDay_61 (by decide) (fun c_61 => ?_) (fun c_61 => ?_)
      · refine lv_aload_n hx hb dX10_oneDay_142 rfl (lv_at hl 0 rfl) ?_
        refine tg_mem (ci := 10) (C := RX10) (T := TX10) (N := 49) hx hb hts inX10 hown hK hw 14 m_u_18 rfl (by decide) (hts _ tw_1151) (fun _ h9 => h9) dX10_oneDay_143 ?_
        refine lv_bipush (v := 84) hx hb dX10_oneDay_146 (by decide) ?_
        refine lv_dup2_11 hx hb dX10_oneDay_148 rfl rfl ?_
        refine tg_iald (lo := (-2147483648)) (hi := 2147483647) hx hb hK hw h_vu_18 rfl 84 84 rl_84 (by decide) (by decide +kernel) dX10_oneDay_149 (fun v_20 r_v_20 m_v_20 o_v_20 => ?_)
        refine lv_iconst (v := 1) hx hb dX10_oneDay_150 (by decide) ?_
        refine lv_iadd hx hb dX10_oneDay_151 (lv_topi (fun v_21 e_v_21 => ?_))
        have r_v_21 := ri_any v_21
        refine tg_iast hx hb hK hw h_vu_18 rfl 84 84 rl_84 (by decide) r_v_21 (by decide +kernel) (RN_upd (by decide) (by decide)) (by decide) dX10_oneDay_152 (fun ws H locs hw hF9 hU9 => ?_)
        subst hQ
        exact W.vret hx hb hr (fun t ht hW => ⟨⟨ws, rfl, ⟨trivial, hw.1, hw.2.2.2.2.1⟩, by rw [ht]; exact hw.2.1, va_K.moved hW.alike hK, hw.2.2.1⟩, hw.2.2.2.1.F ht⟩) hw.2.2.2.1.2.2 dX10_oneDay_153
      · have r_x1 : RI x1 0 5 := rc_lt1 r_x1 r_v_19 (ti_nle c_61) (by decide)
        have r_v_19 : RI v_19 1 6 := rc_lt2 r_x1 r_v_19 (ti_nle c_61) (by decide)
        refine lv_aload_n hx hb dX10_oneDay_64 rfl (lv_at hl 0 rfl) ?_
        refine lv_iload_n hx hb dX10_oneDay_65 rfl (lv_at hl 1 rfl) ?_
        refine tk_ir (va_runV (As := [.int x1]) (rest := []) ⟨hx, hb, hml, hown, hts⟩ (c_X10_isOpen l D cy z H.size Ps ws hw.1 p0 x1 h_p0 (r_x1.to (by decide))) (cwV 1 hts (gV tw_1457 tw_1459 ts_71 tw_15 tw_1460) rfl rfl rfl (by decide +kernel) ⟨Nat.le_of_ble_eq_true rfl, Nat.le_of_ble_eq_true rfl⟩) (tg_preV hw hK hSD hA (ci := 10) (q := (RX10, TX10, 49)) rfl h_p0 rfl) rfl rfl hl.1 rfl (lv_room (Nat.le_of_ble_eq_true rfl)) dX10_oneDay_66 ⟨Nat.le_of_ble_eq_true rfl, Nat.le_of_ble_eq_true rfl⟩) hw hA (fun v_22  H locs hp_v_22 hw => ?_)
        have r_v_22 : RI v_22 0 1 := hp_v_22.1
        refine lv_if_ne (tgt := 109) hx hb dX10_oneDay_69 (by decide) (fun c_69 => ?_) (fun c_69 => ?_)
        · have r_v_22 : RI v_22 1 1 := rc_neL r_v_22 rl_0 (ti_ne c_69) (by decide)
          exact B109 x1 ws _ _ ls r_x1 (by have q0 := r_x1.1; have u0 := r_x1.2; omega) hw hl
        · have r_v_22 : RI v_22 0 0 := rc_eq1 r_v_22 rl_0 (ti_eq c_69) (by decide)
          refine lv_aload_n hx hb dX10_oneDay_72 rfl (lv_at hl 0 rfl) ?_
          refine lv_aload_n hx hb dX10_oneDay_73 rfl (lv_at hl 0 rfl) ?_
          refine lv_iload_n hx hb dX10_oneDay_74 rfl (lv_at hl 1 rfl) ?_
          refine tk_ir (va_runV (As := [.int x1]) (rest := [.ref p0]) ⟨hx, hb, hml, hown, hts⟩ (c_X10_sittersOf l D cy z H.size Ps ws hw.1 p0 x1 h_p0 (r_x1.to (by decide))) (cwV 1 hts (gV tw_1461 tw_1463 ts_72 tw_15 tw_1464) rfl rfl rfl (by decide +kernel) ⟨Nat.le_of_ble_eq_true rfl, Nat.le_of_ble_eq_true rfl⟩) (tg_preV hw hK hSD hA (ci := 10) (q := (RX10, TX10, 49)) rfl h_p0 rfl) rfl rfl hl.1 rfl (lv_room (Nat.le_of_ble_eq_true rfl)) dX10_oneDay_75 ⟨Nat.le_of_ble_eq_true rfl, Nat.le_of_ble_eq_true rfl⟩) hw hA (fun v_23  H locs hp_v_23 hw => ?_)
          have r_v_23 : RI v_23 (-2147483648) 2147483647 := hp_v_23.1
          refine tk_ir (va_runV (As := [.int v_23]) (rest := []) ⟨hx, hb, hml, hown, hts⟩ (c_X10_areUnlike l D cy z H.size Ps ws hw.1 p0 v_23 h_p0 r_v_23) (cwV 1 hts (gV tw_1572 tw_1574 ts_87 tw_15 tw_1575) rfl rfl rfl (by decide +kernel) ⟨Nat.le_of_ble_eq_true rfl, Nat.le_of_ble_eq_true rfl⟩) (tg_preV hw hK hSD hA (ci := 10) (q := (RX10, TX10, 49)) rfl h_p0 rfl) rfl rfl hl.1 rfl (lv_room (Nat.le_of_ble_eq_true rfl)) dX10_oneDay_78 ⟨Nat.le_of_ble_eq_true rfl, Nat.le_of_ble_eq_true rfl⟩) hw hA (fun v_24  H locs hp_v_24 hw => ?_)
          have r_v_24 : RI v_24 0 1 := hp_v_24.1
          refine lv_if_eq (tgt := 109) hx hb dX10_oneDay_81 (by decide) (fun c_81 => ?_) (fun c_81 => ?_)
          · have r_v_24 : RI v_24 0 0 := rc_eq1 r_v_24 rl_0 (ti_eq c_81) (by decide)
            exact B109 x1 ws _ _ ls r_x1 (by have q0 := r_x1.1; have u0 := r_x1.2; omega) hw hl
          · have r_v_24 : RI v_24 1 1 := rc_neL r_v_24 rl_0 (ti_ne c_81) (by decide)
            refine lv_aload_n hx hb dX10_oneDay_84 rfl (lv_at hl 0 rfl) ?_
            refine tg_mem (ci := 10) (C := RX10) (T := TX10) (N := 49) hx hb hts inX10 hown hK hw 14 m_u_18 rfl (by decide) (hts _ tw_1151) (fun _ h9 => h9) dX10_oneDay_85 ?_
            refine lv_bipush (v := 92) hx hb dX10_oneDay_88 (by decide) ?_
            refine lv_iload_n hx hb dX10_oneDay_90 rfl (lv_at hl 1 rfl) ?_
            refine lv_iadd hx hb dX10_oneDay_91 (lv_topi (fun v_25 e_v_25 => ?_))
            obtain ⟨t_v_25, r_v_25⟩ := tq_add (lo := 92) (hi := 97) rl_92 r_x1 (by decide +kernel) e_v_25
            have t_v_25 : v_25.toInt = 92 + x1.toInt := t_v_25
            refine lv_bipush (v := 99) hx hb dX10_oneDay_92 (by decide) ?_
            refine lv_aload_n hx hb dX10_oneDay_94 rfl (lv_at hl 0 rfl) ?_
            refine tg_mem (ci := 10) (C := RX10) (T := TX10) (N := 49) hx hb hts inX10 hown hK hw 14 m_u_18 rfl (by decide) (hts _ tw_1151) (fun _ h9 => h9) dX10_oneDay_95 ?_
            refine lv_bipush (v := 92) hx hb dX10_oneDay_98 (by decide) ?_
            refine lv_iload_n hx hb dX10_oneDay_100 rfl (lv_at hl 1 rfl) ?_
            refine lv_iadd hx hb dX10_oneDay_101 (lv_topi (fun v_26 e_v_26 => ?_))
            obtain ⟨t_v_26, r_v_26⟩ := tq_add (lo := 92) (hi := 97) rl_92 r_x1 (by decide +kernel) e_v_26
            have t_v_26 : v_26.toInt = 92 + x1.toInt := t_v_26
            refine tg_iald (lo := (-2147483648)) (hi := 2147483647) hx hb hK hw h_vu_18 rfl 92 97 r_v_26 (by decide) (by decide +kernel) dX10_oneDay_102 (fun v_27 r_v_27 m_v_27 o_v_27 => ?_)
            refine lv_iconst (v := 1) hx hb dX10_oneDay_103 (by decide) ?_
            refine lv_iadd hx hb dX10_oneDay_104 (lv_topi (fun v_28 e_v_28 => ?_))
            have r_v_28 := ri_any v_28
            refine tk_ir (va_runS (As := [.int 99, .int v_28]) (rest := [.int v_25, .ref vu_18]) ⟨hx, hb, hml, hown, hts⟩ (c_X10_least l D cy z H.size Ps ws hw.1 99 v_28 rl_99 r_v_28) (va_cwS 2 hts (gS tw_1525 tw_1526 tw_15 tw_1527) rfl rfl rfl (by decide +kernel) ⟨Nat.le_of_ble_eq_true rfl, Nat.le_of_ble_eq_true rfl⟩) (tg_preS hw hK hSD hA) rfl rfl hl.1 rfl (lv_room (Nat.le_of_ble_eq_true rfl)) dX10_oneDay_105 ⟨Nat.le_of_ble_eq_true rfl, Nat.le_of_ble_eq_true rfl⟩) hw hA (fun v_29  H locs hp_v_29 hw => ?_)
            have r_v_29 : RI v_29 (-2147483648) 99 := hp_v_29.1
            refine tg_iast hx hb hK hw h_vu_18 rfl 92 97 r_v_25 (by decide) r_v_29 (by decide +kernel) (RN_upd (by decide) (by decide)) (by decide) dX10_oneDay_108 (fun ws H locs hw hF9 hU9 => ?_)
            exact B109 x1 ws _ _ ls r_x1 (by have q0 := r_x1.1; have u0 := r_x1.2; omega) hw hl
  have B31 : ∀ (nf : Nat) (x1 : Int32) (ws : va_W) (H : Heap) (locs : List Loc) (ls : Array Slot), 8 - x1.toInt < (nf : Int) → RI x1 0 8 → WD D cy GG A s wr_X10_oneDay wa_X10_oneDay Ps w0 Ps ws H locs → lv_has ls 2 [(0, .ref p0), (1, .int x1)] → W p l e (headSpec (Cond.code yX10_oneDay cX10_oneDay 2 none :: gT) ({ frames := 4, cells := 0, slots := 0, locals := 800 } : Room)).room s m ([.ref p0] : List Value).toArray below meth c H locs 0 0 Q (F0 m 31 ls []) := by
    intro nf31
    induction nf31 with
    | zero =>
      intro x1 ws H locs ls hn31 r_x1 hw hl
      exact absurd hn31 (by have q0 := r_x1.1; have u0 := r_x1.2; omega)
    | succ nf31 ih31 =>
      intro x1 ws H locs ls hn31 r_x1 hw hl
      refine lv_iload_n hx hb dX10_oneDay_31 rfl (lv_at hl 1 rfl) ?_
      refine lv_aload_n hx hb dX10_oneDay_32 rfl (lv_at hl 0 rfl) ?_
      refine tg_get (ci := 10) (ts := ty_MODEL) (C := RX10) (T := TX10) (N := 49) hx hb hts inX10 hown hK hw h_p0 rfl rfl 14 (by decide) (hts _ tw_1151) (fun _ h9 => h9) (ft := vR 34) rfl dX10_oneDay_33 (fun u_30 hv_u_30 m_u_30 => ?_)
      obtain ⟨vu_30, rfl, h_vu_30⟩ := hv_u_30
      refine lv_iconst (v := 3) hx hb dX10_oneDay_36 (by decide) ?_
      refine tg_iald (lo := 0) (hi := 8) hx hb hK hw h_vu_30 rfl 3 3 rl_3 (by decide) (by decide +kernel) dX10_oneDay_37 (fun v_31 r_v_31 m_v_31 o_v_31 => ?_)
      refine lv_icmp_ge (tgt := 52) hx hb dX10_oneDay_38 (by decide) (fun c_38 => ?_) (fun c_38 => ?_)
      · refine lv_iconst (v := 0) hx hb dX10_oneDay_52 (by decide) ?_
        refine lv_istore_n (lv' := [(1, .int 0), (0, .ref p0)]) hx hb dX10_oneDay_53 rfl hl (by decide) rfl (fun ls hl => ?_)
        exact B54 4294967298 0 ws _ _ ls (by have q0 := rl_0.1; have u0 := rl_0.2; omega) (rl_0.to (by decide)) hw (lv_sub hl [1, 0] rfl)
      · have r_x1 : RI x1 0 7 := rc_lt1 r_x1 r_v_31 (ti_nle c_38) (by decide)
        have r_v_31 : RI v_31 1 8 := rc_lt2 r_x1 r_v_31 (ti_nle c_38) (by decide)
        refine lv_aload_n hx hb dX10_oneDay_41 rfl (lv_at hl 0 rfl) ?_
        refine lv_iload_n hx hb dX10_oneDay_42 rfl (lv_at hl 1 rfl) ?_
        refine tk_v (va_runV (As := [.int x1]) (rest := []) ⟨hx, hb, hml, hown, hts⟩ (c_X10_wonders l D cy z H.size Ps ws hw.1 p0 x1 h_p0 r_x1) (cwV 1 hts (gV tw_1568 tw_1570 ts_86 tw_15 tw_1571) rfl rfl rfl (by decide +kernel) ⟨Nat.le_of_ble_eq_true rfl, Nat.le_of_ble_eq_true rfl⟩) (tg_preV hw hK hSD hA (ci := 10) (q := (RX10, TX10, 49)) rfl h_p0 rfl) rfl rfl hl.1 rfl (lv_room (Nat.le_of_ble_eq_true rfl)) dX10_oneDay_43 ⟨Nat.le_of_ble_eq_true rfl, Nat.le_of_ble_eq_true rfl⟩) hw hA ⟨by decide, by decide⟩ (fun ws H locs hp_v_32 hw hF9 => ?_)
        obtain ⟨v_33, e_v_33⟩ : ∃ q9 : Int32, q9 = x1 + Int32.ofInt 1 := ⟨_, rfl⟩
        obtain ⟨t_v_33, r_v_33⟩ := tq_add (lo := 1) (hi := 8) r_x1 (show RI (Int32.ofInt 1) 1 1 by unfold RI; decide +kernel) (by decide +kernel) e_v_33
        have t_v_33 : v_33.toInt = x1.toInt + 1 := t_v_33
        refine lv_iinc (v := v_33) (lv' := [(1, .int v_33), (0, .ref p0)]) hx hb dX10_oneDay_46 hl (k := 1) rfl e_v_33.symm (by decide) rfl (fun ls hl => ?_)
        refine lv_goto (tgt := 31) hx hb dX10_oneDay_49 (by decide) ?_
        exact ih31 v_33 ws _ _ ls (by have q0 := r_v_33.1; have u0 := r_v_33.2; have o0 := r_x1.1; have p0 := r_x1.2; omega) (r_v_33.to (by decide)) hw (lv_sub hl [1, 0] rfl)
  have B2 : ∀ (nf : Nat) (x1 : Int32) (ws : va_W) (H : Heap) (locs : List Loc) (ls : Array Slot), 6 - x1.toInt < (nf : Int) → RI x1 0 6 → WD D cy GG A s wr_X10_oneDay wa_X10_oneDay Ps w0 Ps ws H locs → lv_has ls 2 [(0, .ref p0), (1, .int x1)] → W p l e (headSpec (Cond.code yX10_oneDay cX10_oneDay 2 none :: gT) ({ frames := 4, cells := 0, slots := 0, locals := 800 } : Room)).room s m ([.ref p0] : List Value).toArray below meth c H locs 0 0 Q (F0 m 2 ls []) := by
    intro nf2
    induction nf2 with
    | zero =>
      intro x1 ws H locs ls hn2 r_x1 hw hl
      exact absurd hn2 (by have q0 := r_x1.1; have u0 := r_x1.2; omega)
    | succ nf2 ih2 =>
      intro x1 ws H locs ls hn2 r_x1 hw hl
      refine lv_iload_n hx hb dX10_oneDay_2 rfl (lv_at hl 1 rfl) ?_
      refine lv_aload_n hx hb dX10_oneDay_3 rfl (lv_at hl 0 rfl) ?_
      refine tg_get (ci := 10) (ts := ty_MODEL) (C := RX10) (T := TX10) (N := 49) hx hb hts inX10 hown hK hw h_p0 rfl rfl 14 (by decide) (hts _ tw_1151) (fun _ h9 => h9) (ft := vR 34) rfl dX10_oneDay_4 (fun u_34 hv_u_34 m_u_34 => ?_)
      obtain ⟨vu_34, rfl, h_vu_34⟩ := hv_u_34
      refine lv_iconst (v := 2) hx hb dX10_oneDay_7 (by decide) ?_
      refine tg_iald (lo := 0) (hi := 6) hx hb hK hw h_vu_34 rfl 2 2 rl_2 (by decide) (by decide +kernel) dX10_oneDay_8 (fun v_35 r_v_35 m_v_35 o_v_35 => ?_)
      refine lv_icmp_ge (tgt := 29) hx hb dX10_oneDay_9 (by decide) (fun c_9 => ?_) (fun c_9 => ?_)
      · refine lv_iconst (v := 0) hx hb dX10_oneDay_29 (by decide) ?_
        refine lv_istore_n (lv' := [(1, .int 0), (0, .ref p0)]) hx hb dX10_oneDay_30 rfl hl (by decide) rfl (fun ls hl => ?_)
        exact B31 4294967298 0 ws _ _ ls (by have q0 := rl_0.1; have u0 := rl_0.2; omega) (rl_0.to (by decide)) hw (lv_sub hl [1, 0] rfl)
      · have r_x1 : RI x1 0 5 := rc_lt1 r_x1 r_v_35 (ti_nle c_9) (by decide)
        have r_v_35 : RI v_35 1 6 := rc_lt2 r_x1 r_v_35 (ti_nle c_9) (by decide)
        refine lv_aload_n hx hb dX10_oneDay_12 rfl (lv_at hl 0 rfl) ?_
        refine tg_get (ci := 10) (ts := ty_MODEL) (C := RX10) (T := TX10) (N := 49) hx hb hts inX10 hown hK hw h_p0 rfl rfl 26 (by decide) (hts _ tw_1163) (fun _ h9 => h9) (ft := vR 46) rfl dX10_oneDay_13 (fun u_36 hv_u_36 m_u_36 => ?_)
        obtain ⟨vu_36, rfl, h_vu_36⟩ := hv_u_36
        refine lv_iload_n hx hb dX10_oneDay_16 rfl (lv_at hl 1 rfl) ?_
        refine lv_aload_n hx hb dX10_oneDay_17 rfl (lv_at hl 0 rfl) ?_
        refine lv_iload_n hx hb dX10_oneDay_18 rfl (lv_at hl 1 rfl) ?_
        refine tk_ir (va_runV (As := [.int x1]) (rest := [.int x1, .ref vu_36]) ⟨hx, hb, hml, hown, hts⟩ (c_X10_whatIs l D cy z H.size Ps ws hw.1 p0 x1 h_p0 r_x1) (cwV 1 hts (gV tw_1449 tw_1451 ts_69 tw_15 tw_1452) rfl rfl rfl (by decide +kernel) ⟨Nat.le_of_ble_eq_true rfl, Nat.le_of_ble_eq_true rfl⟩) (tg_preV hw hK hSD hA (ci := 10) (q := (RX10, TX10, 49)) rfl h_p0 rfl) rfl rfl hl.1 rfl (lv_room (Nat.le_of_ble_eq_true rfl)) dX10_oneDay_19 ⟨Nat.le_of_ble_eq_true rfl, Nat.le_of_ble_eq_true rfl⟩) hw hA (fun v_37  H locs hp_v_37 hw => ?_)
        have r_v_37 : RI v_37 (-1) 5 := hp_v_37.1
        by_cases c9_v_37 : v_37.toInt < 0
        · have r_v_37 : RI v_37 (-1) (-1) := by unfold RI at r_v_37 ⊢; omega
          have x_NB_p0_x1 := (hp_v_37.2.2.2.2.1 (by omega)).1
          refine tg_iast hx hb hK hw h_vu_36 rfl 0 5 r_x1 (by decide) r_v_37 (by exact fun _ _ _ => by decide) (fun _ _ _ _ _ => trivial) (by decide) dX10_oneDay_22 (fun ws H locs hw hF9 hU9 => ?_)
          have x_NB_p0_x1 := AX.over hF9 x_NB_p0_x1 (by decide)
          obtain ⟨v_38, e_v_38⟩ : ∃ q9 : Int32, q9 = x1 + Int32.ofInt 1 := ⟨_, rfl⟩
          obtain ⟨t_v_38, r_v_38⟩ := tq_add (lo := 1) (hi := 6) r_x1 (show RI (Int32.ofInt 1) 1 1 by unfold RI; decide +kernel) (by decide +kernel) e_v_38
          have t_v_38 : v_38.toInt = x1.toInt + 1 := t_v_38
          refine lv_iinc (v := v_38) (lv' := [(1, .int v_38), (0, .ref p0)]) hx hb dX10_oneDay_23 hl (k := 1) rfl e_v_38.symm (by decide) rfl (fun ls hl => ?_)
          refine lv_goto (tgt := 2) hx hb dX10_oneDay_26 (by decide) ?_
          exact ih2 v_38 ws _ _ ls (by have q0 := r_v_38.1; have u0 := r_v_38.2; have o0 := r_x1.1; have p0 := r_x1.2; omega) (r_v_38.to (by decide)) hw (lv_sub hl [1, 0] rfl)
        · have r_v_37 : RI v_37 0 5 := by unfold RI at r_v_37 ⊢; omega
          have x_WB_p0_x1_v_37 := (hp_v_37.2.2.2.2.2 (by omega)).1
          refine tg_iast hx hb hK hw h_vu_36 rfl 0 5 r_x1 (by decide) r_v_37 (by exact fun _ _ _ => by decide) (fun _ _ _ _ _ => trivial) (by decide) dX10_oneDay_22 (fun ws H locs hw hF9 hU9 => ?_)
          have x_WB_p0_x1_v_37 := AX.over hF9 x_WB_p0_x1_v_37 (by decide)
          obtain ⟨v_39, e_v_39⟩ : ∃ q9 : Int32, q9 = x1 + Int32.ofInt 1 := ⟨_, rfl⟩
          obtain ⟨t_v_39, r_v_39⟩ := tq_add (lo := 1) (hi := 6) r_x1 (show RI (Int32.ofInt 1) 1 1 by unfold RI; decide +kernel) (by decide +kernel) e_v_39
          have t_v_39 : v_39.toInt = x1.toInt + 1 := t_v_39
          refine lv_iinc (v := v_39) (lv' := [(1, .int v_39), (0, .ref p0)]) hx hb dX10_oneDay_23 hl (k := 1) rfl e_v_39.symm (by decide) rfl (fun ls hl => ?_)
          refine lv_goto (tgt := 2) hx hb dX10_oneDay_26 (by decide) ?_
          exact ih2 v_39 ws _ _ ls (by have q0 := r_v_39.1; have u0 := r_v_39.2; have o0 := r_x1.1; have p0 := r_x1.2; omega) (r_v_39.to (by decide)) hw (lv_sub hl [1, 0] rfl)
  refine lv_iconst (v := 0) hx hb dX10_oneDay_0 (by decide) ?_
  refine lv_istore_n (lv' := [(1, .int 0), (0, .ref p0)]) hx hb dX10_oneDay_1 rfl hl (by decide) rfl (fun ls hl => ?_)
  exact B2 4294967298 0 w0 _ _ ls (by have q0 := rl_0.1; have u0 := rl_0.2; omega) (rl_0.to (by decide)) hw (lv_sub hl [1, 0] rfl)
abbrev wr_X10_least__1 : List (Nat × Nat) := []
abbrev wa_X10_least__1 : List Nat := []
set_option maxHeartbeats 4000000 in
set_option maxRecDepth 100000 in
theorem c_X10_least__1 (l : Launch) (D : va_G) (cy : Nat → ClassId) (z : Nat → Nat) (sz : Nat) (Ps : PSI) (w0 : va_W) (hT : HT cy GG Ps w0) (p0 : Int32) (p1 : Int32) (r_p0 : RI p0 (-2147483648) 2147483647) (r_p1 : RI p1 (-2147483648) 2147483647) : Met l yX10_least (Cond.code yX10_least cX10_least 2 (some .int) :: gT) ({ frames := 0, cells := 0, slots := 0, locals := 200 } : Room) (va_Pc [.int p0, .int p1] (PRE D cy z w0 sz)) (va_Qi (fun (r : Int32) (u : Unit) => RI r (-2147483648) 2147483647 ∧ (r = 0 → True) ∧ (¬ r = 0 → True)) (BB D cy (va_A w0 sz) (fun (u : Unit) => w0)) (va_A w0 sz)) 0 0 (va_A w0 sz) := by
  refine Met.ofW (cc := cX10_least) (maxL := 2) (ret := (some .int)) (by decide) rfl ?_
  intro p e s m args below meth c s₁ B hml hv
  obtain ⟨rfl, hsz, hP, hK, hD0, hSD⟩ := hv
  have hx := B.exec
  have hb := B.bytes
  have hr := B.returns
  have hlocks := B.notSynchronized
  have hts : ∀ w ∈ gT, w.before _ s = true := fun w h => atoms_spec (ws := Cond.code yX10_least cX10_least 2 (some .int) :: gT) B.pre w (List.mem_cons_of_mem _ h)
  have hown : s.vm.findClass RX10 = some m.cls := findClass_of_methodNamed B.named
  subst hsz
  have hD := hD0.self (sz := s.heap.size)
  generalize hAe : va_A w0 s.heap.size = A at hD hSD ⊢
  have hA : ∀ q : Nat, s.heap.size ≤ q → A q := fun q h => by rw [← hAe]; exact Or.inr h
  have hl := lv_entry ([.int p0, .int p1]) (n := 2) (Nat.le_of_ble_eq_true rfl)
  rw [lg_entry_eq]
  generalize (lg_sl ([.int p0, .int p1]) ++ List.replicate (2 - (lg_sl ([.int p0, .int p1])).length) Slot.unset).toArray = ls at hl ⊢
  have hl : lv_has ls 2 [(0, .int p0), (1, .int p1)] := hl
  refine nameQ (fun Q hQ => ?_)
  have hw : WD D cy GG A s wr_X10_least__1 wa_X10_least__1 Ps w0 Ps w0 s.heap [] := ⟨hT, hP, hD, va_S.rf, FR.rf, hT.1, [], (List.append_nil _).symm⟩
  refine lv_iload_n hx hb dX10_least_0 rfl (lv_at hl 0 rfl) ?_
  refine lv_iload_n hx hb dX10_least_1 rfl (lv_at hl 1 rfl) ?_
  refine lv_icmp_ge (tgt := 9) hx hb dX10_least_2 (by decide) (fun c_2 => ?_) (fun c_2 => ?_)
  · refine lv_iload_n hx hb dX10_least_9 rfl (lv_at hl 1 rfl) ?_
    subst hQ
    exact W.iret (v := p1) hx hb hr (fun t ht hW => ⟨⟨p1, (), rfl, ⟨r_p1.to (by decide), (fun h0 => trivial), (fun h0 => trivial)⟩, by rw [ht]; exact hw.2.1, va_K.moved hW.alike hK, hw.2.2.1⟩, hw.2.2.2.1.F ht⟩) hw.2.2.2.1.2.2 dX10_least_10
  · have r_p0 : RI p0 (-2147483648) 2147483646 := rc_lt1 r_p0 r_p1 (ti_nle c_2) (by decide)
    have r_p1 : RI p1 (-2147483647) 2147483647 := rc_lt2 r_p0 r_p1 (ti_nle c_2) (by decide)
    refine lv_iload_n hx hb dX10_least_5 rfl (lv_at hl 0 rfl) ?_
    refine lv_goto (tgt := 10) hx hb dX10_least_6 (by decide) ?_
    subst hQ
    exact W.iret (v := p0) hx hb hr (fun t ht hW => ⟨⟨p0, (), rfl, ⟨r_p0.to (by decide), (fun h0 => trivial), (fun h0 => trivial)⟩, by rw [ht]; exact hw.2.1, va_K.moved hW.alike hK, hw.2.2.1⟩, hw.2.2.2.1.F ht⟩) hw.2.2.2.1.2.2 dX10_least_10
abbrev wr_X10_passDays : List (Nat × Nat) := []
abbrev wa_X10_passDays : List Nat := [34, 46]
set_option maxHeartbeats 4000000 in
set_option maxRecDepth 100000 in
theorem c_X10_passDays (l : Launch) (D : va_G) (cy : Nat → ClassId) (z : Nat → Nat) (sz : Nat) (Ps : PSI) (w0 : va_W) (hT : HT cy GG Ps w0) (p0 : Nat) (p1 : Int32) (h_p0 : (p0, 55) ∈ Ps) (r_p1 : RI p1 (-2147483648) 2147483647) : Met l yX10_passDays (Cond.code yX10_passDays cX10_passDays 4 (some .int) :: gT) ({ frames := 5, cells := 0, slots := 0, locals := 1000 } : Room) (va_Pc [.ref p0, .int p1] (PRE D cy z w0 sz)) (va_Qi (fun (r : Int32) (u : va_W) => (RI r (-2147483648) 2147483647 ∧ (r = 0 → True) ∧ (¬ r = 0 → True)) ∧ HT cy GG Ps u ∧ FR wr_X10_passDays wa_X10_passDays Ps w0 u) (BB D cy (va_A w0 sz) (fun (u : va_W) => u)) (va_A w0 sz)) 0 0 (va_A w0 sz) := by
  refine Met.ofW (cc := cX10_passDays) (maxL := 4) (ret := (some .int)) (by decide) rfl ?_
  intro p e s m args below meth c s₁ B hml hv
  obtain ⟨rfl, hsz, hP, hK, hD0, hSD⟩ := hv
  have hx := B.exec
  have hb := B.bytes
  have hr := B.returns
  have hlocks := B.notSynchronized
  have hts : ∀ w ∈ gT, w.before _ s = true := fun w h => atoms_spec (ws := Cond.code yX10_passDays cX10_passDays 4 (some .int) :: gT) B.pre w (List.mem_cons_of_mem _ h)
  have hown : s.vm.findClass RX10 = some m.cls := findClass_of_methodNamed B.named
  subst hsz
  have hD := hD0.self (sz := s.heap.size)
  generalize hAe : va_A w0 s.heap.size = A at hD hSD ⊢
  have hA : ∀ q : Nat, s.heap.size ≤ q → A q := fun q h => by rw [← hAe]; exact Or.inr h
  have hl := lv_entry ([.ref p0, .int p1]) (n := 4) (Nat.le_of_ble_eq_true rfl)
  rw [lg_entry_eq]
  generalize (lg_sl ([.ref p0, .int p1]) ++ List.replicate (4 - (lg_sl ([.ref p0, .int p1])).length) Slot.unset).toArray = ls at hl ⊢
  have hl : lv_has ls 4 [(0, .ref p0), (1, .int p1)] := hl
  refine nameQ (fun Q hQ => ?_)
  have hw : WD D cy GG A s wr_X10_passDays wa_X10_passDays Ps w0 Ps w0 s.heap [] := ⟨hT, hP, hD, va_S.rf, FR.rf, hT.1, [], (List.append_nil _).symm⟩
  have B18 : ∀ (nf : Nat) (x2 : Int32) (x3 : Int32) (ws : va_W) (H : Heap) (locs : List Loc) (ls : Array Slot), 2147483647 - x3.toInt < (nf : Int) → RI p1 (-2147483648) 2147483647 → RI x2 (-2147483648) 2147483647 → RI x3 0 2147483647 → WD D cy GG A s wr_X10_passDays wa_X10_passDays Ps w0 Ps ws H locs → lv_has ls 4 [(0, .ref p0), (1, .int p1), (2, .int x2), (3, .int x3)] → W p l e (headSpec (Cond.code yX10_passDays cX10_passDays 4 (some .int) :: gT) ({ frames := 5, cells := 0, slots := 0, locals := 1000 } : Room)).room s m ([.ref p0, .int p1] : List Value).toArray below meth c H locs 0 0 Q (F0 m 18 ls []) := by
    intro nf18
    induction nf18 with
    | zero =>
      intro x2 x3 ws H locs ls hn18 r_p1 r_x2 r_x3 hw hl
      exact absurd hn18 (by have q0 := r_x3.1; have u0 := r_x3.2; omega)
    | succ nf18 ih18 =>
      intro x2 x3 ws H locs ls hn18 r_p1 r_x2 r_x3 hw hl
      refine lv_iload_n hx hb dX10_passDays_18 rfl (lv_at hl 3 rfl) ?_
      refine lv_iload_n hx hb dX10_passDays_19 rfl (lv_at hl 2 rfl) ?_
      refine lv_icmp_ge (tgt := 33) hx hb dX10_passDays_20 (by decide) (fun c_20 => ?_) (fun c_20 => ?_)
      · refine lv_iload_n hx hb dX10_passDays_33 rfl (lv_at hl 2 rfl) ?_
        subst hQ
        exact W.iret (v := x2) hx hb hr (fun t ht hW => ⟨⟨x2, ws, rfl, ⟨⟨r_x2.to (by decide), (fun h0 => trivial), (fun h0 => trivial)⟩, hw.1, hw.2.2.2.2.1⟩, by rw [ht]; exact hw.2.1, va_K.moved hW.alike hK, hw.2.2.1⟩, hw.2.2.2.1.F ht⟩) hw.2.2.2.1.2.2 dX10_passDays_34
      · have r_x3 : RI x3 0 2147483646 := rc_lt1 r_x3 r_x2 (ti_nle c_20) (by decide)
        have r_x2 : RI x2 1 2147483647 := rc_lt2 r_x3 r_x2 (ti_nle c_20) (by decide)
        refine lv_aload_n hx hb dX10_passDays_23 rfl (lv_at hl 0 rfl) ?_
        refine tk_v (va_runV (As := []) (rest := []) ⟨hx, hb, hml, hown, hts⟩ (c_X10_oneDay l D cy z H.size Ps ws hw.1 p0 h_p0) (cwV 0 hts (gV tw_1564 tw_1566 ts_85 tw_15 tw_1567) rfl rfl rfl (by decide +kernel) ⟨Nat.le_of_ble_eq_true rfl, Nat.le_of_ble_eq_true rfl⟩) (tg_preV hw hK hSD hA (ci := 10) (q := (RX10, TX10, 49)) rfl h_p0 rfl) rfl rfl hl.1 rfl (lv_room (Nat.le_of_ble_eq_true rfl)) dX10_passDays_24 ⟨Nat.le_of_ble_eq_true rfl, Nat.le_of_ble_eq_true rfl⟩) hw hA ⟨by decide, by decide⟩ (fun ws H locs hp_v_1 hw hF9 => ?_)
        obtain ⟨v_2, e_v_2⟩ : ∃ q9 : Int32, q9 = x3 + Int32.ofInt 1 := ⟨_, rfl⟩
        obtain ⟨t_v_2, r_v_2⟩ := tq_add (lo := 1) (hi := 2147483647) r_x3 (show RI (Int32.ofInt 1) 1 1 by unfold RI; decide +kernel) (by decide +kernel) e_v_2
        have t_v_2 : v_2.toInt = x3.toInt + 1 := t_v_2
        refine lv_iinc (v := v_2) (lv' := [(3, .int v_2), (0, .ref p0), (1, .int p1), (2, .int x2)]) hx hb dX10_passDays_27 hl (k := 3) rfl e_v_2.symm (by decide) rfl (fun ls hl => ?_)
        refine lv_goto (tgt := 18) hx hb dX10_passDays_30 (by decide) ?_
        exact ih18 x2 v_2 ws _ _ ls (by have q0 := r_v_2.1; have u0 := r_v_2.2; have o0 := r_x3.1; have p0 := r_x3.2; omega) r_p1 (r_x2.to (by decide)) (r_v_2.to (by decide)) hw (lv_sub hl [1, 2, 3, 0] rfl)
  refine lv_iload_n hx hb dX10_passDays_0 rfl (lv_at hl 1 rfl) ?_
  refine lv_sipush (v := 400) hx hb dX10_passDays_1 (by decide) ?_
  refine lv_aload_n hx hb dX10_passDays_4 rfl (lv_at hl 0 rfl) ?_
  refine tg_get (ci := 10) (ts := ty_MODEL) (C := RX10) (T := TX10) (N := 49) hx hb hts inX10 hown hK hw h_p0 rfl rfl 14 (by decide) (hts _ tw_1151) (fun _ h9 => h9) (ft := vR 34) rfl dX10_passDays_5 (fun u_3 hv_u_3 m_u_3 => ?_)
  obtain ⟨vu_3, rfl, h_vu_3⟩ := hv_u_3
  refine lv_bipush (v := 84) hx hb dX10_passDays_8 (by decide) ?_
  refine tg_iald (lo := (-2147483648)) (hi := 2147483647) hx hb hK hw h_vu_3 rfl 84 84 rl_84 (by decide) (by decide +kernel) dX10_passDays_10 (fun v_4 r_v_4 m_v_4 o_v_4 => ?_)
  refine lv_isub hx hb dX10_passDays_11 (lv_topi (fun v_5 e_v_5 => ?_))
  have r_v_5 := ri_any v_5
  refine tk_ir (va_runS (As := [.int p1, .int v_5]) (rest := []) ⟨hx, hb, hml, hown, hts⟩ (c_X10_least__1 l D cy z s.heap.size Ps w0 hw.1 p1 v_5 r_p1 r_v_5) (va_cwS 2 hts (gS tw_1525 tw_1526 tw_15 tw_1527) rfl rfl rfl (by decide +kernel) ⟨Nat.le_of_ble_eq_true rfl, Nat.le_of_ble_eq_true rfl⟩) (tg_preS hw hK hSD hA) rfl rfl hl.1 rfl (lv_room (Nat.le_of_ble_eq_true rfl)) dX10_passDays_12 ⟨Nat.le_of_ble_eq_true rfl, Nat.le_of_ble_eq_true rfl⟩) hw hA (fun v_6  H locs hp_v_6 hw => ?_)
  have r_v_6 : RI v_6 (-2147483648) 2147483647 := hp_v_6.1
  refine lv_istore_n (lv' := [(2, .int v_6), (0, .ref p0), (1, .int p1)]) hx hb dX10_passDays_15 rfl hl (by decide) rfl (fun ls hl => ?_)
  refine lv_iconst (v := 0) hx hb dX10_passDays_16 (by decide) ?_
  refine lv_istore_n (lv' := [(3, .int 0), (2, .int v_6), (0, .ref p0), (1, .int p1)]) hx hb dX10_passDays_17 rfl hl (by decide) rfl (fun ls hl => ?_)
  exact B18 4294967298 v_6 0 w0 _ _ ls (by have q0 := rl_0.1; have u0 := rl_0.2; omega) r_p1 r_v_6 (rl_0.to (by decide)) hw (lv_sub hl [2, 3, 1, 0] rfl)
abbrev wr_X10_days : List (Nat × Nat) := [(10, 0), (10, 25)]
abbrev wa_X10_days : List Nat := [34, 37, 46]
set_option maxHeartbeats 4000000 in
set_option maxRecDepth 100000 in
theorem c_X10_days (l : Launch) (D : va_G) (cy : Nat → ClassId) (z : Nat → Nat) (sz : Nat) (Ps : PSI) (w0 : va_W) (hT : HT cy GG Ps w0) (p0 : Nat) (p1 : Int32) (h_p0 : (p0, 55) ∈ Ps) (r_p1 : RI p1 (-2147483648) 2147483647) : Met l yX10_days (Cond.code yX10_days cX10_days 2 (some .int) :: gT) ({ frames := 6, cells := 0, slots := 0, locals := 1200 } : Room) (va_Pc [.ref p0, .int p1] (PRE D cy z w0 sz)) (va_Qi (fun (r : Int32) (u : va_W) => (RI r (-2147483648) 2147483647 ∧ (r = 0 → True) ∧ (¬ r = 0 → True)) ∧ HT cy GG Ps u ∧ FR wr_X10_days wa_X10_days Ps w0 u) (BB D cy (va_A w0 sz) (fun (u : va_W) => u)) (va_A w0 sz)) 0 0 (va_A w0 sz) := by
  refine Met.ofW (cc := cX10_days) (maxL := 2) (ret := (some .int)) (by decide) rfl ?_
  intro p e s m args below meth c s₁ B hml hv
  obtain ⟨rfl, hsz, hP, hK, hD0, hSD⟩ := hv
  have hx := B.exec
  have hb := B.bytes
  have hr := B.returns
  have hlocks := B.notSynchronized
  have hts : ∀ w ∈ gT, w.before _ s = true := fun w h => atoms_spec (ws := Cond.code yX10_days cX10_days 2 (some .int) :: gT) B.pre w (List.mem_cons_of_mem _ h)
  have hown : s.vm.findClass RX10 = some m.cls := findClass_of_methodNamed B.named
  subst hsz
  have hD := hD0.self (sz := s.heap.size)
  generalize hAe : va_A w0 s.heap.size = A at hD hSD ⊢
  have hA : ∀ q : Nat, s.heap.size ≤ q → A q := fun q h => by rw [← hAe]; exact Or.inr h
  have hl := lv_entry ([.ref p0, .int p1]) (n := 2) (Nat.le_of_ble_eq_true rfl)
  rw [lg_entry_eq]
  generalize (lg_sl ([.ref p0, .int p1]) ++ List.replicate (2 - (lg_sl ([.ref p0, .int p1])).length) Slot.unset).toArray = ls at hl ⊢
  have hl : lv_has ls 2 [(0, .ref p0), (1, .int p1)] := hl
  refine nameQ (fun Q hQ => ?_)
  have hw : WD D cy GG A s wr_X10_days wa_X10_days Ps w0 Ps w0 s.heap [] := ⟨hT, hP, hD, va_S.rf, FR.rf, hT.1, [], (List.append_nil _).symm⟩
  refine lv_aload_n hx hb dX10_days_0 rfl (lv_at hl 0 rfl) ?_
  refine lv_iconst (v := 0) hx hb dX10_days_1 (by decide) ?_
  refine tg_put (ci := 10) (ts := ty_MODEL) (v := .int 0) (ty := .int) (C := RX10) (T := TX10) (N := 49) hx hb hts inX10 tyX10 tyX10_ok nmX10 hown hK hw h_p0 rfl rfl 0 (by decide) (hts _ tw_1137) (fun _ h9 => h9) rfl (by decide +kernel) rfl rfl (ft := vI (-2147483648) 2147483647) rfl ⟨_, rfl, (rl_0.to (by decide))⟩ (by decide) dX10_days_2 (fun ws H locs hw n_k_1 hF9 => ?_)
  refine lv_iload_n hx hb dX10_days_5 rfl (lv_at hl 1 rfl) ?_
  refine lv_iconst (v := 1) hx hb dX10_days_6 (by decide) ?_
  refine lv_bipush (v := 60) hx hb dX10_days_7 (by decide) ?_
  refine tk_ir (va_runS (As := [.int p1, .int 1, .int 60]) (rest := []) ⟨hx, hb, hml, hown, hts⟩ (c_X10_isIn__3 l D cy z H.size Ps ws hw.1 p1 1 60 r_p1 rl_1 rl_60) (va_cwS 3 hts (gS tw_1359 tw_1360 tw_15 tw_1361) rfl rfl rfl (by decide +kernel) ⟨Nat.le_of_ble_eq_true rfl, Nat.le_of_ble_eq_true rfl⟩) (tg_preS hw hK hSD hA) rfl rfl hl.1 rfl (lv_room (Nat.le_of_ble_eq_true rfl)) dX10_days_9 ⟨Nat.le_of_ble_eq_true rfl, Nat.le_of_ble_eq_true rfl⟩) hw hA (fun v_2  H locs hp_v_2 hw => ?_)
  have r_v_2 : RI v_2 0 1 := hp_v_2.1
  refine lv_if_ne (tgt := 17) hx hb dX10_days_12 (by decide) (fun c_12 => ?_) (fun c_12 => ?_)
  · have r_v_2 : RI v_2 1 1 := rc_neL r_v_2 rl_0 (ti_ne c_12) (by decide)
    have r_p1 : RI p1 1 60 := ((hp_v_2.2.2 c_12).1)
    refine lv_aload_n hx hb dX10_days_17 rfl (lv_at hl 0 rfl) ?_
    refine tg_get (ci := 10) (ts := ty_MODEL) (C := RX10) (T := TX10) (N := 49) hx hb hts inX10 hown hK hw h_p0 rfl rfl 14 (by decide) (hts _ tw_1151) (fun _ h9 => h9) (ft := vR 34) rfl dX10_days_18 (fun u_3 hv_u_3 m_u_3 => ?_)
    obtain ⟨vu_3, rfl, h_vu_3⟩ := hv_u_3
    refine lv_bipush (v := 84) hx hb dX10_days_21 (by decide) ?_
    refine tg_iald (lo := (-2147483648)) (hi := 2147483647) hx hb hK hw h_vu_3 rfl 84 84 rl_84 (by decide) (by decide +kernel) dX10_days_23 (fun v_4 r_v_4 m_v_4 o_v_4 => ?_)
    refine lv_sipush (v := 400) hx hb dX10_days_24 (by decide) ?_
    refine lv_icmp_ne (tgt := 32) hx hb dX10_days_27 (by decide) (fun c_27 => ?_) (fun c_27 => ?_)
    · refine lv_aload_n hx hb dX10_days_32 rfl (lv_at hl 0 rfl) ?_
      refine tk_v (va_runV (As := []) (rest := []) ⟨hx, hb, hml, hown, hts⟩ (c_X10_snap l D cy z H.size Ps ws hw.1 p0 h_p0) (cwV 0 hts (gV tw_1505 tw_1507 ts_78 tw_15 tw_1508) rfl rfl rfl (by decide +kernel) ⟨Nat.le_of_ble_eq_true rfl, Nat.le_of_ble_eq_true rfl⟩) (tg_preV hw hK hSD hA (ci := 10) (q := (RX10, TX10, 49)) rfl h_p0 rfl) rfl rfl hl.1 rfl (lv_room (Nat.le_of_ble_eq_true rfl)) dX10_days_33 ⟨Nat.le_of_ble_eq_true rfl, Nat.le_of_ble_eq_true rfl⟩) hw hA ⟨by decide, by decide⟩ (fun ws H locs hp_v_5 hw hF9 => ?_)
      have n_k_1 := FLD.over hF9 n_k_1 (by decide)
      obtain ⟨v_6, m_v_6, r_v_6⟩ := (hp_v_5.1)
      refine lv_aload_n hx hb dX10_days_36 rfl (lv_at hl 0 rfl) ?_
      refine lv_iload_n hx hb dX10_days_37 rfl (lv_at hl 1 rfl) ?_
      refine tk_i (va_runV (As := [.int p1]) (rest := []) ⟨hx, hb, hml, hown, hts⟩ (c_X10_passDays l D cy z H.size Ps ws hw.1 p0 p1 h_p0 (r_p1.to (by decide))) (cwV 1 hts (gV tw_1560 tw_1562 ts_84 tw_15 tw_1563) rfl rfl rfl (by decide +kernel) ⟨Nat.le_of_ble_eq_true rfl, Nat.le_of_ble_eq_true rfl⟩) (tg_preV hw hK hSD hA (ci := 10) (q := (RX10, TX10, 49)) rfl h_p0 rfl) rfl rfl hl.1 rfl (lv_room (Nat.le_of_ble_eq_true rfl)) dX10_days_38 ⟨Nat.le_of_ble_eq_true rfl, Nat.le_of_ble_eq_true rfl⟩) hw hA ⟨by decide, by decide⟩ (fun v_7 ws H locs hp_v_7 hw hF9 => ?_)
      have n_k_1 := FLD.over hF9 n_k_1 (by decide)
      have m_v_6 := FLD.over hF9 m_v_6 (by decide)
      have r_v_7 : RI v_7 (-2147483648) 2147483647 := hp_v_7.1
      subst hQ
      exact W.iret (v := v_7) hx hb hr (fun t ht hW => ⟨⟨v_7, ws, rfl, ⟨⟨r_v_7.to (by decide), (fun h0 => trivial), (fun h0 => trivial)⟩, hw.1, hw.2.2.2.2.1⟩, by rw [ht]; exact hw.2.1, va_K.moved hW.alike hK, hw.2.2.1⟩, hw.2.2.2.1.F ht⟩) hw.2.2.2.1.2.2 dX10_days_41
    · have r_v_4 : RI v_4 400 400 := rc_eq1 r_v_4 rl_400 (ti_eq c_27) (by decide)
      refine lv_iconst (v := 0) hx hb dX10_days_30 (by decide) ?_
      subst hQ
      exact W.iret (v := 0) hx hb hr (fun t ht hW => ⟨⟨0, ws, rfl, ⟨⟨rl_0.to (by decide), (fun h0 => trivial), (fun _ => trivial)⟩, hw.1, hw.2.2.2.2.1⟩, by rw [ht]; exact hw.2.1, va_K.moved hW.alike hK, hw.2.2.1⟩, hw.2.2.2.1.F ht⟩) hw.2.2.2.1.2.2 dX10_days_31
  · have r_v_2 : RI v_2 0 0 := rc_eq1 r_v_2 rl_0 (ti_eq c_12) (by decide)
    refine lv_iconst (v := (-1)) hx hb dX10_days_15 (by decide) ?_
    subst hQ
    exact W.iret (v := (-1)) hx hb hr (fun t ht hW => ⟨⟨(-1), ws, rfl, ⟨⟨rl_m1.to (by decide), (fun _ => trivial), (fun h0 => trivial)⟩, hw.1, hw.2.2.2.2.1⟩, by rw [ht]; exact hw.2.1, va_K.moved hW.alike hK, hw.2.2.1⟩, hw.2.2.2.1.F ht⟩) hw.2.2.2.1.2.2 dX10_days_16
abbrev wr_X10_less : List (Nat × Nat) := []
abbrev wa_X10_less : List Nat := [34]
set_option maxHeartbeats 4000000 in
set_option maxRecDepth 100000 in
theorem c_X10_less (l : Launch) (D : va_G) (cy : Nat → ClassId) (z : Nat → Nat) (sz : Nat) (Ps : PSI) (w0 : va_W) (hT : HT cy GG Ps w0) (p0 : Nat) (p1 : Int32) (p2 : Int32) (h_p0 : (p0, 55) ∈ Ps) (r_p1 : RI p1 0 5) (r_p2 : RI p2 0 5) : Met l yX10_less (Cond.code yX10_less cX10_less 3 none :: gT) ({ frames := 2, cells := 0, slots := 0, locals := 400 } : Room) (va_Pc [.ref p0, .int p1, .int p2] (PRE D cy z w0 sz)) (va_Qv (fun (u : va_W) => (True) ∧ HT cy GG Ps u ∧ FR wr_X10_less wa_X10_less Ps w0 u) (BB D cy (va_A w0 sz) (fun (u : va_W) => u)) (va_A w0 sz)) 0 0 (va_A w0 sz) := by
  refine Met.ofW (cc := cX10_less) (maxL := 3) (ret := none) (by decide) rfl ?_
  intro p e s m args below meth c s₁ B hml hv
  obtain ⟨rfl, hsz, hP, hK, hD0, hSD⟩ := hv
  have hx := B.exec
  have hb := B.bytes
  have hr := B.returns
  have hlocks := B.notSynchronized
  have hts : ∀ w ∈ gT, w.before _ s = true := fun w h => atoms_spec (ws := Cond.code yX10_less cX10_less 3 none :: gT) B.pre w (List.mem_cons_of_mem _ h)
  have hown : s.vm.findClass RX10 = some m.cls := findClass_of_methodNamed B.named
  subst hsz
  have hD := hD0.self (sz := s.heap.size)
  generalize hAe : va_A w0 s.heap.size = A at hD hSD ⊢
  have hA : ∀ q : Nat, s.heap.size ≤ q → A q := fun q h => by rw [← hAe]; exact Or.inr h
  have hl := lv_entry ([.ref p0, .int p1, .int p2]) (n := 3) (Nat.le_of_ble_eq_true rfl)
  rw [lg_entry_eq]
  generalize (lg_sl ([.ref p0, .int p1, .int p2]) ++ List.replicate (3 - (lg_sl ([.ref p0, .int p1, .int p2])).length) Slot.unset).toArray = ls at hl ⊢
  have hl : lv_has ls 3 [(0, .ref p0), (1, .int p1), (2, .int p2)] := hl
  refine nameQ (fun Q hQ => ?_)
  have hw : WD D cy GG A s wr_X10_less wa_X10_less Ps w0 Ps w0 s.heap [] := ⟨hT, hP, hD, va_S.rf, FR.rf, hT.1, [], (List.append_nil _).symm⟩
  have B46 : ∀ (y0 : Int32) (y1 : Int32) (y2 : Nat) (ws : va_W) (H : Heap) (locs : List Loc) (ls : Array Slot), RI p1 0 5 → RI p2 0 5 → RI y0 (-2147483648) 2147483647 → RI y1 136 171 → (y2, 34) ∈ Ps → WD D cy GG A s wr_X10_less wa_X10_less Ps w0 Ps ws H locs → lv_has ls 3 [(0, .ref p0), (1, .int p1), (2, .int p2)] → W p l e (headSpec (Cond.code yX10_less cX10_less 3 none :: gT) ({ frames := 2, cells := 0, slots := 0, locals := 400 } : Room)).room s m ([.ref p0, .int p1, .int p2] : List Value).toArray below meth c H locs 0 0 Q (F0 m 46 ls [.int y0, .int y1, .ref y2]) := by
    intro y0 y1 y2 ws H locs ls r_p1 r_p2 r_y0 r_y1 h_y2 hw hl
    refine tg_iast hx hb hK hw h_y2 rfl 136 171 r_y1 (by decide) r_y0 (by decide +kernel) (RN_upd (by decide) (by decide)) (by decide) dX10_less_46 (fun ws H locs hw hF9 hU9 => ?_)
    subst hQ
    exact W.vret hx hb hr (fun t ht hW => ⟨⟨ws, rfl, ⟨trivial, hw.1, hw.2.2.2.2.1⟩, by rw [ht]; exact hw.2.1, va_K.moved hW.alike hK, hw.2.2.1⟩, hw.2.2.2.1.F ht⟩) hw.2.2.2.1.2.2 dX10_less_47
  refine lv_aload_n hx hb dX10_less_0 rfl (lv_at hl 0 rfl) ?_
  refine tg_get (ci := 10) (ts := ty_MODEL) (C := RX10) (T := TX10) (N := 49) hx hb hts inX10 hown hK hw h_p0 rfl rfl 14 (by decide) (hts _ tw_1151) (fun _ h9 => h9) (ft := vR 34) rfl dX10_less_1 (fun u_1 hv_u_1 m_u_1 => ?_)
  obtain ⟨vu_1, rfl, h_vu_1⟩ := hv_u_1
  refine lv_sipush (v := 136) hx hb dX10_less_4 (by decide) ?_
  refine lv_bipush (v := 6) hx hb dX10_less_7 (by decide) ?_
  refine lv_iload_n hx hb dX10_less_9 rfl (lv_at hl 1 rfl) ?_
  refine lv_imul hx hb dX10_less_10 (lv_topi (fun v_2 e_v_2 => ?_))
  obtain ⟨t_v_2, r_v_2⟩ := tq_mul (lo := 0) (hi := 30) rl_6 r_p1 (by decide +kernel) e_v_2
  have t_v_2 : v_2.toInt = 6 * p1.toInt := t_v_2
  refine lv_iadd hx hb dX10_less_11 (lv_topi (fun v_3 e_v_3 => ?_))
  obtain ⟨t_v_3, r_v_3⟩ := tq_add (lo := 136) (hi := 166) rl_136 r_v_2 (by decide +kernel) e_v_3
  have t_v_3 : v_3.toInt = 136 + v_2.toInt := t_v_3
  refine lv_iload_n hx hb dX10_less_12 rfl (lv_at hl 2 rfl) ?_
  refine lv_iadd hx hb dX10_less_13 (lv_topi (fun v_4 e_v_4 => ?_))
  obtain ⟨t_v_4, r_v_4⟩ := tq_add (lo := 136) (hi := 171) r_v_3 r_p2 (by decide +kernel) e_v_4
  refine lv_aload_n hx hb dX10_less_14 rfl (lv_at hl 0 rfl) ?_
  refine lv_iload_n hx hb dX10_less_15 rfl (lv_at hl 1 rfl) ?_
  refine lv_iload_n hx hb dX10_less_16 rfl (lv_at hl 2 rfl) ?_
  refine tk_ir (va_runV (As := [.int p1, .int p2]) (rest := [.int v_4, .ref vu_1]) ⟨hx, hb, hml, hown, hts⟩ (c_X10_muchOf l D cy z s.heap.size Ps w0 hw.1 p0 p1 p2 h_p0 r_p1 r_p2) (cwV 2 hts (gV tw_1437 tw_1439 ts_67 tw_15 tw_1440) rfl rfl rfl (by decide +kernel) ⟨Nat.le_of_ble_eq_true rfl, Nat.le_of_ble_eq_true rfl⟩) (tg_preV hw hK hSD hA (ci := 10) (q := (RX10, TX10, 49)) rfl h_p0 rfl) rfl rfl hl.1 rfl (lv_room (Nat.le_of_ble_eq_true rfl)) dX10_less_17 ⟨Nat.le_of_ble_eq_true rfl, Nat.le_of_ble_eq_true rfl⟩) hw hA (fun v_5  H locs hp_v_5 hw => ?_)
  have r_v_5 : RI v_5 (-2147483648) 2147483647 := hp_v_5.1
  have x_MUCH_p0_p1_p2_v_5 := hp_v_5.2.2.2.1.1
  refine lv_aload_n hx hb dX10_less_20 rfl (lv_at hl 0 rfl) ?_
  refine tg_mem (ci := 10) (C := RX10) (T := TX10) (N := 49) hx hb hts inX10 hown hK hw 14 m_u_1 rfl (by decide) (hts _ tw_1151) (fun _ h9 => h9) dX10_less_21 ?_
  refine lv_iconst (v := 5) hx hb dX10_less_24 (by decide) ?_
  refine tg_iald (lo := (-2147483648)) (hi := 2147483647) hx hb hK hw h_vu_1 rfl 5 5 rl_5 (by decide) (by decide +kernel) dX10_less_25 (fun v_6 r_v_6 m_v_6 o_v_6 => ?_)
  refine lv_icmp_ge (tgt := 33) hx hb dX10_less_26 (by decide) (fun c_26 => ?_) (fun c_26 => ?_)
  · refine lv_aload_n hx hb dX10_less_33 rfl (lv_at hl 0 rfl) ?_
    refine lv_iload_n hx hb dX10_less_34 rfl (lv_at hl 1 rfl) ?_
    refine lv_iload_n hx hb dX10_less_35 rfl (lv_at hl 2 rfl) ?_
    refine tk_ir (va_runV (As := [.int p1, .int p2]) (rest := [.int v_4, .ref vu_1]) ⟨hx, hb, hml, hown, hts⟩ (c_X10_muchOf l D cy z H.size Ps w0 hw.1 p0 p1 p2 h_p0 r_p1 r_p2) (cwV 2 hts (gV tw_1437 tw_1439 ts_67 tw_15 tw_1440) rfl rfl rfl (by decide +kernel) ⟨Nat.le_of_ble_eq_true rfl, Nat.le_of_ble_eq_true rfl⟩) (tg_preV hw hK hSD hA (ci := 10) (q := (RX10, TX10, 49)) rfl h_p0 rfl) rfl rfl hl.1 rfl (lv_room (Nat.le_of_ble_eq_true rfl)) dX10_less_36 ⟨Nat.le_of_ble_eq_true rfl, Nat.le_of_ble_eq_true rfl⟩) hw hA (fun v_7  H locs hp_v_7 hw => ?_)
    have r_v_7 : RI v_7 (-2147483648) 2147483647 := hp_v_7.1
    have x_MUCH_p0_p1_p2_v_7 := hp_v_7.2.2.2.1.1
    refine lv_aload_n hx hb dX10_less_39 rfl (lv_at hl 0 rfl) ?_
    refine tg_mem (ci := 10) (C := RX10) (T := TX10) (N := 49) hx hb hts inX10 hown hK hw 14 m_u_1 rfl (by decide) (hts _ tw_1151) (fun _ h9 => h9) dX10_less_40 ?_
    refine lv_iconst (v := 5) hx hb dX10_less_43 (by decide) ?_
    refine tg_imem hx hb hK hw h_vu_1 rfl rl_5 (by decide) m_v_6 dX10_less_44 ?_
    refine lv_isub hx hb dX10_less_45 (lv_topi (fun v_9 e_v_9 => ?_))
    have r_v_9 := ri_any v_9
    exact B46 v_9 v_4 vu_1 w0 _ _ ls r_p1 r_p2 r_v_9 r_v_4 h_vu_1 hw hl
  · have r_v_5 : RI v_5 (-2147483648) 2147483646 := rc_lt1 r_v_5 r_v_6 (ti_nle c_26) (by decide)
    have r_v_6 : RI v_6 (-2147483647) 2147483647 := rc_lt2 r_v_5 r_v_6 (ti_nle c_26) (by decide)
    refine lv_iconst (v := 0) hx hb dX10_less_29 (by decide) ?_
    refine lv_goto (tgt := 46) hx hb dX10_less_30 (by decide) ?_
    exact B46 0 v_4 vu_1 w0 _ _ ls r_p1 r_p2 (rl_0.to (by decide)) r_v_4 h_vu_1 hw hl
abbrev wr_X10_doGuess : List (Nat × Nat) := []
abbrev wa_X10_doGuess : List Nat := [34]
set_option maxHeartbeats 4000000 in
set_option maxRecDepth 100000 in
theorem c_X10_doGuess (l : Launch) (D : va_G) (cy : Nat → ClassId) (z : Nat → Nat) (sz : Nat) (Ps : PSI) (w0 : va_W) (hT : HT cy GG Ps w0) (p0 : Nat) (p1 : Int32) (p2 : Int32) (h_p0 : (p0, 55) ∈ Ps) (r_p1 : RI p1 0 7) (r_p2 : RI p2 0 5) (x_SITOK_p0_p1 : AX 14 34 (fun f => 0 ≤ (f (112 + Int32.toNatClampNeg p1)).toInt) Ps w0 p0) : Met l yX10_doGuess (Cond.code yX10_doGuess cX10_doGuess 4 none :: gT) ({ frames := 3, cells := 0, slots := 0, locals := 600 } : Room) (va_Pc [.ref p0, .int p1, .int p2] (PRE D cy z w0 sz)) (va_Qv (fun (u : va_W) => (True) ∧ HT cy GG Ps u ∧ FR wr_X10_doGuess wa_X10_doGuess Ps w0 u) (BB D cy (va_A w0 sz) (fun (u : va_W) => u)) (va_A w0 sz)) 0 0 (va_A w0 sz) := by
  refine Met.ofW (cc := cX10_doGuess) (maxL := 4) (ret := none) (by decide) rfl ?_
  intro p e s m args below meth c s₁ B hml hv
  obtain ⟨rfl, hsz, hP, hK, hD0, hSD⟩ := hv
  have hx := B.exec
  have hb := B.bytes
  have hr := B.returns
  have hlocks := B.notSynchronized
  have hts : ∀ w ∈ gT, w.before _ s = true := fun w h => atoms_spec (ws := Cond.code yX10_doGuess cX10_doGuess 4 none :: gT) B.pre w (List.mem_cons_of_mem _ h)
  have hown : s.vm.findClass RX10 = some m.cls := findClass_of_methodNamed B.named
  subst hsz
  have hD := hD0.self (sz := s.heap.size)
  generalize hAe : va_A w0 s.heap.size = A at hD hSD ⊢
  have hA : ∀ q : Nat, s.heap.size ≤ q → A q := fun q h => by rw [← hAe]; exact Or.inr h
  have hl := lv_entry ([.ref p0, .int p1, .int p2]) (n := 4) (Nat.le_of_ble_eq_true rfl)
  rw [lg_entry_eq]
  generalize (lg_sl ([.ref p0, .int p1, .int p2]) ++ List.replicate (4 - (lg_sl ([.ref p0, .int p1, .int p2])).length) Slot.unset).toArray = ls at hl ⊢
  have hl : lv_has ls 4 [(0, .ref p0), (1, .int p1), (2, .int p2)] := hl
  refine nameQ (fun Q hQ => ?_)
  have hw : WD D cy GG A s wr_X10_doGuess wa_X10_doGuess Ps w0 Ps w0 s.heap [] := ⟨hT, hP, hD, va_S.rf, FR.rf, hT.1, [], (List.append_nil _).symm⟩
  refine lv_aload_n hx hb dX10_doGuess_0 rfl (lv_at hl 0 rfl) ?_
  refine tg_get (ci := 10) (ts := ty_MODEL) (C := RX10) (T := TX10) (N := 49) hx hb hts inX10 hown hK hw h_p0 rfl rfl 14 (by decide) (hts _ tw_1151) (fun _ h9 => h9) (ft := vR 34) rfl dX10_doGuess_1 (fun u_1 hv_u_1 m_u_1 => ?_)
  obtain ⟨vu_1, rfl, h_vu_1⟩ := hv_u_1
  refine lv_bipush (v := 112) hx hb dX10_doGuess_4 (by decide) ?_
  refine lv_iload_n hx hb dX10_doGuess_6 rfl (lv_at hl 1 rfl) ?_
  refine lv_iadd hx hb dX10_doGuess_7 (lv_topi (fun v_2 e_v_2 => ?_))
  obtain ⟨t_v_2, r_v_2⟩ := tq_add (lo := 112) (hi := 119) rl_112 r_p1 (by decide +kernel) e_v_2
  have t_v_2 : v_2.toInt = 112 + p1.toInt := t_v_2
  refine tg_iald (lo := (-1)) (hi := 5) hx hb hK hw h_vu_1 rfl 112 119 r_v_2 (by decide) (by decide +kernel) dX10_doGuess_8 (fun v_3 r_v_3 m_v_3 o_v_3 => ?_)
  have r_v_3 : RI v_3 0 5 := by obtain ⟨f9, h9, q9, g9⟩ := AX.use hw x_SITOK_p0_p1 h_vu_1 rfl m_u_1; have e9 := g9 _ _ m_v_3; have j9 : Int32.toNatClampNeg v_2 = 112 + Int32.toNatClampNeg p1 := (by have k1 := r_v_2.cl (by decide); have k2 := r_p1.cl (by decide); omega); rw [j9] at e9; rw [e9] at h9; exact ⟨h9, r_v_3.2⟩
  refine lv_istore_n (lv' := [(3, .int v_3), (0, .ref p0), (1, .int p1), (2, .int p2)]) hx hb dX10_doGuess_9 rfl hl (by decide) rfl (fun ls hl => ?_)
  refine lv_aload_n hx hb dX10_doGuess_10 rfl (lv_at hl 1 rfl) ?_
  refine lv_iload_n hx hb dX10_doGuess_11 rfl (lv_at hl 0 rfl) ?_
  refine tk_ir (va_runV (As := [.int v_3]) (rest := []) ⟨hx, hb, hml, hown, hts⟩ (c_X10_whatIs l D cy z s.heap.size Ps w0 hw.1 p0 v_3 h_p0 r_v_3) (cwV 1 hts (gV tw_1449 tw_1451 ts_69 tw_15 tw_1452) rfl rfl rfl (by decide +kernel) ⟨Nat.le_of_ble_eq_true rfl, Nat.le_of_ble_eq_true rfl⟩) (tg_preV hw hK hSD hA (ci := 10) (q := (RX10, TX10, 49)) rfl h_p0 rfl) rfl rfl hl.1 rfl (lv_room (Nat.le_of_ble_eq_true rfl)) dX10_doGuess_12 ⟨Nat.le_of_ble_eq_true rfl, Nat.le_of_ble_eq_true rfl⟩) hw hA (fun v_4  H locs hp_v_4 hw => ?_)
  have r_v_4 : RI v_4 (-1) 5 := hp_v_4.1
  by_cases c9_v_4 : v_4.toInt < 0
  · have r_v_4 : RI v_4 (-1) (-1) := by unfold RI at r_v_4 ⊢; omega
    have x_NB_p0_v_3 := (hp_v_4.2.2.2.2.1 (by omega)).1
    refine lv_iload_n hx hb dX10_doGuess_15 rfl (lv_at hl 3 rfl) ?_
    refine lv_icmp_ne (tgt := 39) hx hb dX10_doGuess_16 (by decide) (fun c_16 => ?_) (fun c_16 => ?_)
    · refine lv_aload_n hx hb dX10_doGuess_39 rfl (lv_at hl 1 rfl) ?_
      refine lv_iload_n hx hb dX10_doGuess_40 rfl (lv_at hl 0 rfl) ?_
      refine lv_iload_n hx hb dX10_doGuess_41 rfl (lv_at hl 3 rfl) ?_
      refine lv_iconst (v := 1) hx hb dX10_doGuess_42 (by decide) ?_
      refine tk_v (va_runV (As := [.int v_3, .int p2, .int 1]) (rest := []) ⟨hx, hb, hml, hown, hts⟩ (c_X10_adds l D cy z H.size Ps w0 hw.1 p0 v_3 p2 1 h_p0 r_v_3 r_p2 (rl_1.to (by decide))) (cwV 3 hts (gV tw_1521 tw_1523 ts_82 tw_15 tw_1524) rfl rfl rfl (by decide +kernel) ⟨Nat.le_of_ble_eq_true rfl, Nat.le_of_ble_eq_true rfl⟩) (tg_preV hw hK hSD hA (ci := 10) (q := (RX10, TX10, 49)) rfl h_p0 rfl) rfl rfl hl.1 rfl (lv_room (Nat.le_of_ble_eq_true rfl)) dX10_doGuess_43 ⟨Nat.le_of_ble_eq_true rfl, Nat.le_of_ble_eq_true rfl⟩) hw hA ⟨by decide, by decide⟩ (fun ws H locs hp_v_5 hw hF9 => ?_)
      refine lv_aload_n hx hb dX10_doGuess_46 rfl (lv_at hl 1 rfl) ?_
      refine tg_get (ci := 10) (ts := ty_MODEL) (C := RX10) (T := TX10) (N := 49) hx hb hts inX10 hown hK hw h_p0 rfl rfl 14 (by decide) (hts _ tw_1151) (fun _ h9 => h9) (ft := vR 34) rfl dX10_doGuess_47 (fun u_6 hv_u_6 m_u_6 => ?_)
      obtain ⟨vu_6, rfl, h_vu_6⟩ := hv_u_6
      refine lv_sipush (v := 128) hx hb dX10_doGuess_50 (by decide) ?_
      refine lv_iload_n hx hb dX10_doGuess_53 rfl (lv_at hl 2 rfl) ?_
      refine lv_iadd hx hb dX10_doGuess_54 (lv_topi (fun v_7 e_v_7 => ?_))
      obtain ⟨t_v_7, r_v_7⟩ := tq_add (lo := 128) (hi := 135) rl_128 r_p1 (by decide +kernel) e_v_7
      have t_v_7 : v_7.toInt = 128 + p1.toInt := t_v_7
      refine lv_dup2_11 hx hb dX10_doGuess_55 rfl rfl ?_
      refine tg_iald (lo := (-2147483648)) (hi := 2147483647) hx hb hK hw h_vu_6 rfl 128 135 r_v_7 (by decide) (by decide +kernel) dX10_doGuess_56 (fun v_8 r_v_8 m_v_8 o_v_8 => ?_)
      refine lv_iconst (v := 1) hx hb dX10_doGuess_57 (by decide) ?_
      refine lv_iadd hx hb dX10_doGuess_58 (lv_topi (fun v_9 e_v_9 => ?_))
      have r_v_9 := ri_any v_9
      refine tg_iast hx hb hK hw h_vu_6 rfl 128 135 r_v_7 (by decide) r_v_9 (by decide +kernel) (RN_upd (by decide) (by decide)) (by decide) dX10_doGuess_59 (fun ws H locs hw hF9 hU9 => ?_)
      subst hQ
      exact W.vret hx hb hr (fun t ht hW => ⟨⟨ws, rfl, ⟨trivial, hw.1, hw.2.2.2.2.1⟩, by rw [ht]; exact hw.2.1, va_K.moved hW.alike hK, hw.2.2.1⟩, hw.2.2.2.1.F ht⟩) hw.2.2.2.1.2.2 dX10_doGuess_60
    · have r_v_4 : RI v_4 0 (-1) := rc_eq1 r_v_4 r_p2 (ti_eq c_16) (by decide)
      have r_p2 : RI p2 0 (-1) := rc_eq2 r_v_4 r_p2 (ti_eq c_16) (by decide)
      exact (r_v_4.no (by decide)).elim
  · have r_v_4 : RI v_4 0 5 := by unfold RI at r_v_4 ⊢; omega
    have x_WB_p0_v_3_v_4 := (hp_v_4.2.2.2.2.2 (by omega)).1
    refine lv_iload_n hx hb dX10_doGuess_15 rfl (lv_at hl 3 rfl) ?_
    refine lv_icmp_ne (tgt := 39) hx hb dX10_doGuess_16 (by decide) (fun c_16 => ?_) (fun c_16 => ?_)
    · refine lv_aload_n hx hb dX10_doGuess_39 rfl (lv_at hl 1 rfl) ?_
      refine lv_iload_n hx hb dX10_doGuess_40 rfl (lv_at hl 0 rfl) ?_
      refine lv_iload_n hx hb dX10_doGuess_41 rfl (lv_at hl 3 rfl) ?_
      refine lv_iconst (v := 1) hx hb dX10_doGuess_42 (by decide) ?_
      refine tk_v (va_runV (As := [.int v_3, .int p2, .int 1]) (rest := []) ⟨hx, hb, hml, hown, hts⟩ (c_X10_adds l D cy z H.size Ps w0 hw.1 p0 v_3 p2 1 h_p0 r_v_3 r_p2 (rl_1.to (by decide))) (cwV 3 hts (gV tw_1521 tw_1523 ts_82 tw_15 tw_1524) rfl rfl rfl (by decide +kernel) ⟨Nat.le_of_ble_eq_true rfl, Nat.le_of_ble_eq_true rfl⟩) (tg_preV hw hK hSD hA (ci := 10) (q := (RX10, TX10, 49)) rfl h_p0 rfl) rfl rfl hl.1 rfl (lv_room (Nat.le_of_ble_eq_true rfl)) dX10_doGuess_43 ⟨Nat.le_of_ble_eq_true rfl, Nat.le_of_ble_eq_true rfl⟩) hw hA ⟨by decide, by decide⟩ (fun ws H locs hp_v_10 hw hF9 => ?_)
      refine lv_aload_n hx hb dX10_doGuess_46 rfl (lv_at hl 1 rfl) ?_
      refine tg_get (ci := 10) (ts := ty_MODEL) (C := RX10) (T := TX10) (N := 49) hx hb hts inX10 hown hK hw h_p0 rfl rfl 14 (by decide) (hts _ tw_1151) (fun _ h9 => h9) (ft := vR 34) rfl dX10_doGuess_47 (fun u_11 hv_u_11 m_u_11 => ?_)
      obtain ⟨vu_11, rfl, h_vu_11⟩ := hv_u_11
      refine lv_sipush (v := 128) hx hb dX10_doGuess_50 (by decide) ?_
      refine lv_iload_n hx hb dX10_doGuess_53 rfl (lv_at hl 2 rfl) ?_
      refine lv_iadd hx hb dX10_doGuess_54 (lv_topi (fun v_12 e_v_12 => ?_))
      obtain ⟨t_v_12, r_v_12⟩ := tq_add (lo := 128) (hi := 135) rl_128 r_p1 (by decide +kernel) e_v_12
      have t_v_12 : v_12.toInt = 128 + p1.toInt := t_v_12
      refine lv_dup2_11 hx hb dX10_doGuess_55 rfl rfl ?_
      refine tg_iald (lo := (-2147483648)) (hi := 2147483647) hx hb hK hw h_vu_11 rfl 128 135 r_v_12 (by decide) (by decide +kernel) dX10_doGuess_56 (fun v_13 r_v_13 m_v_13 o_v_13 => ?_)
      refine lv_iconst (v := 1) hx hb dX10_doGuess_57 (by decide) ?_
      refine lv_iadd hx hb dX10_doGuess_58 (lv_topi (fun v_14 e_v_14 => ?_))
      have r_v_14 := ri_any v_14
      refine tg_iast hx hb hK hw h_vu_11 rfl 128 135 r_v_12 (by decide) r_v_14 (by decide +kernel) (RN_upd (by decide) (by decide)) (by decide) dX10_doGuess_59 (fun ws H locs hw hF9 hU9 => ?_)
      subst hQ
      exact W.vret hx hb hr (fun t ht hW => ⟨⟨ws, rfl, ⟨trivial, hw.1, hw.2.2.2.2.1⟩, by rw [ht]; exact hw.2.1, va_K.moved hW.alike hK, hw.2.2.1⟩, hw.2.2.2.1.F ht⟩) hw.2.2.2.1.2.2 dX10_doGuess_60
    · refine lv_aload_n hx hb dX10_doGuess_19 rfl (lv_at hl 1 rfl) ?_
      refine lv_iload_n hx hb dX10_doGuess_20 rfl (lv_at hl 0 rfl) ?_
      refine lv_iload_n hx hb dX10_doGuess_21 rfl (lv_at hl 3 rfl) ?_
      refine tk_v (va_runV (As := [.int v_3, .int p2]) (rest := []) ⟨hx, hb, hml, hown, hts⟩ (c_X10_less l D cy z H.size Ps w0 hw.1 p0 v_3 p2 h_p0 r_v_3 r_p2) (cwV 2 hts (gV tw_1517 tw_1519 ts_81 tw_15 tw_1520) rfl rfl rfl (by decide +kernel) ⟨Nat.le_of_ble_eq_true rfl, Nat.le_of_ble_eq_true rfl⟩) (tg_preV hw hK hSD hA (ci := 10) (q := (RX10, TX10, 49)) rfl h_p0 rfl) rfl rfl hl.1 rfl (lv_room (Nat.le_of_ble_eq_true rfl)) dX10_doGuess_22 ⟨Nat.le_of_ble_eq_true rfl, Nat.le_of_ble_eq_true rfl⟩) hw hA ⟨by decide, by decide⟩ (fun ws H locs hp_v_15 hw hF9 => ?_)
      refine lv_aload_n hx hb dX10_doGuess_25 rfl (lv_at hl 1 rfl) ?_
      refine tg_get (ci := 10) (ts := ty_MODEL) (C := RX10) (T := TX10) (N := 49) hx hb hts inX10 hown hK hw h_p0 rfl rfl 14 (by decide) (hts _ tw_1151) (fun _ h9 => h9) (ft := vR 34) rfl dX10_doGuess_26 (fun u_16 hv_u_16 m_u_16 => ?_)
      obtain ⟨vu_16, rfl, h_vu_16⟩ := hv_u_16
      refine lv_bipush (v := 120) hx hb dX10_doGuess_29 (by decide) ?_
      refine lv_iload_n hx hb dX10_doGuess_31 rfl (lv_at hl 2 rfl) ?_
      refine lv_iadd hx hb dX10_doGuess_32 (lv_topi (fun v_17 e_v_17 => ?_))
      obtain ⟨t_v_17, r_v_17⟩ := tq_add (lo := 120) (hi := 127) rl_120 r_p1 (by decide +kernel) e_v_17
      have t_v_17 : v_17.toInt = 120 + p1.toInt := t_v_17
      refine lv_dup2_11 hx hb dX10_doGuess_33 rfl rfl ?_
      refine tg_iald (lo := (-2147483648)) (hi := 2147483647) hx hb hK hw h_vu_16 rfl 120 127 r_v_17 (by decide) (by decide +kernel) dX10_doGuess_34 (fun v_18 r_v_18 m_v_18 o_v_18 => ?_)
      refine lv_iconst (v := 1) hx hb dX10_doGuess_35 (by decide) ?_
      refine lv_iadd hx hb dX10_doGuess_36 (lv_topi (fun v_19 e_v_19 => ?_))
      have r_v_19 := ri_any v_19
      refine tg_iast hx hb hK hw h_vu_16 rfl 120 127 r_v_17 (by decide) r_v_19 (by decide +kernel) (RN_upd (by decide) (by decide)) (by decide) dX10_doGuess_37 (fun ws H locs hw hF9 hU9 => ?_)
      subst hQ
      exact W.vret hx hb hr (fun t ht hW => ⟨⟨ws, rfl, ⟨trivial, hw.1, hw.2.2.2.2.1⟩, by rw [ht]; exact hw.2.1, va_K.moved hW.alike hK, hw.2.2.1⟩, hw.2.2.2.1.F ht⟩) hw.2.2.2.1.2.2 dX10_doGuess_38
abbrev wr_X10_end : List (Nat × Nat) := [(10, 0), (10, 2)]
abbrev wa_X10_end : List Nat := []
set_option maxHeartbeats 4000000 in
set_option maxRecDepth 100000 in
theorem c_X10_end (l : Launch) (D : va_G) (cy : Nat → ClassId) (z : Nat → Nat) (sz : Nat) (Ps : PSI) (w0 : va_W) (hT : HT cy GG Ps w0) (p0 : Nat) (p1 : Int32) (h_p0 : (p0, 55) ∈ Ps) (r_p1 : RI p1 (-2147483648) 2147483647) : Met l yX10_end (Cond.code yX10_end cX10_end 2 (some .boolean) :: gT) ({ frames := 0, cells := 0, slots := 0, locals := 200 } : Room) (va_Pc [.ref p0, .int p1] (PRE D cy z w0 sz)) (va_Qi (fun (r : Int32) (u : va_W) => (RI r 0 1 ∧ (r = 0 → True) ∧ (¬ r = 0 → True)) ∧ HT cy GG Ps u ∧ FR wr_X10_end wa_X10_end Ps w0 u) (BB D cy (va_A w0 sz) (fun (u : va_W) => u)) (va_A w0 sz)) 0 0 (va_A w0 sz) := by
  refine Met.ofW (cc := cX10_end) (maxL := 2) (ret := (some .boolean)) (by decide) rfl ?_
  intro p e s m args below meth c s₁ B hml hv
  obtain ⟨rfl, hsz, hP, hK, hD0, hSD⟩ := hv
  have hx := B.exec
  have hb := B.bytes
  have hr := B.returns
  have hlocks := B.notSynchronized
  have hts : ∀ w ∈ gT, w.before _ s = true := fun w h => atoms_spec (ws := Cond.code yX10_end cX10_end 2 (some .boolean) :: gT) B.pre w (List.mem_cons_of_mem _ h)
  have hown : s.vm.findClass RX10 = some m.cls := findClass_of_methodNamed B.named
  subst hsz
  have hD := hD0.self (sz := s.heap.size)
  generalize hAe : va_A w0 s.heap.size = A at hD hSD ⊢
  have hA : ∀ q : Nat, s.heap.size ≤ q → A q := fun q h => by rw [← hAe]; exact Or.inr h
  have hl := lv_entry ([.ref p0, .int p1]) (n := 2) (Nat.le_of_ble_eq_true rfl)
  rw [lg_entry_eq]
  generalize (lg_sl ([.ref p0, .int p1]) ++ List.replicate (2 - (lg_sl ([.ref p0, .int p1])).length) Slot.unset).toArray = ls at hl ⊢
  have hl : lv_has ls 2 [(0, .ref p0), (1, .int p1)] := hl
  refine nameQ (fun Q hQ => ?_)
  have hw : WD D cy GG A s wr_X10_end wa_X10_end Ps w0 Ps w0 s.heap [] := ⟨hT, hP, hD, va_S.rf, FR.rf, hT.1, [], (List.append_nil _).symm⟩
  refine lv_aload_n hx hb dX10_end_0 rfl (lv_at hl 0 rfl) ?_
  refine lv_iconst (v := 0) hx hb dX10_end_1 (by decide) ?_
  refine tg_put (ci := 10) (ts := ty_MODEL) (v := .int 0) (ty := .int) (C := RX10) (T := TX10) (N := 49) hx hb hts inX10 tyX10 tyX10_ok nmX10 hown hK hw h_p0 rfl rfl 0 (by decide) (hts _ tw_1137) (fun _ h9 => h9) rfl (by decide +kernel) rfl rfl (ft := vI (-2147483648) 2147483647) rfl ⟨_, rfl, (rl_0.to (by decide))⟩ (by decide) dX10_end_2 (fun ws H locs hw n_k_1 hF9 => ?_)
  refine lv_iload_n hx hb dX10_end_5 rfl (lv_at hl 1 rfl) ?_
  refine lv_if_lt (tgt := 17) hx hb dX10_end_6 (by decide) (fun c_6 => ?_) (fun c_6 => ?_)
  · have r_p1 : RI p1 (-2147483648) (-1) := rc_lt1 r_p1 rl_0 (ti_lt c_6) (by decide)
    refine lv_iconst (v := 0) hx hb dX10_end_17 (by decide) ?_
    subst hQ
    exact W.zret (v := 0) hx hb hr (rfl) (fun t ht hW => ⟨⟨0, ws, rfl, ⟨⟨rl_0.to (by decide), (fun h0 => trivial), (fun _ => trivial)⟩, hw.1, hw.2.2.2.2.1⟩, by rw [ht]; exact hw.2.1, va_K.moved hW.alike hK, hw.2.2.1⟩, hw.2.2.2.1.F ht⟩) hw.2.2.2.1.2.2 dX10_end_18
  · have r_p1 : RI p1 0 2147483647 := rc_le2 rl_0 r_p1 (ti_nlt c_6) (by decide)
    refine lv_iload_n hx hb dX10_end_9 rfl (lv_at hl 1 rfl) ?_
    refine lv_aload_n hx hb dX10_end_10 rfl (lv_at hl 0 rfl) ?_
    refine tg_get (ci := 10) (ts := ty_MODEL) (C := RX10) (T := TX10) (N := 49) hx hb hts inX10 hown hK hw h_p0 rfl rfl 2 (by decide) (hts _ tw_1139) (fun _ h9 => h9) (ft := vI 0 940) rfl dX10_end_11 (fun u_2 hv_u_2 m_u_2 => ?_)
    obtain ⟨vu_2, rfl, r_vu_2⟩ := hv_u_2
    refine lv_icmp_le (tgt := 19) hx hb dX10_end_14 (by decide) (fun c_14 => ?_) (fun c_14 => ?_)
    · have r_p1 : RI p1 0 940 := rc_le1 r_p1 r_vu_2 (ti_le c_14) (by decide)
      refine lv_aload_n hx hb dX10_end_19 rfl (lv_at hl 0 rfl) ?_
      refine lv_iload_n hx hb dX10_end_20 rfl (lv_at hl 1 rfl) ?_
      refine tg_put (ci := 10) (ts := ty_MODEL) (v := .int p1) (ty := .int) (C := RX10) (T := TX10) (N := 49) hx hb hts inX10 tyX10 tyX10_ok nmX10 hown hK hw h_p0 rfl rfl 2 (by decide) (hts _ tw_1139) (fun _ h9 => h9) rfl (by decide +kernel) rfl rfl (ft := vI 0 940) rfl ⟨_, rfl, r_p1⟩ (by decide) dX10_end_21 (fun ws H locs hw n_k_3 hF9 => ?_)
      have n_k_1 := FLD.over hF9 n_k_1 (by decide)
      refine lv_iconst (v := 1) hx hb dX10_end_24 (by decide) ?_
      subst hQ
      exact W.zret (v := 1) hx hb hr (rfl) (fun t ht hW => ⟨⟨1, ws, rfl, ⟨⟨rl_1.to (by decide), (fun _ => trivial), (fun h0 => trivial)⟩, hw.1, hw.2.2.2.2.1⟩, by rw [ht]; exact hw.2.1, va_K.moved hW.alike hK, hw.2.2.1⟩, hw.2.2.2.1.F ht⟩) hw.2.2.2.1.2.2 dX10_end_25
    · have r_p1 : RI p1 1 2147483647 := rc_lt2 r_vu_2 r_p1 (ti_nle c_14) (by decide)
      refine lv_iconst (v := 0) hx hb dX10_end_17 (by decide) ?_
      subst hQ
      exact W.zret (v := 0) hx hb hr (rfl) (fun t ht hW => ⟨⟨0, ws, rfl, ⟨⟨rl_0.to (by decide), (fun h0 => trivial), (fun _ => trivial)⟩, hw.1, hw.2.2.2.2.1⟩, by rw [ht]; exact hw.2.1, va_K.moved hW.alike hK, hw.2.2.1⟩, hw.2.2.2.1.F ht⟩) hw.2.2.2.1.2.2 dX10_end_18
abbrev wr_X10_fault : List (Nat × Nat) := [(10, 0)]
abbrev wa_X10_fault : List Nat := []
set_option maxHeartbeats 4000000 in
set_option maxRecDepth 100000 in
theorem c_X10_fault (l : Launch) (D : va_G) (cy : Nat → ClassId) (z : Nat → Nat) (sz : Nat) (Ps : PSI) (w0 : va_W) (hT : HT cy GG Ps w0) (p0 : Nat) (h_p0 : (p0, 55) ∈ Ps) : Met l yX10_fault (Cond.code yX10_fault cX10_fault 1 (some .int) :: gT) ({ frames := 0, cells := 0, slots := 0, locals := 200 } : Room) (va_Pc [.ref p0] (PRE D cy z w0 sz)) (va_Qi (fun (r : Int32) (u : va_W) => (RI r (-2147483648) 2147483647 ∧ (r = 0 → True) ∧ (¬ r = 0 → True)) ∧ HT cy GG Ps u ∧ FR wr_X10_fault wa_X10_fault Ps w0 u) (BB D cy (va_A w0 sz) (fun (u : va_W) => u)) (va_A w0 sz)) 0 0 (va_A w0 sz) := by
  refine Met.ofW (cc := cX10_fault) (maxL := 1) (ret := (some .int)) (by decide) rfl ?_
  intro p e s m args below meth c s₁ B hml hv
  obtain ⟨rfl, hsz, hP, hK, hD0, hSD⟩ := hv
  have hx := B.exec
  have hb := B.bytes
  have hr := B.returns
  have hlocks := B.notSynchronized
  have hts : ∀ w ∈ gT, w.before _ s = true := fun w h => atoms_spec (ws := Cond.code yX10_fault cX10_fault 1 (some .int) :: gT) B.pre w (List.mem_cons_of_mem _ h)
  have hown : s.vm.findClass RX10 = some m.cls := findClass_of_methodNamed B.named
  subst hsz
  have hD := hD0.self (sz := s.heap.size)
  generalize hAe : va_A w0 s.heap.size = A at hD hSD ⊢
  have hA : ∀ q : Nat, s.heap.size ≤ q → A q := fun q h => by rw [← hAe]; exact Or.inr h
  have hl := lv_entry ([.ref p0]) (n := 1) (Nat.le_of_ble_eq_true rfl)
  rw [lg_entry_eq]
  generalize (lg_sl ([.ref p0]) ++ List.replicate (1 - (lg_sl ([.ref p0])).length) Slot.unset).toArray = ls at hl ⊢
  have hl : lv_has ls 1 [(0, .ref p0)] := hl
  refine nameQ (fun Q hQ => ?_)
  have hw : WD D cy GG A s wr_X10_fault wa_X10_fault Ps w0 Ps w0 s.heap [] := ⟨hT, hP, hD, va_S.rf, FR.rf, hT.1, [], (List.append_nil _).symm⟩
  refine lv_aload_n hx hb dX10_fault_0 rfl (lv_at hl 0 rfl) ?_
  refine lv_iconst (v := 0) hx hb dX10_fault_1 (by decide) ?_
  refine tg_put (ci := 10) (ts := ty_MODEL) (v := .int 0) (ty := .int) (C := RX10) (T := TX10) (N := 49) hx hb hts inX10 tyX10 tyX10_ok nmX10 hown hK hw h_p0 rfl rfl 0 (by decide) (hts _ tw_1137) (fun _ h9 => h9) rfl (by decide +kernel) rfl rfl (ft := vI (-2147483648) 2147483647) rfl ⟨_, rfl, (rl_0.to (by decide))⟩ (by decide) dX10_fault_2 (fun ws H locs hw n_k_1 hF9 => ?_)
  refine lv_aload_n hx hb dX10_fault_5 rfl (lv_at hl 0 rfl) ?_
  refine tg_get (ci := 10) (ts := ty_MODEL) (C := RX10) (T := TX10) (N := 49) hx hb hts inX10 hown hK hw h_p0 rfl rfl 10 (by decide) (hts _ tw_1147) (fun _ h9 => h9) (ft := vI (-2147483648) 2147483647) rfl dX10_fault_6 (fun u_2 hv_u_2 m_u_2 => ?_)
  obtain ⟨vu_2, rfl, r_vu_2⟩ := hv_u_2
  subst hQ
  exact W.iret (v := vu_2) hx hb hr (fun t ht hW => ⟨⟨vu_2, ws, rfl, ⟨⟨r_vu_2.to (by decide), (fun h0 => trivial), (fun h0 => trivial)⟩, hw.1, hw.2.2.2.2.1⟩, by rw [ht]; exact hw.2.1, va_K.moved hW.alike hK, hw.2.2.1⟩, hw.2.2.2.1.F ht⟩) hw.2.2.2.1.2.2 dX10_fault_9
abbrev wr_X10_sizeOf : List (Nat × Nat) := []
abbrev wa_X10_sizeOf : List Nat := []
set_option maxHeartbeats 4000000 in
set_option maxRecDepth 100000 in
theorem c_X10_sizeOf (l : Launch) (D : va_G) (cy : Nat → ClassId) (z : Nat → Nat) (sz : Nat) (Ps : PSI) (w0 : va_W) (hT : HT cy GG Ps w0) (p0 : Nat) (p1 : Int32) (h_p0 : (p0, 55) ∈ Ps) (r_p1 : RI p1 0 5) : Met l yX10_sizeOf (Cond.code yX10_sizeOf cX10_sizeOf 4 (some .int) :: gT) ({ frames := 2, cells := 0, slots := 0, locals := 400 } : Room) (va_Pc [.ref p0, .int p1] (PRE D cy z w0 sz)) (va_Qi (fun (r : Int32) (u : Unit) => RI r (-2147483648) 2147483647 ∧ (r = 0 → True) ∧ (¬ r = 0 → True)) (BB D cy (va_A w0 sz) (fun (u : Unit) => w0)) (va_A w0 sz)) 0 0 (va_A w0 sz) := by
  refine Met.ofW (cc := cX10_sizeOf) (maxL := 4) (ret := (some .int)) (by decide) rfl ?_
  intro p e s m args below meth c s₁ B hml hv
  obtain ⟨rfl, hsz, hP, hK, hD0, hSD⟩ := hv
  have hx := B.exec
  have hb := B.bytes
  have hr := B.returns
  have hlocks := B.notSynchronized
  have hts : ∀ w ∈ gT, w.before _ s = true := fun w h => atoms_spec (ws := Cond.code yX10_sizeOf cX10_sizeOf 4 (some .int) :: gT) B.pre w (List.mem_cons_of_mem _ h)
  have hown : s.vm.findClass RX10 = some m.cls := findClass_of_methodNamed B.named
  subst hsz
  have hD := hD0.self (sz := s.heap.size)
  generalize hAe : va_A w0 s.heap.size = A at hD hSD ⊢
  have hA : ∀ q : Nat, s.heap.size ≤ q → A q := fun q h => by rw [← hAe]; exact Or.inr h
  have hl := lv_entry ([.ref p0, .int p1]) (n := 4) (Nat.le_of_ble_eq_true rfl)
  rw [lg_entry_eq]
  generalize (lg_sl ([.ref p0, .int p1]) ++ List.replicate (4 - (lg_sl ([.ref p0, .int p1])).length) Slot.unset).toArray = ls at hl ⊢
  have hl : lv_has ls 4 [(0, .ref p0), (1, .int p1)] := hl
  refine nameQ (fun Q hQ => ?_)
  have hw : WD D cy GG A s wr_X10_sizeOf wa_X10_sizeOf Ps w0 Ps w0 s.heap [] := ⟨hT, hP, hD, va_S.rf, FR.rf, hT.1, [], (List.append_nil _).symm⟩
  have B4 : ∀ (nf : Nat) (x2 : Int32) (x3 : Int32) (H : Heap) (locs : List Loc) (ls : Array Slot), 6 - x3.toInt < (nf : Int) → RI p1 0 5 → RI x2 (-2147483648) 2147483647 → RI x3 0 6 → WD D cy GG A s wr_X10_sizeOf wa_X10_sizeOf Ps w0 Ps w0 H locs → lv_has ls 4 [(0, .ref p0), (1, .int p1), (2, .int x2), (3, .int x3)] → W p l e (headSpec (Cond.code yX10_sizeOf cX10_sizeOf 4 (some .int) :: gT) ({ frames := 2, cells := 0, slots := 0, locals := 400 } : Room)).room s m ([.ref p0, .int p1] : List Value).toArray below meth c H locs 0 0 Q (F0 m 4 ls []) := by
    intro nf4
    induction nf4 with
    | zero =>
      intro x2 x3 H locs ls hn4 r_p1 r_x2 r_x3 hw hl
      exact absurd hn4 (by have q0 := r_x3.1; have u0 := r_x3.2; omega)
    | succ nf4 ih4 =>
      intro x2 x3 H locs ls hn4 r_p1 r_x2 r_x3 hw hl
      refine lv_iload_n hx hb dX10_sizeOf_4 rfl (lv_at hl 3 rfl) ?_
      refine lv_bipush (v := 6) hx hb dX10_sizeOf_5 (by decide) ?_
      refine lv_icmp_ge (tgt := 25) hx hb dX10_sizeOf_7 (by decide) (fun c_7 => ?_) (fun c_7 => ?_)
      · have r_x3 : RI x3 6 6 := rc_le2 rl_6 r_x3 (ti_le c_7) (by decide)
        refine lv_iload_n hx hb dX10_sizeOf_25 rfl (lv_at hl 2 rfl) ?_
        subst hQ
        exact W.iret (v := x2) hx hb hr (fun t ht hW => ⟨⟨x2, (), rfl, ⟨r_x2.to (by decide), (fun h0 => trivial), (fun h0 => trivial)⟩, by rw [ht]; exact hw.2.1, va_K.moved hW.alike hK, hw.2.2.1⟩, hw.2.2.2.1.F ht⟩) hw.2.2.2.1.2.2 dX10_sizeOf_26
      · have r_x3 : RI x3 0 5 := rc_lt1 r_x3 rl_6 (ti_nle c_7) (by decide)
        refine lv_iload_n hx hb dX10_sizeOf_10 rfl (lv_at hl 2 rfl) ?_
        refine lv_aload_n hx hb dX10_sizeOf_11 rfl (lv_at hl 0 rfl) ?_
        refine lv_iload_n hx hb dX10_sizeOf_12 rfl (lv_at hl 1 rfl) ?_
        refine lv_iload_n hx hb dX10_sizeOf_13 rfl (lv_at hl 3 rfl) ?_
        refine tk_ir (va_runV (As := [.int p1, .int x3]) (rest := [.int x2]) ⟨hx, hb, hml, hown, hts⟩ (c_X10_muchOf l D cy z H.size Ps w0 hw.1 p0 p1 x3 h_p0 r_p1 r_x3) (cwV 2 hts (gV tw_1437 tw_1439 ts_67 tw_15 tw_1440) rfl rfl rfl (by decide +kernel) ⟨Nat.le_of_ble_eq_true rfl, Nat.le_of_ble_eq_true rfl⟩) (tg_preV hw hK hSD hA (ci := 10) (q := (RX10, TX10, 49)) rfl h_p0 rfl) rfl rfl hl.1 rfl (lv_room (Nat.le_of_ble_eq_true rfl)) dX10_sizeOf_14 ⟨Nat.le_of_ble_eq_true rfl, Nat.le_of_ble_eq_true rfl⟩) hw hA (fun v_1  H locs hp_v_1 hw => ?_)
        have r_v_1 : RI v_1 (-2147483648) 2147483647 := hp_v_1.1
        have x_MUCH_p0_p1_x3_v_1 := hp_v_1.2.2.2.1.1
        refine lv_iadd hx hb dX10_sizeOf_17 (lv_topi (fun v_2 e_v_2 => ?_))
        have r_v_2 := ri_any v_2
        refine lv_istore_n (lv' := [(2, .int v_2), (0, .ref p0), (1, .int p1), (3, .int x3)]) hx hb dX10_sizeOf_18 rfl hl (by decide) rfl (fun ls hl => ?_)
        obtain ⟨v_3, e_v_3⟩ : ∃ q9 : Int32, q9 = x3 + Int32.ofInt 1 := ⟨_, rfl⟩
        obtain ⟨t_v_3, r_v_3⟩ := tq_add (lo := 1) (hi := 6) r_x3 (show RI (Int32.ofInt 1) 1 1 by unfold RI; decide +kernel) (by decide +kernel) e_v_3
        have t_v_3 : v_3.toInt = x3.toInt + 1 := t_v_3
        refine lv_iinc (v := v_3) (lv' := [(3, .int v_3), (2, .int v_2), (0, .ref p0), (1, .int p1)]) hx hb dX10_sizeOf_19 hl (k := 3) rfl e_v_3.symm (by decide) rfl (fun ls hl => ?_)
        refine lv_goto (tgt := 4) hx hb dX10_sizeOf_22 (by decide) ?_
        exact ih4 v_2 v_3 _ _ ls (by have q0 := r_v_3.1; have u0 := r_v_3.2; have o0 := r_x3.1; have p0 := r_x3.2; omega) r_p1 r_v_2 (r_v_3.to (by decide)) hw (lv_sub hl [2, 3, 1, 0] rfl)
  refine lv_iconst (v := 0) hx hb dX10_sizeOf_0 (by decide) ?_
  refine lv_istore_n (lv' := [(2, .int 0), (0, .ref p0), (1, .int p1)]) hx hb dX10_sizeOf_1 rfl hl (by decide) rfl (fun ls hl => ?_)
  refine lv_iconst (v := 0) hx hb dX10_sizeOf_2 (by decide) ?_
  refine lv_istore_n (lv' := [(3, .int 0), (2, .int 0), (0, .ref p0), (1, .int p1)]) hx hb dX10_sizeOf_3 rfl hl (by decide) rfl (fun ls hl => ?_)
  exact B4 4294967298 0 0 _ _ ls (by have q0 := rl_0.1; have u0 := rl_0.2; omega) r_p1 (rl_0.to (by decide)) (rl_0.to (by decide)) hw (lv_sub hl [2, 3, 1, 0] rfl)
abbrev wr_X10_greatest : List (Nat × Nat) := [(10, 0)]
abbrev wa_X10_greatest : List Nat := []
set_option maxHeartbeats 4000000 in
set_option maxRecDepth 100000 in
theorem c_X10_greatest (l : Launch) (D : va_G) (cy : Nat → ClassId) (z : Nat → Nat) (sz : Nat) (Ps : PSI) (w0 : va_W) (hT : HT cy GG Ps w0) (p0 : Nat) (h_p0 : (p0, 55) ∈ Ps) : Met l yX10_greatest (Cond.code yX10_greatest cX10_greatest 3 (some .int) :: gT) ({ frames := 3, cells := 0, slots := 0, locals := 600 } : Room) (va_Pc [.ref p0] (PRE D cy z w0 sz)) (va_Qi (fun (r : Int32) (u : va_W) => (RI r (-1) 5 ∧ (r = 0 → True) ∧ (¬ r = 0 → True)) ∧ HT cy GG Ps u ∧ FR wr_X10_greatest wa_X10_greatest Ps w0 u) (BB D cy (va_A w0 sz) (fun (u : va_W) => u)) (va_A w0 sz)) 0 0 (va_A w0 sz) := by
  refine Met.ofW (cc := cX10_greatest) (maxL := 3) (ret := (some .int)) (by decide) rfl ?_
  intro p e s m args below meth c s₁ B hml hv
  obtain ⟨rfl, hsz, hP, hK, hD0, hSD⟩ := hv
  have hx := B.exec
  have hb := B.bytes
  have hr := B.returns
  have hlocks := B.notSynchronized
  have hts : ∀ w ∈ gT, w.before _ s = true := fun w h => atoms_spec (ws := Cond.code yX10_greatest cX10_greatest 3 (some .int) :: gT) B.pre w (List.mem_cons_of_mem _ h)
  have hown : s.vm.findClass RX10 = some m.cls := findClass_of_methodNamed B.named
  subst hsz
  have hD := hD0.self (sz := s.heap.size)
  generalize hAe : va_A w0 s.heap.size = A at hD hSD ⊢
  have hA : ∀ q : Nat, s.heap.size ≤ q → A q := fun q h => by rw [← hAe]; exact Or.inr h
  have hl := lv_entry ([.ref p0]) (n := 3) (Nat.le_of_ble_eq_true rfl)
  rw [lg_entry_eq]
  generalize (lg_sl ([.ref p0]) ++ List.replicate (3 - (lg_sl ([.ref p0])).length) Slot.unset).toArray = ls at hl ⊢
  have hl : lv_has ls 3 [(0, .ref p0)] := hl
  refine nameQ (fun Q hQ => ?_)
  have hw : WD D cy GG A s wr_X10_greatest wa_X10_greatest Ps w0 Ps w0 s.heap [] := ⟨hT, hP, hD, va_S.rf, FR.rf, hT.1, [], (List.append_nil _).symm⟩
  have B9 : ∀ (nf : Nat) (x1 : Int32) (x2 : Int32) (z0_0 : Int32) (ws : va_W) (H : Heap) (locs : List Loc) (ls : Array Slot), 6 - x2.toInt < (nf : Int) → RI x1 (-1) 5 → RI x2 0 6 → RI z0_0 0 0 → FLD ws p0 10 0 (.int z0_0) → WD D cy GG A s wr_X10_greatest wa_X10_greatest Ps w0 Ps ws H locs → lv_has ls 3 [(0, .ref p0), (1, .int x1), (2, .int x2)] → W p l e (headSpec (Cond.code yX10_greatest cX10_greatest 3 (some .int) :: gT) ({ frames := 3, cells := 0, slots := 0, locals := 600 } : Room)).room s m ([.ref p0] : List Value).toArray below meth c H locs 0 0 Q (F0 m 9 ls []) := by
    intro nf9
    induction nf9 with
    | zero =>
      intro x1 x2 z0_0 ws H locs ls hn9 r_x1 r_x2 r_z0_0 m_z0_0 hw hl
      exact absurd hn9 (by have q0 := r_x2.1; have u0 := r_x2.2; omega)
    | succ nf9 ih9 =>
      have B45 : ∀ (x1 : Int32) (x2 : Int32) (z0_0 : Int32) (ws : va_W) (H : Heap) (locs : List Loc) (ls : Array Slot), RI x1 (-1) 5 → RI x2 0 5 → RI z0_0 0 0 → FLD ws p0 10 0 (.int z0_0) → 6 - x2.toInt < ((nf9 + 1 : Nat) : Int) → WD D cy GG A s wr_X10_greatest wa_X10_greatest Ps w0 Ps ws H locs → lv_has ls 3 [(0, .ref p0), (1, .int x1), (2, .int x2)] → W p l e (headSpec (Cond.code yX10_greatest cX10_greatest 3 (some .int) :: gT) ({ frames := 3, cells := 0, slots := 0, locals := 600 } : Room)).room s m ([.ref p0] : List Value).toArray below meth c H locs 0 0 Q (F0 m 45 ls []) := by
        intro x1 x2 z0_0 ws H locs ls r_x1 r_x2 r_z0_0 m_z0_0 hn9 hw hl
        refine lv_iload_n hx hb dX10_greatest_45 rfl (lv_at hl 2 rfl) ?_
        refine lv_istore_n (lv' := [(1, .int x2), (0, .ref p0), (2, .int x2)]) hx hb dX10_greatest_46 rfl hl (by decide) rfl (fun ls hl => ?_)
        obtain ⟨v_1, e_v_1⟩ : ∃ q9 : Int32, q9 = x2 + Int32.ofInt 1 := ⟨_, rfl⟩
        obtain ⟨t_v_1, r_v_1⟩ := tq_add (lo := 1) (hi := 6) r_x2 (show RI (Int32.ofInt 1) 1 1 by unfold RI; decide +kernel) (by decide +kernel) e_v_1
        have t_v_1 : v_1.toInt = x2.toInt + 1 := t_v_1
        refine lv_iinc (v := v_1) (lv' := [(2, .int v_1), (1, .int x2), (0, .ref p0)]) hx hb dX10_greatest_47 hl (k := 2) rfl e_v_1.symm (by decide) rfl (fun ls hl => ?_)
        refine lv_goto (tgt := 9) hx hb dX10_greatest_50 (by decide) ?_
        exact ih9 x2 v_1 z0_0 ws _ _ ls (by have q0 := r_v_1.1; have u0 := r_v_1.2; have o0 := r_x2.1; have p0 := r_x2.2; omega) (r_x2.to (by decide)) (r_v_1.to (by decide)) r_z0_0 m_z0_0 hw (lv_sub hl [2, 1, 0] rfl)
      intro x1 x2 z0_0 ws H locs ls hn9 r_x1 r_x2 r_z0_0 m_z0_0 hw hl
      refine lv_iload_n hx hb dX10_greatest_9 rfl (lv_at hl 2 rfl) ?_
      refine lv_aload_n hx hb dX10_greatest_10 rfl (lv_at hl 0 rfl) ?_
      refine tg_get (ci := 10) (ts := ty_MODEL) (C := RX10) (T := TX10) (N := 49) hx hb hts inX10 hown hK hw h_p0 rfl rfl 14 (by decide) (hts _ tw_1151) (fun _ h9 => h9) (ft := vR 34) rfl dX10_greatest_11 (fun u_2 hv_u_2 m_u_2 => ?_)
      obtain ⟨vu_2, rfl, h_vu_2⟩ := hv_u_2
      refine lv_iconst (v := 2) hx hb dX10_greatest_14 (by decide) ?_
      refine tg_iald (lo := 0) (hi := 6) hx hb hK hw h_vu_2 rfl 2 2 rl_2 (by decide) (by decide +kernel) dX10_greatest_15 (fun v_3 r_v_3 m_v_3 o_v_3 => ?_)
      refine lv_icmp_ge (tgt := 53) hx hb dX10_greatest_16 (by decide) (fun c_16 => ?_) (fun c_16 => ?_)
      · refine lv_iload_n hx hb dX10_greatest_53 rfl (lv_at hl 1 rfl) ?_
        subst hQ
        exact W.iret (v := x1) hx hb hr (fun t ht hW => ⟨⟨x1, ws, rfl, ⟨⟨r_x1.to (by decide), (fun h0 => trivial), (fun h0 => trivial)⟩, hw.1, hw.2.2.2.2.1⟩, by rw [ht]; exact hw.2.1, va_K.moved hW.alike hK, hw.2.2.1⟩, hw.2.2.2.1.F ht⟩) hw.2.2.2.1.2.2 dX10_greatest_54
      · have r_x2 : RI x2 0 5 := rc_lt1 r_x2 r_v_3 (ti_nle c_16) (by decide)
        have r_v_3 : RI v_3 1 6 := rc_lt2 r_x2 r_v_3 (ti_nle c_16) (by decide)
        refine lv_aload_n hx hb dX10_greatest_19 rfl (lv_at hl 0 rfl) ?_
        refine lv_iload_n hx hb dX10_greatest_20 rfl (lv_at hl 2 rfl) ?_
        refine tk_ir (va_runV (As := [.int x2]) (rest := []) ⟨hx, hb, hml, hown, hts⟩ (c_X10_isOpen l D cy z H.size Ps ws hw.1 p0 x2 h_p0 (r_x2.to (by decide))) (cwV 1 hts (gV tw_1457 tw_1459 ts_71 tw_15 tw_1460) rfl rfl rfl (by decide +kernel) ⟨Nat.le_of_ble_eq_true rfl, Nat.le_of_ble_eq_true rfl⟩) (tg_preV hw hK hSD hA (ci := 10) (q := (RX10, TX10, 49)) rfl h_p0 rfl) rfl rfl hl.1 rfl (lv_room (Nat.le_of_ble_eq_true rfl)) dX10_greatest_21 ⟨Nat.le_of_ble_eq_true rfl, Nat.le_of_ble_eq_true rfl⟩) hw hA (fun v_4  H locs hp_v_4 hw => ?_)
        have r_v_4 : RI v_4 0 1 := hp_v_4.1
        refine lv_if_ne (tgt := 47) hx hb dX10_greatest_24 (by decide) (fun c_24 => ?_) (fun c_24 => ?_)
        · have r_v_4 : RI v_4 1 1 := rc_neL r_v_4 rl_0 (ti_ne c_24) (by decide)
          obtain ⟨v_5, e_v_5⟩ : ∃ q9 : Int32, q9 = x2 + Int32.ofInt 1 := ⟨_, rfl⟩
          obtain ⟨t_v_5, r_v_5⟩ := tq_add (lo := 1) (hi := 6) r_x2 (show RI (Int32.ofInt 1) 1 1 by unfold RI; decide +kernel) (by decide +kernel) e_v_5
          have t_v_5 : v_5.toInt = x2.toInt + 1 := t_v_5
          refine lv_iinc (v := v_5) (lv' := [(2, .int v_5), (0, .ref p0), (1, .int x1)]) hx hb dX10_greatest_47 hl (k := 2) rfl e_v_5.symm (by decide) rfl (fun ls hl => ?_)
          refine lv_goto (tgt := 9) hx hb dX10_greatest_50 (by decide) ?_
          exact ih9 x1 v_5 z0_0 ws _ _ ls (by have q0 := r_v_5.1; have u0 := r_v_5.2; have o0 := r_x2.1; have p0 := r_x2.2; omega) r_x1 (r_v_5.to (by decide)) r_z0_0 m_z0_0 hw (lv_sub hl [1, 2, 0] rfl)
        · have r_v_4 : RI v_4 0 0 := rc_eq1 r_v_4 rl_0 (ti_eq c_24) (by decide)
          refine lv_iload_n hx hb dX10_greatest_27 rfl (lv_at hl 1 rfl) ?_
          refine lv_iconst (v := (-1)) hx hb dX10_greatest_28 (by decide) ?_
          refine lv_icmp_eq (tgt := 45) hx hb dX10_greatest_29 (by decide) (fun c_29 => ?_) (fun c_29 => ?_)
          · have r_x1 : RI x1 (-1) (-1) := rc_eq1 r_x1 rl_m1 (ti_eq c_29) (by decide)
            exact B45 x1 x2 z0_0 ws _ _ ls (r_x1.to (by decide)) r_x2 r_z0_0 m_z0_0 (by have q0 := r_x2.1; have u0 := r_x2.2; omega) hw hl
          · have r_x1 : RI x1 0 5 := rc_neL r_x1 rl_m1 (ti_ne c_29) (by decide)
            refine lv_aload_n hx hb dX10_greatest_32 rfl (lv_at hl 0 rfl) ?_
            refine lv_iload_n hx hb dX10_greatest_33 rfl (lv_at hl 2 rfl) ?_
            refine tk_ir (va_runV (As := [.int x2]) (rest := []) ⟨hx, hb, hml, hown, hts⟩ (c_X10_sizeOf l D cy z H.size Ps ws hw.1 p0 x2 h_p0 r_x2) (cwV 1 hts (gV tw_1453 tw_1455 ts_70 tw_15 tw_1456) rfl rfl rfl (by decide +kernel) ⟨Nat.le_of_ble_eq_true rfl, Nat.le_of_ble_eq_true rfl⟩) (tg_preV hw hK hSD hA (ci := 10) (q := (RX10, TX10, 49)) rfl h_p0 rfl) rfl rfl hl.1 rfl (lv_room (Nat.le_of_ble_eq_true rfl)) dX10_greatest_34 ⟨Nat.le_of_ble_eq_true rfl, Nat.le_of_ble_eq_true rfl⟩) hw hA (fun v_6  H locs hp_v_6 hw => ?_)
            have r_v_6 : RI v_6 (-2147483648) 2147483647 := hp_v_6.1
            refine lv_aload_n hx hb dX10_greatest_37 rfl (lv_at hl 0 rfl) ?_
            refine lv_iload_n hx hb dX10_greatest_38 rfl (lv_at hl 1 rfl) ?_
            refine tk_ir (va_runV (As := [.int x1]) (rest := [.int v_6]) ⟨hx, hb, hml, hown, hts⟩ (c_X10_sizeOf l D cy z H.size Ps ws hw.1 p0 x1 h_p0 r_x1) (cwV 1 hts (gV tw_1453 tw_1455 ts_70 tw_15 tw_1456) rfl rfl rfl (by decide +kernel) ⟨Nat.le_of_ble_eq_true rfl, Nat.le_of_ble_eq_true rfl⟩) (tg_preV hw hK hSD hA (ci := 10) (q := (RX10, TX10, 49)) rfl h_p0 rfl) rfl rfl hl.1 rfl (lv_room (Nat.le_of_ble_eq_true rfl)) dX10_greatest_39 ⟨Nat.le_of_ble_eq_true rfl, Nat.le_of_ble_eq_true rfl⟩) hw hA (fun v_7  H locs hp_v_7 hw => ?_)
            have r_v_7 : RI v_7 (-2147483648) 2147483647 := hp_v_7.1
            refine lv_icmp_le (tgt := 47) hx hb dX10_greatest_42 (by decide) (fun c_42 => ?_) (fun c_42 => ?_)
            · obtain ⟨v_8, e_v_8⟩ : ∃ q9 : Int32, q9 = x2 + Int32.ofInt 1 := ⟨_, rfl⟩
              obtain ⟨t_v_8, r_v_8⟩ := tq_add (lo := 1) (hi := 6) r_x2 (show RI (Int32.ofInt 1) 1 1 by unfold RI; decide +kernel) (by decide +kernel) e_v_8
              have t_v_8 : v_8.toInt = x2.toInt + 1 := t_v_8
              refine lv_iinc (v := v_8) (lv' := [(2, .int v_8), (0, .ref p0), (1, .int x1)]) hx hb dX10_greatest_47 hl (k := 2) rfl e_v_8.symm (by decide) rfl (fun ls hl => ?_)
              refine lv_goto (tgt := 9) hx hb dX10_greatest_50 (by decide) ?_
              exact ih9 x1 v_8 z0_0 ws _ _ ls (by have q0 := r_v_8.1; have u0 := r_v_8.2; have o0 := r_x2.1; have p0 := r_x2.2; omega) (r_x1.to (by decide)) (r_v_8.to (by decide)) r_z0_0 m_z0_0 hw (lv_sub hl [1, 2, 0] rfl)
            · have r_v_7 : RI v_7 (-2147483648) 2147483646 := rc_lt1 r_v_7 r_v_6 (ti_nle c_42) (by decide)
              have r_v_6 : RI v_6 (-2147483647) 2147483647 := rc_lt2 r_v_7 r_v_6 (ti_nle c_42) (by decide)
              exact B45 x1 x2 z0_0 ws _ _ ls (r_x1.to (by decide)) r_x2 r_z0_0 m_z0_0 (by have q0 := r_x2.1; have u0 := r_x2.2; omega) hw hl
  refine lv_aload_n hx hb dX10_greatest_0 rfl (lv_at hl 0 rfl) ?_
  refine lv_iconst (v := 0) hx hb dX10_greatest_1 (by decide) ?_
  refine tg_put (ci := 10) (ts := ty_MODEL) (v := .int 0) (ty := .int) (C := RX10) (T := TX10) (N := 49) hx hb hts inX10 tyX10 tyX10_ok nmX10 hown hK hw h_p0 rfl rfl 0 (by decide) (hts _ tw_1137) (fun _ h9 => h9) rfl (by decide +kernel) rfl rfl (ft := vI (-2147483648) 2147483647) rfl ⟨_, rfl, (rl_0.to (by decide))⟩ (by decide) dX10_greatest_2 (fun ws H locs hw n_k_9 hF9 => ?_)
  refine lv_iconst (v := (-1)) hx hb dX10_greatest_5 (by decide) ?_
  refine lv_istore_n (lv' := [(1, .int (-1)), (0, .ref p0)]) hx hb dX10_greatest_6 rfl hl (by decide) rfl (fun ls hl => ?_)
  refine lv_iconst (v := 0) hx hb dX10_greatest_7 (by decide) ?_
  refine lv_istore_n (lv' := [(2, .int 0), (1, .int (-1)), (0, .ref p0)]) hx hb dX10_greatest_8 rfl hl (by decide) rfl (fun ls hl => ?_)
  exact B9 4294967298 (-1) 0 0 ws _ _ ls (by have q0 := rl_0.1; have u0 := rl_0.2; omega) (rl_m1.to (by decide)) (rl_0.to (by decide)) rl_0 n_k_9 hw (lv_sub hl [2, 1, 0] rfl)
abbrev wr_X10_isIn__4 : List (Nat × Nat) := []
abbrev wa_X10_isIn__4 : List Nat := []
set_option maxHeartbeats 4000000 in
set_option maxRecDepth 100000 in
theorem c_X10_isIn__4 (l : Launch) (D : va_G) (cy : Nat → ClassId) (z : Nat → Nat) (sz : Nat) (Ps : PSI) (w0 : va_W) (hT : HT cy GG Ps w0) (p0 : Int32) (p1 : Int32) (p2 : Int32) (r_p0 : RI p0 (-2147483648) 2147483647) (r_p1 : RI p1 0 0) (r_p2 : RI p2 (-1) 7) : Met l yX10_isIn (Cond.code yX10_isIn cX10_isIn 3 (some .boolean) :: gT) ({ frames := 0, cells := 0, slots := 0, locals := 200 } : Room) (va_Pc [.int p0, .int p1, .int p2] (PRE D cy z w0 sz)) (va_Qi (fun (r : Int32) (u : Unit) => RI r 0 1 ∧ (r = 0 → True) ∧ (¬ r = 0 → RI p0 0 7 ∧ RI p2 0 7 ∧ True)) (BB D cy (va_A w0 sz) (fun (u : Unit) => w0)) (va_A w0 sz)) 0 0 (va_A w0 sz) := by
  refine Met.ofW (cc := cX10_isIn) (maxL := 3) (ret := (some .boolean)) (by decide) rfl ?_
  intro p e s m args below meth c s₁ B hml hv
  obtain ⟨rfl, hsz, hP, hK, hD0, hSD⟩ := hv
  have hx := B.exec
  have hb := B.bytes
  have hr := B.returns
  have hlocks := B.notSynchronized
  have hts : ∀ w ∈ gT, w.before _ s = true := fun w h => atoms_spec (ws := Cond.code yX10_isIn cX10_isIn 3 (some .boolean) :: gT) B.pre w (List.mem_cons_of_mem _ h)
  have hown : s.vm.findClass RX10 = some m.cls := findClass_of_methodNamed B.named
  subst hsz
  have hD := hD0.self (sz := s.heap.size)
  generalize hAe : va_A w0 s.heap.size = A at hD hSD ⊢
  have hA : ∀ q : Nat, s.heap.size ≤ q → A q := fun q h => by rw [← hAe]; exact Or.inr h
  have hl := lv_entry ([.int p0, .int p1, .int p2]) (n := 3) (Nat.le_of_ble_eq_true rfl)
  rw [lg_entry_eq]
  generalize (lg_sl ([.int p0, .int p1, .int p2]) ++ List.replicate (3 - (lg_sl ([.int p0, .int p1, .int p2])).length) Slot.unset).toArray = ls at hl ⊢
  have hl : lv_has ls 3 [(0, .int p0), (1, .int p1), (2, .int p2)] := hl
  refine nameQ (fun Q hQ => ?_)
  have hw : WD D cy GG A s wr_X10_isIn__4 wa_X10_isIn__4 Ps w0 Ps w0 s.heap [] := ⟨hT, hP, hD, va_S.rf, FR.rf, hT.1, [], (List.append_nil _).symm⟩
  refine lv_iload_n hx hb dX10_isIn_0 rfl (lv_at hl 0 rfl) ?_
  refine lv_iload_n hx hb dX10_isIn_1 rfl (lv_at hl 1 rfl) ?_
  refine lv_icmp_lt (tgt := 14) hx hb dX10_isIn_2 (by decide) (fun c_2 => ?_) (fun c_2 => ?_)
  · have r_p0 : RI p0 (-2147483648) (-1) := rc_lt1 r_p0 r_p1 (ti_lt c_2) (by decide)
    refine lv_iconst (v := 0) hx hb dX10_isIn_14 (by decide) ?_
    subst hQ
    exact W.zret (v := 0) hx hb hr (rfl) (fun t ht hW => ⟨⟨0, (), rfl, ⟨rl_0.to (by decide), (fun h0 => trivial), (fun h0 => absurd rfl h0)⟩, by rw [ht]; exact hw.2.1, va_K.moved hW.alike hK, hw.2.2.1⟩, hw.2.2.2.1.F ht⟩) hw.2.2.2.1.2.2 dX10_isIn_15
  · have r_p0 : RI p0 0 2147483647 := rc_le2 r_p1 r_p0 (ti_nlt c_2) (by decide)
    refine lv_iload_n hx hb dX10_isIn_5 rfl (lv_at hl 0 rfl) ?_
    refine lv_iload_n hx hb dX10_isIn_6 rfl (lv_at hl 2 rfl) ?_
    refine lv_icmp_gt (tgt := 14) hx hb dX10_isIn_7 (by decide) (fun c_7 => ?_) (fun c_7 => ?_)
    · refine lv_iconst (v := 0) hx hb dX10_isIn_14 (by decide) ?_
      subst hQ
      exact W.zret (v := 0) hx hb hr (rfl) (fun t ht hW => ⟨⟨0, (), rfl, ⟨rl_0.to (by decide), (fun h0 => trivial), (fun h0 => absurd rfl h0)⟩, by rw [ht]; exact hw.2.1, va_K.moved hW.alike hK, hw.2.2.1⟩, hw.2.2.2.1.F ht⟩) hw.2.2.2.1.2.2 dX10_isIn_15
    · have r_p0 : RI p0 0 7 := rc_le1 r_p0 r_p2 (ti_nlt c_7) (by decide)
      have r_p2 : RI p2 0 7 := rc_le2 r_p0 r_p2 (ti_nlt c_7) (by decide)
      refine lv_iconst (v := 1) hx hb dX10_isIn_10 (by decide) ?_
      refine lv_goto (tgt := 15) hx hb dX10_isIn_11 (by decide) ?_
      subst hQ
      exact W.zret (v := 1) hx hb hr (rfl) (fun t ht hW => ⟨⟨1, (), rfl, ⟨rl_1.to (by decide), (fun _ => trivial), (fun h0 => ⟨r_p0, r_p2, trivial⟩)⟩, by rw [ht]; exact hw.2.1, va_K.moved hW.alike hK, hw.2.2.1⟩, hw.2.2.2.1.F ht⟩) hw.2.2.2.1.2.2 dX10_isIn_15
abbrev wr_X10_isPerson : List (Nat × Nat) := []
abbrev wa_X10_isPerson : List Nat := []
set_option maxHeartbeats 4000000 in
set_option maxRecDepth 100000 in
theorem c_X10_isPerson (l : Launch) (D : va_G) (cy : Nat → ClassId) (z : Nat → Nat) (sz : Nat) (Ps : PSI) (w0 : va_W) (hT : HT cy GG Ps w0) (p0 : Nat) (p1 : Int32) (h_p0 : (p0, 55) ∈ Ps) (r_p1 : RI p1 (-2147483648) 2147483647) : Met l yX10_isPerson (Cond.code yX10_isPerson cX10_isPerson 2 (some .boolean) :: gT) ({ frames := 2, cells := 0, slots := 0, locals := 400 } : Room) (va_Pc [.ref p0, .int p1] (PRE D cy z w0 sz)) (va_Qi (fun (r : Int32) (u : Unit) => RI r 0 1 ∧ (r = 0 → True) ∧ (¬ r = 0 → RI p1 0 7 ∧ True)) (BB D cy (va_A w0 sz) (fun (u : Unit) => w0)) (va_A w0 sz)) 0 0 (va_A w0 sz) := by
  refine Met.ofW (cc := cX10_isPerson) (maxL := 2) (ret := (some .boolean)) (by decide) rfl ?_
  intro p e s m args below meth c s₁ B hml hv
  obtain ⟨rfl, hsz, hP, hK, hD0, hSD⟩ := hv
  have hx := B.exec
  have hb := B.bytes
  have hr := B.returns
  have hlocks := B.notSynchronized
  have hts : ∀ w ∈ gT, w.before _ s = true := fun w h => atoms_spec (ws := Cond.code yX10_isPerson cX10_isPerson 2 (some .boolean) :: gT) B.pre w (List.mem_cons_of_mem _ h)
  have hown : s.vm.findClass RX10 = some m.cls := findClass_of_methodNamed B.named
  subst hsz
  have hD := hD0.self (sz := s.heap.size)
  generalize hAe : va_A w0 s.heap.size = A at hD hSD ⊢
  have hA : ∀ q : Nat, s.heap.size ≤ q → A q := fun q h => by rw [← hAe]; exact Or.inr h
  have hl := lv_entry ([.ref p0, .int p1]) (n := 2) (Nat.le_of_ble_eq_true rfl)
  rw [lg_entry_eq]
  generalize (lg_sl ([.ref p0, .int p1]) ++ List.replicate (2 - (lg_sl ([.ref p0, .int p1])).length) Slot.unset).toArray = ls at hl ⊢
  have hl : lv_has ls 2 [(0, .ref p0), (1, .int p1)] := hl
  refine nameQ (fun Q hQ => ?_)
  have hw : WD D cy GG A s wr_X10_isPerson wa_X10_isPerson Ps w0 Ps w0 s.heap [] := ⟨hT, hP, hD, va_S.rf, FR.rf, hT.1, [], (List.append_nil _).symm⟩
  refine lv_iload_n hx hb dX10_isPerson_0 rfl (lv_at hl 1 rfl) ?_
  refine lv_iconst (v := 0) hx hb dX10_isPerson_1 (by decide) ?_
  refine lv_aload_n hx hb dX10_isPerson_2 rfl (lv_at hl 0 rfl) ?_
  refine tg_get (ci := 10) (ts := ty_MODEL) (C := RX10) (T := TX10) (N := 49) hx hb hts inX10 hown hK hw h_p0 rfl rfl 14 (by decide) (hts _ tw_1151) (fun _ h9 => h9) (ft := vR 34) rfl dX10_isPerson_3 (fun u_1 hv_u_1 m_u_1 => ?_)
  obtain ⟨vu_1, rfl, h_vu_1⟩ := hv_u_1
  refine lv_iconst (v := 3) hx hb dX10_isPerson_6 (by decide) ?_
  refine tg_iald (lo := 0) (hi := 8) hx hb hK hw h_vu_1 rfl 3 3 rl_3 (by decide) (by decide +kernel) dX10_isPerson_7 (fun v_2 r_v_2 m_v_2 o_v_2 => ?_)
  refine lv_iconst (v := 1) hx hb dX10_isPerson_8 (by decide) ?_
  refine lv_isub hx hb dX10_isPerson_9 (lv_topi (fun v_3 e_v_3 => ?_))
  obtain ⟨t_v_3, r_v_3⟩ := tq_sub (lo := (-1)) (hi := 7) r_v_2 rl_1 (by decide +kernel) e_v_3
  have t_v_3 : v_3.toInt = v_2.toInt - 1 := t_v_3
  refine tk_ir (va_runS (As := [.int p1, .int 0, .int v_3]) (rest := []) ⟨hx, hb, hml, hown, hts⟩ (c_X10_isIn__4 l D cy z s.heap.size Ps w0 hw.1 p1 0 v_3 r_p1 rl_0 r_v_3) (va_cwS 3 hts (gS tw_1359 tw_1360 tw_15 tw_1361) rfl rfl rfl (by decide +kernel) ⟨Nat.le_of_ble_eq_true rfl, Nat.le_of_ble_eq_true rfl⟩) (tg_preS hw hK hSD hA) rfl rfl hl.1 rfl (lv_room (Nat.le_of_ble_eq_true rfl)) dX10_isPerson_10 ⟨Nat.le_of_ble_eq_true rfl, Nat.le_of_ble_eq_true rfl⟩) hw hA (fun v_4  H locs hp_v_4 hw => ?_)
  have r_v_4 : RI v_4 0 1 := hp_v_4.1
  subst hQ
  exact W.zret (v := v_4) hx hb hr (tq_nz (r_v_4.to (by decide))) (fun t ht hW => ⟨⟨v_4, (), rfl, ⟨r_v_4.to (by decide), (fun h0 => trivial), (fun h0 => ⟨((hp_v_4.2.2 h0).1), trivial⟩)⟩, by rw [ht]; exact hw.2.1, va_K.moved hW.alike hK, hw.2.2.1⟩, hw.2.2.2.1.F ht⟩) hw.2.2.2.1.2.2 dX10_isPerson_13
abbrev wr_X10_isIdea : List (Nat × Nat) := []
abbrev wa_X10_isIdea : List Nat := []
set_option maxHeartbeats 4000000 in
set_option maxRecDepth 100000 in
theorem c_X10_isIdea (l : Launch) (D : va_G) (cy : Nat → ClassId) (z : Nat → Nat) (sz : Nat) (Ps : PSI) (w0 : va_W) (hT : HT cy GG Ps w0) (p0 : Nat) (p1 : Int32) (h_p0 : (p0, 55) ∈ Ps) (r_p1 : RI p1 (-2147483648) 2147483647) : Met l yX10_isIdea (Cond.code yX10_isIdea cX10_isIdea 2 (some .boolean) :: gT) ({ frames := 2, cells := 0, slots := 0, locals := 400 } : Room) (va_Pc [.ref p0, .int p1] (PRE D cy z w0 sz)) (va_Qi (fun (r : Int32) (u : Unit) => RI r 0 1 ∧ (r = 0 → True) ∧ (¬ r = 0 → RI p1 0 5 ∧ True)) (BB D cy (va_A w0 sz) (fun (u : Unit) => w0)) (va_A w0 sz)) 0 0 (va_A w0 sz) := by
  refine Met.ofW (cc := cX10_isIdea) (maxL := 2) (ret := (some .boolean)) (by decide) rfl ?_
  intro p e s m args below meth c s₁ B hml hv
  obtain ⟨rfl, hsz, hP, hK, hD0, hSD⟩ := hv
  have hx := B.exec
  have hb := B.bytes
  have hr := B.returns
  have hlocks := B.notSynchronized
  have hts : ∀ w ∈ gT, w.before _ s = true := fun w h => atoms_spec (ws := Cond.code yX10_isIdea cX10_isIdea 2 (some .boolean) :: gT) B.pre w (List.mem_cons_of_mem _ h)
  have hown : s.vm.findClass RX10 = some m.cls := findClass_of_methodNamed B.named
  subst hsz
  have hD := hD0.self (sz := s.heap.size)
  generalize hAe : va_A w0 s.heap.size = A at hD hSD ⊢
  have hA : ∀ q : Nat, s.heap.size ≤ q → A q := fun q h => by rw [← hAe]; exact Or.inr h
  have hl := lv_entry ([.ref p0, .int p1]) (n := 2) (Nat.le_of_ble_eq_true rfl)
  rw [lg_entry_eq]
  generalize (lg_sl ([.ref p0, .int p1]) ++ List.replicate (2 - (lg_sl ([.ref p0, .int p1])).length) Slot.unset).toArray = ls at hl ⊢
  have hl : lv_has ls 2 [(0, .ref p0), (1, .int p1)] := hl
  refine nameQ (fun Q hQ => ?_)
  have hw : WD D cy GG A s wr_X10_isIdea wa_X10_isIdea Ps w0 Ps w0 s.heap [] := ⟨hT, hP, hD, va_S.rf, FR.rf, hT.1, [], (List.append_nil _).symm⟩
  refine lv_iload_n hx hb dX10_isIdea_0 rfl (lv_at hl 1 rfl) ?_
  refine lv_iconst (v := 0) hx hb dX10_isIdea_1 (by decide) ?_
  refine lv_aload_n hx hb dX10_isIdea_2 rfl (lv_at hl 0 rfl) ?_
  refine tg_get (ci := 10) (ts := ty_MODEL) (C := RX10) (T := TX10) (N := 49) hx hb hts inX10 hown hK hw h_p0 rfl rfl 14 (by decide) (hts _ tw_1151) (fun _ h9 => h9) (ft := vR 34) rfl dX10_isIdea_3 (fun u_1 hv_u_1 m_u_1 => ?_)
  obtain ⟨vu_1, rfl, h_vu_1⟩ := hv_u_1
  refine lv_iconst (v := 0) hx hb dX10_isIdea_6 (by decide) ?_
  refine tg_iald (lo := 0) (hi := 6) hx hb hK hw h_vu_1 rfl 0 0 rl_0 (by decide) (by decide +kernel) dX10_isIdea_7 (fun v_2 r_v_2 m_v_2 o_v_2 => ?_)
  refine lv_iconst (v := 1) hx hb dX10_isIdea_8 (by decide) ?_
  refine lv_isub hx hb dX10_isIdea_9 (lv_topi (fun v_3 e_v_3 => ?_))
  obtain ⟨t_v_3, r_v_3⟩ := tq_sub (lo := (-1)) (hi := 5) r_v_2 rl_1 (by decide +kernel) e_v_3
  have t_v_3 : v_3.toInt = v_2.toInt - 1 := t_v_3
  refine tk_ir (va_runS (As := [.int p1, .int 0, .int v_3]) (rest := []) ⟨hx, hb, hml, hown, hts⟩ (c_X10_isIn__1 l D cy z s.heap.size Ps w0 hw.1 p1 0 v_3 r_p1 rl_0 r_v_3) (va_cwS 3 hts (gS tw_1359 tw_1360 tw_15 tw_1361) rfl rfl rfl (by decide +kernel) ⟨Nat.le_of_ble_eq_true rfl, Nat.le_of_ble_eq_true rfl⟩) (tg_preS hw hK hSD hA) rfl rfl hl.1 rfl (lv_room (Nat.le_of_ble_eq_true rfl)) dX10_isIdea_10 ⟨Nat.le_of_ble_eq_true rfl, Nat.le_of_ble_eq_true rfl⟩) hw hA (fun v_4  H locs hp_v_4 hw => ?_)
  have r_v_4 : RI v_4 0 1 := hp_v_4.1
  subst hQ
  exact W.zret (v := v_4) hx hb hr (tq_nz (r_v_4.to (by decide))) (fun t ht hW => ⟨⟨v_4, (), rfl, ⟨r_v_4.to (by decide), (fun h0 => trivial), (fun h0 => ⟨((hp_v_4.2.2 h0).1), trivial⟩)⟩, by rw [ht]; exact hw.2.1, va_K.moved hW.alike hK, hw.2.2.1⟩, hw.2.2.2.1.F ht⟩) hw.2.2.2.1.2.2 dX10_isIdea_13
abbrev wr_X10_why__1 : List (Nat × Nat) := []
abbrev wa_X10_why__1 : List Nat := []
set_option maxHeartbeats 4000000 in
set_option maxRecDepth 100000 in
theorem c_X10_why__1 (l : Launch) (D : va_G) (cy : Nat → ClassId) (z : Nat → Nat) (sz : Nat) (Ps : PSI) (w0 : va_W) (hT : HT cy GG Ps w0) (p0 : Nat) (p1 : Int32) (p2 : Int32) (p3 : Int32) (h_p0 : (p0, 55) ∈ Ps) (r_p1 : RI p1 3 3) (r_p2 : RI p2 0 7) (r_p3 : RI p3 0 5) : Met l yX10_why (Cond.code yX10_why cX10_why 4 (some .int) :: gT) ({ frames := 3, cells := 0, slots := 0, locals := 600 } : Room) (va_Pc [.ref p0, .int p1, .int p2, .int p3] (PRE D cy z w0 sz)) (va_Qi (fun (r : Int32) (u : Unit) => RI r 0 2 ∧ (r = 0 → AX 14 34 (fun f => 0 ≤ (f (112 + Int32.toNatClampNeg p2)).toInt) Ps w0 p0 ∧ True) ∧ (¬ r = 0 → True)) (BB D cy (va_A w0 sz) (fun (u : Unit) => w0)) (va_A w0 sz)) 0 0 (va_A w0 sz) := by
  refine Met.ofW (cc := cX10_why) (maxL := 4) (ret := (some .int)) (by decide) rfl ?_
  intro p e s m args below meth c s₁ B hml hv
  obtain ⟨rfl, hsz, hP, hK, hD0, hSD⟩ := hv
  have hx := B.exec
  have hb := B.bytes
  have hr := B.returns
  have hlocks := B.notSynchronized
  have hts : ∀ w ∈ gT, w.before _ s = true := fun w h => atoms_spec (ws := Cond.code yX10_why cX10_why 4 (some .int) :: gT) B.pre w (List.mem_cons_of_mem _ h)
  have hown : s.vm.findClass RX10 = some m.cls := findClass_of_methodNamed B.named
  subst hsz
  have hD := hD0.self (sz := s.heap.size)
  generalize hAe : va_A w0 s.heap.size = A at hD hSD ⊢
  have hA : ∀ q : Nat, s.heap.size ≤ q → A q := fun q h => by rw [← hAe]; exact Or.inr h
  have hl := lv_entry ([.ref p0, .int p1, .int p2, .int p3]) (n := 4) (Nat.le_of_ble_eq_true rfl)
  rw [lg_entry_eq]
  generalize (lg_sl ([.ref p0, .int p1, .int p2, .int p3]) ++ List.replicate (4 - (lg_sl ([.ref p0, .int p1, .int p2, .int p3])).length) Slot.unset).toArray = ls at hl ⊢
  have hl : lv_has ls 4 [(0, .ref p0), (1, .int p1), (2, .int p2), (3, .int p3)] := hl
  refine nameQ (fun Q hQ => ?_)
  have hw : WD D cy GG A s wr_X10_why__1 wa_X10_why__1 Ps w0 Ps w0 s.heap [] := ⟨hT, hP, hD, va_S.rf, FR.rf, hT.1, [], (List.append_nil _).symm⟩
  refine lv_iload_n hx hb dX10_why_0 rfl (lv_at hl 1 rfl) ?_
  have w_1 := r_p1
  by_cases cl_1 : p1.toInt < 0 ∨ 4 < p1.toInt
  · refine lv_tableOut (tgt := 146) hx hb dX10_why_1 cl_1 (by decide) ?_
    exact absurd cl_1 (by unfold RI at w_1; omega)
  · have e_1 : p1.toInt = 0 ∨ p1.toInt = 1 ∨ p1.toInt = 2 ∨ p1.toInt = 3 ∨ p1.toInt = 4 := by omega
    rcases e_1 with h_1 | h_1 | h_1 | h_1 | h_1
    · exact absurd h_1 (by unfold RI at w_1; omega)
    · exact absurd h_1 (by unfold RI at w_1; omega)
    · exact absurd h_1 (by unfold RI at w_1; omega)
    · refine lv_tableIn (tgt := 93) (off := 92) hx hb dX10_why_1 (by omega) (by omega) (by rw [h_1]; rfl) (by decide) ?_
      have r_p1 : RI p1 3 3 := ⟨by omega, by omega⟩
      refine lv_aload_n hx hb dX10_why_93 rfl (lv_at hl 0 rfl) ?_
      refine tg_get (ci := 10) (ts := ty_MODEL) (C := RX10) (T := TX10) (N := 49) hx hb hts inX10 hown hK hw h_p0 rfl rfl 14 (by decide) (hts _ tw_1151) (fun _ h9 => h9) (ft := vR 34) rfl dX10_why_94 (fun u_1 hv_u_1 m_u_1 => ?_)
      obtain ⟨vu_1, rfl, h_vu_1⟩ := hv_u_1
      refine lv_bipush (v := 112) hx hb dX10_why_97 (by decide) ?_
      refine lv_iload_n hx hb dX10_why_99 rfl (lv_at hl 2 rfl) ?_
      refine lv_iadd hx hb dX10_why_100 (lv_topi (fun v_2 e_v_2 => ?_))
      obtain ⟨t_v_2, r_v_2⟩ := tq_add (lo := 112) (hi := 119) rl_112 r_p2 (by decide +kernel) e_v_2
      have t_v_2 : v_2.toInt = 112 + p2.toInt := t_v_2
      refine tg_iald (lo := (-1)) (hi := 5) hx hb hK hw h_vu_1 rfl 112 119 r_v_2 (by decide) (by decide +kernel) dX10_why_101 (fun v_3 r_v_3 m_v_3 o_v_3 => ?_)
      refine lv_iconst (v := (-1)) hx hb dX10_why_102 (by decide) ?_
      refine lv_icmp_ne (tgt := 110) hx hb dX10_why_103 (by decide) (fun c_103 => ?_) (fun c_103 => ?_)
      · have r_v_3 : RI v_3 0 5 := rc_neL r_v_3 rl_m1 (ti_ne c_103) (by decide)
        refine lv_aload_n hx hb dX10_why_110 rfl (lv_at hl 0 rfl) ?_
        refine lv_aload_n hx hb dX10_why_111 rfl (lv_at hl 0 rfl) ?_
        refine tg_mem (ci := 10) (C := RX10) (T := TX10) (N := 49) hx hb hts inX10 hown hK hw 14 m_u_1 rfl (by decide) (hts _ tw_1151) (fun _ h9 => h9) dX10_why_112 ?_
        refine lv_bipush (v := 112) hx hb dX10_why_115 (by decide) ?_
        refine lv_iload_n hx hb dX10_why_117 rfl (lv_at hl 2 rfl) ?_
        refine lv_iadd hx hb dX10_why_118 (lv_topi (fun v_4 e_v_4 => ?_))
        obtain ⟨t_v_4, r_v_4⟩ := tq_add (lo := 112) (hi := 119) rl_112 r_p2 (by decide +kernel) e_v_4
        have t_v_4 : v_4.toInt = 112 + p2.toInt := t_v_4
        refine tg_iald (lo := (-1)) (hi := 5) hx hb hK hw h_vu_1 rfl 112 119 r_v_4 (by decide) (by decide +kernel) dX10_why_119 (fun v_5 r_v_5 m_v_5 o_v_5 => ?_)
        refine tk_ir (va_runV (As := [.int v_5]) (rest := []) ⟨hx, hb, hml, hown, hts⟩ (c_X10_isOpen l D cy z s.heap.size Ps w0 hw.1 p0 v_5 h_p0 (r_v_5.to (by decide))) (cwV 1 hts (gV tw_1457 tw_1459 ts_71 tw_15 tw_1460) rfl rfl rfl (by decide +kernel) ⟨Nat.le_of_ble_eq_true rfl, Nat.le_of_ble_eq_true rfl⟩) (tg_preV hw hK hSD hA (ci := 10) (q := (RX10, TX10, 49)) rfl h_p0 rfl) rfl rfl hl.1 rfl (lv_room (Nat.le_of_ble_eq_true rfl)) dX10_why_120 ⟨Nat.le_of_ble_eq_true rfl, Nat.le_of_ble_eq_true rfl⟩) hw hA (fun v_6  H locs hp_v_6 hw => ?_)
        have r_v_6 : RI v_6 0 1 := hp_v_6.1
        refine lv_if_eq (tgt := 130) hx hb dX10_why_123 (by decide) (fun c_123 => ?_) (fun c_123 => ?_)
        · have r_v_6 : RI v_6 0 0 := rc_eq1 r_v_6 rl_0 (ti_eq c_123) (by decide)
          have x_SITOK_p0_p2 : AX 14 34 (fun f => 0 ≤ (f (112 + Int32.toNatClampNeg p2)).toInt) Ps w0 p0 := AX.mk hw h_vu_1 rfl m_u_1 (fun f9 g9 _ => by have e9 := g9 _ _ m_v_3; have j9 : Int32.toNatClampNeg v_2 = 112 + Int32.toNatClampNeg p2 := (by have k1 := r_v_2.cl (by decide); have k2 := r_p2.cl (by decide); omega); rw [j9] at e9; show _; rw [e9]; exact r_v_3.1)
          refine lv_iconst (v := 0) hx hb dX10_why_130 (by decide) ?_
          subst hQ
          exact W.iret (v := 0) hx hb hr (fun t ht hW => ⟨⟨0, (), rfl, ⟨rl_0.to (by decide), (fun h0 => ⟨x_SITOK_p0_p2, trivial⟩), (fun _ => trivial)⟩, by rw [ht]; exact hw.2.1, va_K.moved hW.alike hK, hw.2.2.1⟩, hw.2.2.2.1.F ht⟩) hw.2.2.2.1.2.2 dX10_why_131
        · have r_v_6 : RI v_6 1 1 := rc_neL r_v_6 rl_0 (ti_ne c_123) (by decide)
          refine lv_iconst (v := 2) hx hb dX10_why_126 (by decide) ?_
          refine lv_goto (tgt := 131) hx hb dX10_why_127 (by decide) ?_
          subst hQ
          exact W.iret (v := 2) hx hb hr (fun t ht hW => ⟨⟨2, (), rfl, ⟨rl_2.to (by decide), (fun h0 => absurd h0 (by decide)), (fun h0 => trivial)⟩, by rw [ht]; exact hw.2.1, va_K.moved hW.alike hK, hw.2.2.1⟩, hw.2.2.2.1.F ht⟩) hw.2.2.2.1.2.2 dX10_why_131
      · have r_v_3 : RI v_3 (-1) (-1) := rc_eq1 r_v_3 rl_m1 (ti_eq c_103) (by decide)
        refine lv_iconst (v := 1) hx hb dX10_why_106 (by decide) ?_
        refine lv_goto (tgt := 131) hx hb dX10_why_107 (by decide) ?_
        subst hQ
        exact W.iret (v := 1) hx hb hr (fun t ht hW => ⟨⟨1, (), rfl, ⟨rl_1.to (by decide), (fun h0 => absurd h0 (by decide)), (fun h0 => trivial)⟩, by rw [ht]; exact hw.2.1, va_K.moved hW.alike hK, hw.2.2.1⟩, hw.2.2.2.1.F ht⟩) hw.2.2.2.1.2.2 dX10_why_131
    · exact absurd h_1 (by unfold RI at w_1; omega)
abbrev wr_X10_live__1 : List (Nat × Nat) := []
abbrev wa_X10_live__1 : List Nat := [34]
set_option maxHeartbeats 4000000 in
set_option maxRecDepth 100000 in
theorem c_X10_live__1 (l : Launch) (D : va_G) (cy : Nat → ClassId) (z : Nat → Nat) (sz : Nat) (Ps : PSI) (w0 : va_W) (hT : HT cy GG Ps w0) (p0 : Nat) (p1 : Int32) (p2 : Int32) (p3 : Int32) (h_p0 : (p0, 55) ∈ Ps) (r_p1 : RI p1 3 3) (r_p2 : RI p2 0 7) (r_p3 : RI p3 0 5) (x_SITOK_p0_p2 : AX 14 34 (fun f => 0 ≤ (f (112 + Int32.toNatClampNeg p2)).toInt) Ps w0 p0) : Met l yX10_live (Cond.code yX10_live cX10_live 4 none :: gT) ({ frames := 4, cells := 0, slots := 0, locals := 800 } : Room) (va_Pc [.ref p0, .int p1, .int p2, .int p3] (PRE D cy z w0 sz)) (va_Qv (fun (u : va_W) => (True) ∧ HT cy GG Ps u ∧ FR wr_X10_live__1 wa_X10_live__1 Ps w0 u) (BB D cy (va_A w0 sz) (fun (u : va_W) => u)) (va_A w0 sz)) 0 0 (va_A w0 sz) := by
  refine Met.ofW (cc := cX10_live) (maxL := 4) (ret := none) (by decide) rfl ?_
  intro p e s m args below meth c s₁ B hml hv
  obtain ⟨rfl, hsz, hP, hK, hD0, hSD⟩ := hv
  have hx := B.exec
  have hb := B.bytes
  have hr := B.returns
  have hlocks := B.notSynchronized
  have hts : ∀ w ∈ gT, w.before _ s = true := fun w h => atoms_spec (ws := Cond.code yX10_live cX10_live 4 none :: gT) B.pre w (List.mem_cons_of_mem _ h)
  have hown : s.vm.findClass RX10 = some m.cls := findClass_of_methodNamed B.named
  subst hsz
  have hD := hD0.self (sz := s.heap.size)
  generalize hAe : va_A w0 s.heap.size = A at hD hSD ⊢
  have hA : ∀ q : Nat, s.heap.size ≤ q → A q := fun q h => by rw [← hAe]; exact Or.inr h
  have hl := lv_entry ([.ref p0, .int p1, .int p2, .int p3]) (n := 4) (Nat.le_of_ble_eq_true rfl)
  rw [lg_entry_eq]
  generalize (lg_sl ([.ref p0, .int p1, .int p2, .int p3]) ++ List.replicate (4 - (lg_sl ([.ref p0, .int p1, .int p2, .int p3])).length) Slot.unset).toArray = ls at hl ⊢
  have hl : lv_has ls 4 [(0, .ref p0), (1, .int p1), (2, .int p2), (3, .int p3)] := hl
  refine nameQ (fun Q hQ => ?_)
  have hw : WD D cy GG A s wr_X10_live__1 wa_X10_live__1 Ps w0 Ps w0 s.heap [] := ⟨hT, hP, hD, va_S.rf, FR.rf, hT.1, [], (List.append_nil _).symm⟩
  refine lv_iload_n hx hb dX10_live_0 rfl (lv_at hl 1 rfl) ?_
  have w_1 := r_p1
  by_cases cl_1 : p1.toInt < 0 ∨ 4 < p1.toInt
  · refine lv_tableOut (tgt := 90) hx hb dX10_live_1 cl_1 (by decide) ?_
    exact absurd cl_1 (by unfold RI at w_1; omega)
  · have e_1 : p1.toInt = 0 ∨ p1.toInt = 1 ∨ p1.toInt = 2 ∨ p1.toInt = 3 ∨ p1.toInt = 4 := by omega
    rcases e_1 with h_1 | h_1 | h_1 | h_1 | h_1
    · exact absurd h_1 (by unfold RI at w_1; omega)
    · exact absurd h_1 (by unfold RI at w_1; omega)
    · exact absurd h_1 (by unfold RI at w_1; omega)
    · refine lv_tableIn (tgt := 69) (off := 68) hx hb dX10_live_1 (by omega) (by omega) (by rw [h_1]; rfl) (by decide) ?_
      have r_p1 : RI p1 3 3 := ⟨by omega, by omega⟩
      refine lv_aload_n hx hb dX10_live_69 rfl (lv_at hl 0 rfl) ?_
      refine lv_iload_n hx hb dX10_live_70 rfl (lv_at hl 2 rfl) ?_
      refine lv_iload_n hx hb dX10_live_71 rfl (lv_at hl 3 rfl) ?_
      refine tk_v (va_runV (As := [.int p2, .int p3]) (rest := []) ⟨hx, hb, hml, hown, hts⟩ (c_X10_doGuess l D cy z s.heap.size Ps w0 hw.1 p0 p2 p3 h_p0 r_p2 r_p3 x_SITOK_p0_p2) (cwV 2 hts (gV tw_1513 tw_1515 ts_80 tw_15 tw_1516) rfl rfl rfl (by decide +kernel) ⟨Nat.le_of_ble_eq_true rfl, Nat.le_of_ble_eq_true rfl⟩) (tg_preV hw hK hSD hA (ci := 10) (q := (RX10, TX10, 49)) rfl h_p0 rfl) rfl rfl hl.1 rfl (lv_room (Nat.le_of_ble_eq_true rfl)) dX10_live_72 ⟨Nat.le_of_ble_eq_true rfl, Nat.le_of_ble_eq_true rfl⟩) hw hA ⟨by decide, by decide⟩ (fun ws H locs hp_v_1 hw hF9 => ?_)
      subst hQ
      exact W.vret hx hb hr (fun t ht hW => ⟨⟨ws, rfl, ⟨trivial, hw.1, hw.2.2.2.2.1⟩, by rw [ht]; exact hw.2.1, va_K.moved hW.alike hK, hw.2.2.1⟩, hw.2.2.2.1.F ht⟩) hw.2.2.2.1.2.2 dX10_live_75
    · exact absurd h_1 (by unfold RI at w_1; omega)
abbrev wr_X10_act__1 : List (Nat × Nat) := [(10, 25)]
abbrev wa_X10_act__1 : List Nat := [34, 37]
set_option maxHeartbeats 4000000 in
set_option maxRecDepth 100000 in
theorem c_X10_act__1 (l : Launch) (D : va_G) (cy : Nat → ClassId) (z : Nat → Nat) (sz : Nat) (Ps : PSI) (w0 : va_W) (hT : HT cy GG Ps w0) (p0 : Nat) (p1 : Int32) (p2 : Int32) (p3 : Int32) (h_p0 : (p0, 55) ∈ Ps) (r_p1 : RI p1 3 3) (r_p2 : RI p2 0 7) (r_p3 : RI p3 0 5) : Met l yX10_act (Cond.code yX10_act cX10_act 5 (some .int) :: gT) ({ frames := 5, cells := 0, slots := 0, locals := 1000 } : Room) (va_Pc [.ref p0, .int p1, .int p2, .int p3] (PRE D cy z w0 sz)) (va_Qi (fun (r : Int32) (u : va_W) => (RI r 0 2 ∧ (r = 0 → (∃ v9 : Int32, FLD u p0 10 25 (.int v9) ∧ RI v9 1 8) ∧ True) ∧ (¬ r = 0 → True)) ∧ HT cy GG Ps u ∧ FR wr_X10_act__1 wa_X10_act__1 Ps w0 u) (BB D cy (va_A w0 sz) (fun (u : va_W) => u)) (va_A w0 sz)) 0 0 (va_A w0 sz) := by
  refine Met.ofW (cc := cX10_act) (maxL := 5) (ret := (some .int)) (by decide) rfl ?_
  intro p e s m args below meth c s₁ B hml hv
  obtain ⟨rfl, hsz, hP, hK, hD0, hSD⟩ := hv
  have hx := B.exec
  have hb := B.bytes
  have hr := B.returns
  have hlocks := B.notSynchronized
  have hts : ∀ w ∈ gT, w.before _ s = true := fun w h => atoms_spec (ws := Cond.code yX10_act cX10_act 5 (some .int) :: gT) B.pre w (List.mem_cons_of_mem _ h)
  have hown : s.vm.findClass RX10 = some m.cls := findClass_of_methodNamed B.named
  subst hsz
  have hD := hD0.self (sz := s.heap.size)
  generalize hAe : va_A w0 s.heap.size = A at hD hSD ⊢
  have hA : ∀ q : Nat, s.heap.size ≤ q → A q := fun q h => by rw [← hAe]; exact Or.inr h
  have hl := lv_entry ([.ref p0, .int p1, .int p2, .int p3]) (n := 5) (Nat.le_of_ble_eq_true rfl)
  rw [lg_entry_eq]
  generalize (lg_sl ([.ref p0, .int p1, .int p2, .int p3]) ++ List.replicate (5 - (lg_sl ([.ref p0, .int p1, .int p2, .int p3])).length) Slot.unset).toArray = ls at hl ⊢
  have hl : lv_has ls 5 [(0, .ref p0), (1, .int p1), (2, .int p2), (3, .int p3)] := hl
  refine nameQ (fun Q hQ => ?_)
  have hw : WD D cy GG A s wr_X10_act__1 wa_X10_act__1 Ps w0 Ps w0 s.heap [] := ⟨hT, hP, hD, va_S.rf, FR.rf, hT.1, [], (List.append_nil _).symm⟩
  refine lv_aload_n hx hb dX10_act_0 rfl (lv_at hl 0 rfl) ?_
  refine lv_iload_n hx hb dX10_act_1 rfl (lv_at hl 1 rfl) ?_
  refine lv_iload_n hx hb dX10_act_2 rfl (lv_at hl 2 rfl) ?_
  refine lv_iload_n hx hb dX10_act_3 rfl (lv_at hl 3 rfl) ?_
  refine tk_ir (va_runV (As := [.int p1, .int p2, .int p3]) (rest := []) ⟨hx, hb, hml, hown, hts⟩ (c_X10_why__1 l D cy z s.heap.size Ps w0 hw.1 p0 p1 p2 p3 h_p0 r_p1 r_p2 r_p3) (cwV 3 hts (gV tw_1501 tw_1503 ts_77 tw_15 tw_1504) rfl rfl rfl (by decide +kernel) ⟨Nat.le_of_ble_eq_true rfl, Nat.le_of_ble_eq_true rfl⟩) (tg_preV hw hK hSD hA (ci := 10) (q := (RX10, TX10, 49)) rfl h_p0 rfl) rfl rfl hl.1 rfl (lv_room (Nat.le_of_ble_eq_true rfl)) dX10_act_4 ⟨Nat.le_of_ble_eq_true rfl, Nat.le_of_ble_eq_true rfl⟩) hw hA (fun v_1  H locs hp_v_1 hw => ?_)
  have r_v_1 : RI v_1 0 2 := hp_v_1.1
  by_cases c9_v_1 : v_1 = 0
  · have r_v_1 : RI v_1 0 0 := by rw [c9_v_1]; exact rl_0
    have x_SITOK_p0_p2 := ((hp_v_1.2.1 c9_v_1).1)
    refine lv_istore (lv' := [(4, .int v_1), (0, .ref p0), (1, .int p1), (2, .int p2), (3, .int p3)]) hx hb dX10_act_7 hl (by decide) rfl (fun ls hl => ?_)
    refine lv_iload hx hb dX10_act_9 (lv_at hl 0 rfl) ?_
    refine lv_if_eq (tgt := 17) hx hb dX10_act_11 (by decide) (fun c_11 => ?_) (fun c_11 => ?_)
    · refine lv_aload_n hx hb dX10_act_17 rfl (lv_at hl 1 rfl) ?_
      refine tk_v (va_runV (As := []) (rest := []) ⟨hx, hb, hml, hown, hts⟩ (c_X10_snap l D cy z H.size Ps w0 hw.1 p0 h_p0) (cwV 0 hts (gV tw_1505 tw_1507 ts_78 tw_15 tw_1508) rfl rfl rfl (by decide +kernel) ⟨Nat.le_of_ble_eq_true rfl, Nat.le_of_ble_eq_true rfl⟩) (tg_preV hw hK hSD hA (ci := 10) (q := (RX10, TX10, 49)) rfl h_p0 rfl) rfl rfl hl.1 rfl (lv_room (Nat.le_of_ble_eq_true rfl)) dX10_act_18 ⟨Nat.le_of_ble_eq_true rfl, Nat.le_of_ble_eq_true rfl⟩) hw hA ⟨by decide, by decide⟩ (fun ws H locs hp_v_2 hw hF9 => ?_)
      have x_SITOK_p0_p2 := AX.over hF9 x_SITOK_p0_p2 (by decide)
      obtain ⟨v_3, m_v_3, r_v_3⟩ := (hp_v_2.1)
      refine lv_aload_n hx hb dX10_act_21 rfl (lv_at hl 1 rfl) ?_
      refine lv_iload_n hx hb dX10_act_22 rfl (lv_at hl 2 rfl) ?_
      refine lv_iload_n hx hb dX10_act_23 rfl (lv_at hl 3 rfl) ?_
      refine lv_iload_n hx hb dX10_act_24 rfl (lv_at hl 4 rfl) ?_
      refine tk_v (va_runV (As := [.int p1, .int p2, .int p3]) (rest := []) ⟨hx, hb, hml, hown, hts⟩ (c_X10_live__1 l D cy z H.size Ps ws hw.1 p0 p1 p2 p3 h_p0 r_p1 r_p2 r_p3 x_SITOK_p0_p2) (cwV 3 hts (gV tw_1509 tw_1511 ts_79 tw_15 tw_1512) rfl rfl rfl (by decide +kernel) ⟨Nat.le_of_ble_eq_true rfl, Nat.le_of_ble_eq_true rfl⟩) (tg_preV hw hK hSD hA (ci := 10) (q := (RX10, TX10, 49)) rfl h_p0 rfl) rfl rfl hl.1 rfl (lv_room (Nat.le_of_ble_eq_true rfl)) dX10_act_25 ⟨Nat.le_of_ble_eq_true rfl, Nat.le_of_ble_eq_true rfl⟩) hw hA ⟨by decide, by decide⟩ (fun ws H locs hp_v_4 hw hF9 => ?_)
      have m_v_3 := FLD.over hF9 m_v_3 (by decide)
      refine lv_iconst (v := 0) hx hb dX10_act_28 (by decide) ?_
      subst hQ
      exact W.iret (v := 0) hx hb hr (fun t ht hW => ⟨⟨0, ws, rfl, ⟨⟨rl_0.to (by decide), (fun h0 => ⟨⟨_, m_v_3, r_v_3⟩, trivial⟩), (fun _ => trivial)⟩, hw.1, hw.2.2.2.2.1⟩, by rw [ht]; exact hw.2.1, va_K.moved hW.alike hK, hw.2.2.1⟩, hw.2.2.2.1.F ht⟩) hw.2.2.2.1.2.2 dX10_act_29
    · exact absurd (r_v_1.eq.trans rl_0.eq.symm) ((ti_ne c_11))
  · have r_v_1 : RI v_1 1 2 := rc_neL r_v_1 rl_0 (ti_ne c9_v_1) (by decide)
    refine lv_istore (lv' := [(4, .int v_1), (0, .ref p0), (1, .int p1), (2, .int p2), (3, .int p3)]) hx hb dX10_act_7 hl (by decide) rfl (fun ls hl => ?_)
    refine lv_iload hx hb dX10_act_9 (lv_at hl 0 rfl) ?_
    refine lv_if_eq (tgt := 17) hx hb dX10_act_11 (by decide) (fun c_11 => ?_) (fun c_11 => ?_)
    · have r_v_1 : RI v_1 1 0 := rc_eq1 r_v_1 rl_0 (ti_eq c_11) (by decide)
      exact (r_v_1.no (by decide)).elim
    · refine lv_iload hx hb dX10_act_14 (lv_at hl 0 rfl) ?_
      subst hQ
      exact W.iret (v := v_1) hx hb hr (fun t ht hW => ⟨⟨v_1, w0, rfl, ⟨⟨r_v_1.to (by decide), (fun h0 => absurd (ti_eq h0) (by have h8 := r_v_1; unfold RI at h8; rw [Int32.toInt_zero]; omega)), (fun h0 => trivial)⟩, hw.1, hw.2.2.2.2.1⟩, by rw [ht]; exact hw.2.1, va_K.moved hW.alike hK, hw.2.2.1⟩, hw.2.2.2.1.F ht⟩) hw.2.2.2.1.2.2 dX10_act_16
abbrev wr_X10_guess : List (Nat × Nat) := [(10, 0), (10, 25)]
abbrev wa_X10_guess : List Nat := [34, 37]
set_option maxHeartbeats 4000000 in
set_option maxRecDepth 100000 in
theorem c_X10_guess (l : Launch) (D : va_G) (cy : Nat → ClassId) (z : Nat → Nat) (sz : Nat) (Ps : PSI) (w0 : va_W) (hT : HT cy GG Ps w0) (p0 : Nat) (p1 : Int32) (p2 : Int32) (h_p0 : (p0, 55) ∈ Ps) (r_p1 : RI p1 (-2147483648) 2147483647) (r_p2 : RI p2 (-2147483648) 2147483647) : Met l yX10_guess (Cond.code yX10_guess cX10_guess 5 (some .int) :: gT) ({ frames := 6, cells := 0, slots := 0, locals := 1200 } : Room) (va_Pc [.ref p0, .int p1, .int p2] (PRE D cy z w0 sz)) (va_Qi (fun (r : Int32) (u : va_W) => (RI r (-3) 1 ∧ (r = 0 → True) ∧ (¬ r = 0 → True)) ∧ HT cy GG Ps u ∧ FR wr_X10_guess wa_X10_guess Ps w0 u) (BB D cy (va_A w0 sz) (fun (u : va_W) => u)) (va_A w0 sz)) 0 0 (va_A w0 sz) := by
  refine Met.ofW (cc := cX10_guess) (maxL := 5) (ret := (some .int)) (by decide) rfl ?_
  intro p e s m args below meth c s₁ B hml hv
  obtain ⟨rfl, hsz, hP, hK, hD0, hSD⟩ := hv
  have hx := B.exec
  have hb := B.bytes
  have hr := B.returns
  have hlocks := B.notSynchronized
  have hts : ∀ w ∈ gT, w.before _ s = true := fun w h => atoms_spec (ws := Cond.code yX10_guess cX10_guess 5 (some .int) :: gT) B.pre w (List.mem_cons_of_mem _ h)
  have hown : s.vm.findClass RX10 = some m.cls := findClass_of_methodNamed B.named
  subst hsz
  have hD := hD0.self (sz := s.heap.size)
  generalize hAe : va_A w0 s.heap.size = A at hD hSD ⊢
  have hA : ∀ q : Nat, s.heap.size ≤ q → A q := fun q h => by rw [← hAe]; exact Or.inr h
  have hl := lv_entry ([.ref p0, .int p1, .int p2]) (n := 5) (Nat.le_of_ble_eq_true rfl)
  rw [lg_entry_eq]
  generalize (lg_sl ([.ref p0, .int p1, .int p2]) ++ List.replicate (5 - (lg_sl ([.ref p0, .int p1, .int p2])).length) Slot.unset).toArray = ls at hl ⊢
  have hl : lv_has ls 5 [(0, .ref p0), (1, .int p1), (2, .int p2)] := hl
  refine nameQ (fun Q hQ => ?_)
  have hw : WD D cy GG A s wr_X10_guess wa_X10_guess Ps w0 Ps w0 s.heap [] := ⟨hT, hP, hD, va_S.rf, FR.rf, hT.1, [], (List.append_nil _).symm⟩
  refine lv_aload_n hx hb dX10_guess_0 rfl (lv_at hl 0 rfl) ?_
  refine lv_iconst (v := 0) hx hb dX10_guess_1 (by decide) ?_
  refine tg_put (ci := 10) (ts := ty_MODEL) (v := .int 0) (ty := .int) (C := RX10) (T := TX10) (N := 49) hx hb hts inX10 tyX10 tyX10_ok nmX10 hown hK hw h_p0 rfl rfl 0 (by decide) (hts _ tw_1137) (fun _ h9 => h9) rfl (by decide +kernel) rfl rfl (ft := vI (-2147483648) 2147483647) rfl ⟨_, rfl, (rl_0.to (by decide))⟩ (by decide) dX10_guess_2 (fun ws H locs hw n_k_1 hF9 => ?_)
  refine lv_aload_n hx hb dX10_guess_5 rfl (lv_at hl 0 rfl) ?_
  refine lv_iload_n hx hb dX10_guess_6 rfl (lv_at hl 1 rfl) ?_
  refine tk_ir (va_runV (As := [.int p1]) (rest := []) ⟨hx, hb, hml, hown, hts⟩ (c_X10_isPerson l D cy z H.size Ps ws hw.1 p0 p1 h_p0 r_p1) (cwV 1 hts (gV tw_1469 tw_1471 ts_73 tw_15 tw_1472) rfl rfl rfl (by decide +kernel) ⟨Nat.le_of_ble_eq_true rfl, Nat.le_of_ble_eq_true rfl⟩) (tg_preV hw hK hSD hA (ci := 10) (q := (RX10, TX10, 49)) rfl h_p0 rfl) rfl rfl hl.1 rfl (lv_room (Nat.le_of_ble_eq_true rfl)) dX10_guess_7 ⟨Nat.le_of_ble_eq_true rfl, Nat.le_of_ble_eq_true rfl⟩) hw hA (fun v_2  H locs hp_v_2 hw => ?_)
  have r_v_2 : RI v_2 0 1 := hp_v_2.1
  refine lv_if_eq (tgt := 21) hx hb dX10_guess_10 (by decide) (fun c_10 => ?_) (fun c_10 => ?_)
  · have r_v_2 : RI v_2 0 0 := rc_eq1 r_v_2 rl_0 (ti_eq c_10) (by decide)
    refine lv_iconst (v := (-1)) hx hb dX10_guess_21 (by decide) ?_
    subst hQ
    exact W.iret (v := (-1)) hx hb hr (fun t ht hW => ⟨⟨(-1), ws, rfl, ⟨⟨rl_m1.to (by decide), (fun _ => trivial), (fun h0 => trivial)⟩, hw.1, hw.2.2.2.2.1⟩, by rw [ht]; exact hw.2.1, va_K.moved hW.alike hK, hw.2.2.1⟩, hw.2.2.2.1.F ht⟩) hw.2.2.2.1.2.2 dX10_guess_22
  · have r_v_2 : RI v_2 1 1 := rc_neL r_v_2 rl_0 (ti_ne c_10) (by decide)
    have r_p1 : RI p1 0 7 := ((hp_v_2.2.2 c_10).1)
    refine lv_aload_n hx hb dX10_guess_13 rfl (lv_at hl 0 rfl) ?_
    refine lv_iload_n hx hb dX10_guess_14 rfl (lv_at hl 2 rfl) ?_
    refine tk_ir (va_runV (As := [.int p2]) (rest := []) ⟨hx, hb, hml, hown, hts⟩ (c_X10_isIdea l D cy z H.size Ps ws hw.1 p0 p2 h_p0 r_p2) (cwV 1 hts (gV tw_1433 tw_1435 ts_66 tw_15 tw_1436) rfl rfl rfl (by decide +kernel) ⟨Nat.le_of_ble_eq_true rfl, Nat.le_of_ble_eq_true rfl⟩) (tg_preV hw hK hSD hA (ci := 10) (q := (RX10, TX10, 49)) rfl h_p0 rfl) rfl rfl hl.1 rfl (lv_room (Nat.le_of_ble_eq_true rfl)) dX10_guess_15 ⟨Nat.le_of_ble_eq_true rfl, Nat.le_of_ble_eq_true rfl⟩) hw hA (fun v_3  H locs hp_v_3 hw => ?_)
    have r_v_3 : RI v_3 0 1 := hp_v_3.1
    refine lv_if_ne (tgt := 23) hx hb dX10_guess_18 (by decide) (fun c_18 => ?_) (fun c_18 => ?_)
    · have r_v_3 : RI v_3 1 1 := rc_neL r_v_3 rl_0 (ti_ne c_18) (by decide)
      have r_p2 : RI p2 0 5 := ((hp_v_3.2.2 c_18).1)
      refine lv_aload_n hx hb dX10_guess_23 rfl (lv_at hl 0 rfl) ?_
      refine tg_get (ci := 10) (ts := ty_MODEL) (C := RX10) (T := TX10) (N := 49) hx hb hts inX10 hown hK hw h_p0 rfl rfl 14 (by decide) (hts _ tw_1151) (fun _ h9 => h9) (ft := vR 34) rfl dX10_guess_24 (fun u_4 hv_u_4 m_u_4 => ?_)
      obtain ⟨vu_4, rfl, h_vu_4⟩ := hv_u_4
      refine lv_bipush (v := 120) hx hb dX10_guess_27 (by decide) ?_
      refine lv_iload_n hx hb dX10_guess_29 rfl (lv_at hl 1 rfl) ?_
      refine lv_iadd hx hb dX10_guess_30 (lv_topi (fun v_5 e_v_5 => ?_))
      obtain ⟨t_v_5, r_v_5⟩ := tq_add (lo := 120) (hi := 127) rl_120 r_p1 (by decide +kernel) e_v_5
      have t_v_5 : v_5.toInt = 120 + p1.toInt := t_v_5
      refine tg_iald (lo := (-2147483648)) (hi := 2147483647) hx hb hK hw h_vu_4 rfl 120 127 r_v_5 (by decide) (by decide +kernel) dX10_guess_31 (fun v_6 r_v_6 m_v_6 o_v_6 => ?_)
      refine lv_istore_n (lv' := [(3, .int v_6), (0, .ref p0), (1, .int p1), (2, .int p2)]) hx hb dX10_guess_32 rfl hl (by decide) rfl (fun ls hl => ?_)
      refine lv_aload_n hx hb dX10_guess_33 rfl (lv_at hl 1 rfl) ?_
      refine lv_iconst (v := 3) hx hb dX10_guess_34 (by decide) ?_
      refine lv_iload_n hx hb dX10_guess_35 rfl (lv_at hl 2 rfl) ?_
      refine lv_iload_n hx hb dX10_guess_36 rfl (lv_at hl 3 rfl) ?_
      refine tk_i (va_runV (As := [.int 3, .int p1, .int p2]) (rest := []) ⟨hx, hb, hml, hown, hts⟩ (c_X10_act__1 l D cy z H.size Ps ws hw.1 p0 3 p1 p2 h_p0 rl_3 r_p1 r_p2) (cwV 3 hts (gV tw_1497 tw_1499 ts_76 tw_15 tw_1500) rfl rfl rfl (by decide +kernel) ⟨Nat.le_of_ble_eq_true rfl, Nat.le_of_ble_eq_true rfl⟩) (tg_preV hw hK hSD hA (ci := 10) (q := (RX10, TX10, 49)) rfl h_p0 rfl) rfl rfl hl.1 rfl (lv_room (Nat.le_of_ble_eq_true rfl)) dX10_guess_37 ⟨Nat.le_of_ble_eq_true rfl, Nat.le_of_ble_eq_true rfl⟩) hw hA ⟨by decide, by decide⟩ (fun v_7 ws H locs hp_v_7 hw hF9 => ?_)
      have n_k_1 := FLD.over hF9 n_k_1 (by decide)
      have r_v_7 : RI v_7 0 2 := hp_v_7.1
      by_cases c9_v_7 : v_7 = 0
      · have r_v_7 : RI v_7 0 0 := by rw [c9_v_7]; exact rl_0
        obtain ⟨v_8, m_v_8, r_v_8⟩ := ((hp_v_7.2.1 c9_v_7).1)
        refine lv_istore (lv' := [(4, .int v_7), (3, .int v_6), (0, .ref p0), (1, .int p1), (2, .int p2)]) hx hb dX10_guess_40 hl (by decide) rfl (fun ls hl => ?_)
        refine lv_iload hx hb dX10_guess_42 (lv_at hl 0 rfl) ?_
        refine lv_if_eq (tgt := 54) hx hb dX10_guess_44 (by decide) (fun c_44 => ?_) (fun c_44 => ?_)
        · refine lv_aload_n hx hb dX10_guess_54 rfl (lv_at hl 2 rfl) ?_
          refine tg_get (ci := 10) (ts := ty_MODEL) (C := RX10) (T := TX10) (N := 49) hx hb hts inX10 hown hK hw h_p0 rfl rfl 14 (by decide) (hts _ tw_1151) (fun _ h9 => h9) (ft := vR 34) rfl dX10_guess_55 (fun u_9 hv_u_9 m_u_9 => ?_)
          obtain ⟨vu_9, rfl, h_vu_9⟩ := hv_u_9
          refine lv_bipush (v := 120) hx hb dX10_guess_58 (by decide) ?_
          refine lv_iload_n hx hb dX10_guess_60 rfl (lv_at hl 3 rfl) ?_
          refine lv_iadd hx hb dX10_guess_61 (lv_topi (fun v_10 e_v_10 => ?_))
          obtain ⟨t_v_10, r_v_10⟩ := tq_add (lo := 120) (hi := 127) rl_120 r_p1 (by decide +kernel) e_v_10
          have t_v_10 : v_10.toInt = 120 + p1.toInt := t_v_10
          refine tg_iald (lo := (-2147483648)) (hi := 2147483647) hx hb hK hw h_vu_9 rfl 120 127 r_v_10 (by decide) (by decide +kernel) dX10_guess_62 (fun v_11 r_v_11 m_v_11 o_v_11 => ?_)
          refine lv_iload_n hx hb dX10_guess_63 rfl (lv_at hl 1 rfl) ?_
          refine lv_icmp_le (tgt := 71) hx hb dX10_guess_64 (by decide) (fun c_64 => ?_) (fun c_64 => ?_)
          · refine lv_iconst (v := 0) hx hb dX10_guess_71 (by decide) ?_
            subst hQ
            exact W.iret (v := 0) hx hb hr (fun t ht hW => ⟨⟨0, ws, rfl, ⟨⟨rl_0.to (by decide), (fun h0 => trivial), (fun _ => trivial)⟩, hw.1, hw.2.2.2.2.1⟩, by rw [ht]; exact hw.2.1, va_K.moved hW.alike hK, hw.2.2.1⟩, hw.2.2.2.1.F ht⟩) hw.2.2.2.1.2.2 dX10_guess_72
          · have r_v_6 : RI v_6 (-2147483648) 2147483646 := rc_lt1 r_v_6 r_v_11 (ti_nle c_64) (by decide)
            have r_v_11 : RI v_11 (-2147483647) 2147483647 := rc_lt2 r_v_6 r_v_11 (ti_nle c_64) (by decide)
            refine lv_iconst (v := 1) hx hb dX10_guess_67 (by decide) ?_
            refine lv_goto (tgt := 72) hx hb dX10_guess_68 (by decide) ?_
            subst hQ
            exact W.iret (v := 1) hx hb hr (fun t ht hW => ⟨⟨1, ws, rfl, ⟨⟨rl_1.to (by decide), (fun _ => trivial), (fun h0 => trivial)⟩, hw.1, hw.2.2.2.2.1⟩, by rw [ht]; exact hw.2.1, va_K.moved hW.alike hK, hw.2.2.1⟩, hw.2.2.2.1.F ht⟩) hw.2.2.2.1.2.2 dX10_guess_72
        · exact absurd (r_v_7.eq.trans rl_0.eq.symm) ((ti_ne c_44))
      · have r_v_7 : RI v_7 1 2 := rc_neL r_v_7 rl_0 (ti_ne c9_v_7) (by decide)
        refine lv_istore (lv' := [(4, .int v_7), (3, .int v_6), (0, .ref p0), (1, .int p1), (2, .int p2)]) hx hb dX10_guess_40 hl (by decide) rfl (fun ls hl => ?_)
        refine lv_iload hx hb dX10_guess_42 (lv_at hl 0 rfl) ?_
        refine lv_if_eq (tgt := 54) hx hb dX10_guess_44 (by decide) (fun c_44 => ?_) (fun c_44 => ?_)
        · have r_v_7 : RI v_7 1 0 := rc_eq1 r_v_7 rl_0 (ti_eq c_44) (by decide)
          exact (r_v_7.no (by decide)).elim
        · refine lv_iconst (v := (-1)) hx hb dX10_guess_47 (by decide) ?_
          refine lv_iload hx hb dX10_guess_48 (lv_at hl 0 rfl) ?_
          refine lv_isub hx hb dX10_guess_50 (lv_topi (fun v_12 e_v_12 => ?_))
          obtain ⟨t_v_12, r_v_12⟩ := tq_sub (lo := (-3)) (hi := (-2)) rl_m1 r_v_7 (by decide +kernel) e_v_12
          have t_v_12 : v_12.toInt = (-1) - v_7.toInt := t_v_12
          refine lv_goto (tgt := 72) hx hb dX10_guess_51 (by decide) ?_
          subst hQ
          exact W.iret (v := v_12) hx hb hr (fun t ht hW => ⟨⟨v_12, ws, rfl, ⟨⟨r_v_12.to (by decide), (fun _ => trivial), (fun h0 => trivial)⟩, hw.1, hw.2.2.2.2.1⟩, by rw [ht]; exact hw.2.1, va_K.moved hW.alike hK, hw.2.2.1⟩, hw.2.2.2.1.F ht⟩) hw.2.2.2.1.2.2 dX10_guess_72
    · have r_v_3 : RI v_3 0 0 := rc_eq1 r_v_3 rl_0 (ti_eq c_18) (by decide)
      refine lv_iconst (v := (-1)) hx hb dX10_guess_21 (by decide) ?_
      subst hQ
      exact W.iret (v := (-1)) hx hb hr (fun t ht hW => ⟨⟨(-1), ws, rfl, ⟨⟨rl_m1.to (by decide), (fun _ => trivial), (fun h0 => trivial)⟩, hw.1, hw.2.2.2.2.1⟩, by rw [ht]; exact hw.2.1, va_K.moved hW.alike hK, hw.2.2.1⟩, hw.2.2.2.1.F ht⟩) hw.2.2.2.1.2.2 dX10_guess_22
abbrev wr_X10_hold : List (Nat × Nat) := []
abbrev wa_X10_hold : List Nat := [39]
set_option maxHeartbeats 4000000 in
set_option maxRecDepth 100000 in
theorem c_X10_hold (l : Launch) (D : va_G) (cy : Nat → ClassId) (z : Nat → Nat) (sz : Nat) (Ps : PSI) (w0 : va_W) (hT : HT cy GG Ps w0) (p0 : Nat) (h_p0 : (p0, 55) ∈ Ps) : Met l yX10_hold (Cond.code yX10_hold cX10_hold 2 none :: gT) ({ frames := 0, cells := 0, slots := 0, locals := 200 } : Room) (va_Pc [.ref p0] (PRE D cy z w0 sz)) (va_Qv (fun (u : va_W) => (True) ∧ HT cy GG Ps u ∧ FR wr_X10_hold wa_X10_hold Ps w0 u) (BB D cy (va_A w0 sz) (fun (u : va_W) => u)) (va_A w0 sz)) 0 0 (va_A w0 sz) := by
  refine Met.ofW (cc := cX10_hold) (maxL := 2) (ret := none) (by decide) rfl ?_
  intro p e s m args below meth c s₁ B hml hv
  obtain ⟨rfl, hsz, hP, hK, hD0, hSD⟩ := hv
  have hx := B.exec
  have hb := B.bytes
  have hr := B.returns
  have hlocks := B.notSynchronized
  have hts : ∀ w ∈ gT, w.before _ s = true := fun w h => atoms_spec (ws := Cond.code yX10_hold cX10_hold 2 none :: gT) B.pre w (List.mem_cons_of_mem _ h)
  have hown : s.vm.findClass RX10 = some m.cls := findClass_of_methodNamed B.named
  subst hsz
  have hD := hD0.self (sz := s.heap.size)
  generalize hAe : va_A w0 s.heap.size = A at hD hSD ⊢
  have hA : ∀ q : Nat, s.heap.size ≤ q → A q := fun q h => by rw [← hAe]; exact Or.inr h
  have hl := lv_entry ([.ref p0]) (n := 2) (Nat.le_of_ble_eq_true rfl)
  rw [lg_entry_eq]
  generalize (lg_sl ([.ref p0]) ++ List.replicate (2 - (lg_sl ([.ref p0])).length) Slot.unset).toArray = ls at hl ⊢
  have hl : lv_has ls 2 [(0, .ref p0)] := hl
  refine nameQ (fun Q hQ => ?_)
  have hw : WD D cy GG A s wr_X10_hold wa_X10_hold Ps w0 Ps w0 s.heap [] := ⟨hT, hP, hD, va_S.rf, FR.rf, hT.1, [], (List.append_nil _).symm⟩
  have B2 : ∀ (nf : Nat) (x1 : Int32) (ws : va_W) (H : Heap) (locs : List Loc) (ls : Array Slot), 88 - x1.toInt < (nf : Int) → RI x1 0 88 → WD D cy GG A s wr_X10_hold wa_X10_hold Ps w0 Ps ws H locs → lv_has ls 2 [(0, .ref p0), (1, .int x1)] → W p l e (headSpec (Cond.code yX10_hold cX10_hold 2 none :: gT) ({ frames := 0, cells := 0, slots := 0, locals := 200 } : Room)).room s m ([.ref p0] : List Value).toArray below meth c H locs 0 0 Q (F0 m 2 ls []) := by
    intro nf2
    induction nf2 with
    | zero =>
      intro x1 ws H locs ls hn2 r_x1 hw hl
      exact absurd hn2 (by have q0 := r_x1.1; have u0 := r_x1.2; omega)
    | succ nf2 ih2 =>
      intro x1 ws H locs ls hn2 r_x1 hw hl
      refine lv_iload_n hx hb dX10_hold_2 rfl (lv_at hl 1 rfl) ?_
      refine lv_bipush (v := 88) hx hb dX10_hold_3 (by decide) ?_
      refine lv_icmp_ge (tgt := 29) hx hb dX10_hold_5 (by decide) (fun c_5 => ?_) (fun c_5 => ?_)
      · have r_x1 : RI x1 88 88 := rc_le2 rl_88 r_x1 (ti_le c_5) (by decide)
        subst hQ
        exact W.vret hx hb hr (fun t ht hW => ⟨⟨ws, rfl, ⟨trivial, hw.1, hw.2.2.2.2.1⟩, by rw [ht]; exact hw.2.1, va_K.moved hW.alike hK, hw.2.2.1⟩, hw.2.2.2.1.F ht⟩) hw.2.2.2.1.2.2 dX10_hold_29
      · have r_x1 : RI x1 0 87 := rc_lt1 r_x1 rl_88 (ti_nle c_5) (by decide)
        refine lv_aload_n hx hb dX10_hold_8 rfl (lv_at hl 0 rfl) ?_
        refine tg_get (ci := 10) (ts := ty_MODEL) (C := RX10) (T := TX10) (N := 49) hx hb hts inX10 hown hK hw h_p0 rfl rfl 19 (by decide) (hts _ tw_1156) (fun _ h9 => h9) (ft := vR 39) rfl dX10_hold_9 (fun u_1 hv_u_1 m_u_1 => ?_)
        obtain ⟨vu_1, rfl, h_vu_1⟩ := hv_u_1
        refine lv_iload_n hx hb dX10_hold_12 rfl (lv_at hl 1 rfl) ?_
        refine lv_aload_n hx hb dX10_hold_13 rfl (lv_at hl 0 rfl) ?_
        refine tg_get (ci := 10) (ts := ty_MODEL) (C := RX10) (T := TX10) (N := 49) hx hb hts inX10 hown hK hw h_p0 rfl rfl 14 (by decide) (hts _ tw_1151) (fun _ h9 => h9) (ft := vR 34) rfl dX10_hold_14 (fun u_2 hv_u_2 m_u_2 => ?_)
        obtain ⟨vu_2, rfl, h_vu_2⟩ := hv_u_2
        refine lv_bipush (v := 84) hx hb dX10_hold_17 (by decide) ?_
        refine lv_iload_n hx hb dX10_hold_19 rfl (lv_at hl 1 rfl) ?_
        refine lv_iadd hx hb dX10_hold_20 (lv_topi (fun v_3 e_v_3 => ?_))
        obtain ⟨t_v_3, r_v_3⟩ := tq_add (lo := 84) (hi := 171) rl_84 r_x1 (by decide +kernel) e_v_3
        have t_v_3 : v_3.toInt = 84 + x1.toInt := t_v_3
        refine tg_iald (lo := (-2147483648)) (hi := 2147483647) hx hb hK hw h_vu_2 rfl 84 171 r_v_3 (by decide) (by decide +kernel) dX10_hold_21 (fun v_4 r_v_4 m_v_4 o_v_4 => ?_)
        have e_5 : v_3.toNatClampNeg = 84 + x1.toNatClampNeg := by have k1 := r_v_3.cl (by decide); have k2 := r_x1.cl (by decide); have b10 := r_x1.1; have b20 := r_x1.2; have b11 := r_v_3.1; have b21 := r_v_3.2; have b12 := r_v_4.1; have b22 := r_v_4.2; omega
        refine tg_iasto hx hb hK hw h_vu_1 rfl 0 87 r_x1 (by decide) (show RI _ (canon (84 + x1.toNatClampNeg)).1 (canon (84 + x1.toNatClampNeg)).2 by rw [← e_5]; exact o_v_4) (fun _ _ _ _ _ => trivial) (by decide) dX10_hold_22 (fun ws H locs hw hF9 hU9 => ?_)
        obtain ⟨v_6, e_v_6⟩ : ∃ q9 : Int32, q9 = x1 + Int32.ofInt 1 := ⟨_, rfl⟩
        obtain ⟨t_v_6, r_v_6⟩ := tq_add (lo := 1) (hi := 88) r_x1 (show RI (Int32.ofInt 1) 1 1 by unfold RI; decide +kernel) (by decide +kernel) e_v_6
        have t_v_6 : v_6.toInt = x1.toInt + 1 := t_v_6
        refine lv_iinc (v := v_6) (lv' := [(1, .int v_6), (0, .ref p0)]) hx hb dX10_hold_23 hl (k := 1) rfl e_v_6.symm (by decide) rfl (fun ls hl => ?_)
        refine lv_goto (tgt := 2) hx hb dX10_hold_26 (by decide) ?_
        exact ih2 v_6 ws _ _ ls (by have q0 := r_v_6.1; have u0 := r_v_6.2; have o0 := r_x1.1; have p0 := r_x1.2; omega) (r_v_6.to (by decide)) hw (lv_sub hl [1, 0] rfl)
  refine lv_iconst (v := 0) hx hb dX10_hold_0 (by decide) ?_
  refine lv_istore_n (lv' := [(1, .int 0), (0, .ref p0)]) hx hb dX10_hold_1 rfl hl (by decide) rfl (fun ls hl => ?_)
  exact B2 4294967298 0 w0 _ _ ls (by have q0 := rl_0.1; have u0 := rl_0.2; omega) (rl_0.to (by decide)) hw (lv_sub hl [1, 0] rfl)
abbrev wr_X10_layAside : List (Nat × Nat) := []
abbrev wa_X10_layAside : List Nat := [38]
set_option maxHeartbeats 4000000 in
set_option maxRecDepth 100000 in
theorem c_X10_layAside (l : Launch) (D : va_G) (cy : Nat → ClassId) (z : Nat → Nat) (sz : Nat) (Ps : PSI) (w0 : va_W) (hT : HT cy GG Ps w0) (p0 : Nat) (h_p0 : (p0, 55) ∈ Ps) : Met l yX10_layAside (Cond.code yX10_layAside cX10_layAside 2 none :: gT) ({ frames := 0, cells := 0, slots := 0, locals := 200 } : Room) (va_Pc [.ref p0] (PRE D cy z w0 sz)) (va_Qv (fun (u : va_W) => (True) ∧ HT cy GG Ps u ∧ FR wr_X10_layAside wa_X10_layAside Ps w0 u) (BB D cy (va_A w0 sz) (fun (u : va_W) => u)) (va_A w0 sz)) 0 0 (va_A w0 sz) := by
  refine Met.ofW (cc := cX10_layAside) (maxL := 2) (ret := none) (by decide) rfl ?_
  intro p e s m args below meth c s₁ B hml hv
  obtain ⟨rfl, hsz, hP, hK, hD0, hSD⟩ := hv
  have hx := B.exec
  have hb := B.bytes
  have hr := B.returns
  have hlocks := B.notSynchronized
  have hts : ∀ w ∈ gT, w.before _ s = true := fun w h => atoms_spec (ws := Cond.code yX10_layAside cX10_layAside 2 none :: gT) B.pre w (List.mem_cons_of_mem _ h)
  have hown : s.vm.findClass RX10 = some m.cls := findClass_of_methodNamed B.named
  subst hsz
  have hD := hD0.self (sz := s.heap.size)
  generalize hAe : va_A w0 s.heap.size = A at hD hSD ⊢
  have hA : ∀ q : Nat, s.heap.size ≤ q → A q := fun q h => by rw [← hAe]; exact Or.inr h
  have hl := lv_entry ([.ref p0]) (n := 2) (Nat.le_of_ble_eq_true rfl)
  rw [lg_entry_eq]
  generalize (lg_sl ([.ref p0]) ++ List.replicate (2 - (lg_sl ([.ref p0])).length) Slot.unset).toArray = ls at hl ⊢
  have hl : lv_has ls 2 [(0, .ref p0)] := hl
  refine nameQ (fun Q hQ => ?_)
  have hw : WD D cy GG A s wr_X10_layAside wa_X10_layAside Ps w0 Ps w0 s.heap [] := ⟨hT, hP, hD, va_S.rf, FR.rf, hT.1, [], (List.append_nil _).symm⟩
  have B2 : ∀ (nf : Nat) (x1 : Int32) (ws : va_W) (H : Heap) (locs : List Loc) (ls : Array Slot), 88 - x1.toInt < (nf : Int) → RI x1 0 88 → WD D cy GG A s wr_X10_layAside wa_X10_layAside Ps w0 Ps ws H locs → lv_has ls 2 [(0, .ref p0), (1, .int x1)] → W p l e (headSpec (Cond.code yX10_layAside cX10_layAside 2 none :: gT) ({ frames := 0, cells := 0, slots := 0, locals := 200 } : Room)).room s m ([.ref p0] : List Value).toArray below meth c H locs 0 0 Q (F0 m 2 ls []) := by
    intro nf2
    induction nf2 with
    | zero =>
      intro x1 ws H locs ls hn2 r_x1 hw hl
      exact absurd hn2 (by have q0 := r_x1.1; have u0 := r_x1.2; omega)
    | succ nf2 ih2 =>
      intro x1 ws H locs ls hn2 r_x1 hw hl
      refine lv_iload_n hx hb dX10_layAside_2 rfl (lv_at hl 1 rfl) ?_
      refine lv_bipush (v := 88) hx hb dX10_layAside_3 (by decide) ?_
      refine lv_icmp_ge (tgt := 29) hx hb dX10_layAside_5 (by decide) (fun c_5 => ?_) (fun c_5 => ?_)
      · have r_x1 : RI x1 88 88 := rc_le2 rl_88 r_x1 (ti_le c_5) (by decide)
        subst hQ
        exact W.vret hx hb hr (fun t ht hW => ⟨⟨ws, rfl, ⟨trivial, hw.1, hw.2.2.2.2.1⟩, by rw [ht]; exact hw.2.1, va_K.moved hW.alike hK, hw.2.2.1⟩, hw.2.2.2.1.F ht⟩) hw.2.2.2.1.2.2 dX10_layAside_29
      · have r_x1 : RI x1 0 87 := rc_lt1 r_x1 rl_88 (ti_nle c_5) (by decide)
        refine lv_aload_n hx hb dX10_layAside_8 rfl (lv_at hl 0 rfl) ?_
        refine tg_get (ci := 10) (ts := ty_MODEL) (C := RX10) (T := TX10) (N := 49) hx hb hts inX10 hown hK hw h_p0 rfl rfl 18 (by decide) (hts _ tw_1155) (fun _ h9 => h9) (ft := vR 38) rfl dX10_layAside_9 (fun u_1 hv_u_1 m_u_1 => ?_)
        obtain ⟨vu_1, rfl, h_vu_1⟩ := hv_u_1
        refine lv_iload_n hx hb dX10_layAside_12 rfl (lv_at hl 1 rfl) ?_
        refine lv_aload_n hx hb dX10_layAside_13 rfl (lv_at hl 0 rfl) ?_
        refine tg_get (ci := 10) (ts := ty_MODEL) (C := RX10) (T := TX10) (N := 49) hx hb hts inX10 hown hK hw h_p0 rfl rfl 14 (by decide) (hts _ tw_1151) (fun _ h9 => h9) (ft := vR 34) rfl dX10_layAside_14 (fun u_2 hv_u_2 m_u_2 => ?_)
        obtain ⟨vu_2, rfl, h_vu_2⟩ := hv_u_2
        refine lv_bipush (v := 84) hx hb dX10_layAside_17 (by decide) ?_
        refine lv_iload_n hx hb dX10_layAside_19 rfl (lv_at hl 1 rfl) ?_
        refine lv_iadd hx hb dX10_layAside_20 (lv_topi (fun v_3 e_v_3 => ?_))
        obtain ⟨t_v_3, r_v_3⟩ := tq_add (lo := 84) (hi := 171) rl_84 r_x1 (by decide +kernel) e_v_3
        have t_v_3 : v_3.toInt = 84 + x1.toInt := t_v_3
        refine tg_iald (lo := (-2147483648)) (hi := 2147483647) hx hb hK hw h_vu_2 rfl 84 171 r_v_3 (by decide) (by decide +kernel) dX10_layAside_21 (fun v_4 r_v_4 m_v_4 o_v_4 => ?_)
        have e_5 : v_3.toNatClampNeg = 84 + x1.toNatClampNeg := by have k1 := r_v_3.cl (by decide); have k2 := r_x1.cl (by decide); have b10 := r_x1.1; have b20 := r_x1.2; have b11 := r_v_3.1; have b21 := r_v_3.2; have b12 := r_v_4.1; have b22 := r_v_4.2; omega
        refine tg_iasto hx hb hK hw h_vu_1 rfl 0 87 r_x1 (by decide) (show RI _ (canon (84 + x1.toNatClampNeg)).1 (canon (84 + x1.toNatClampNeg)).2 by rw [← e_5]; exact o_v_4) (fun _ _ _ _ _ => trivial) (by decide) dX10_layAside_22 (fun ws H locs hw hF9 hU9 => ?_)
        obtain ⟨v_6, e_v_6⟩ : ∃ q9 : Int32, q9 = x1 + Int32.ofInt 1 := ⟨_, rfl⟩
        obtain ⟨t_v_6, r_v_6⟩ := tq_add (lo := 1) (hi := 88) r_x1 (show RI (Int32.ofInt 1) 1 1 by unfold RI; decide +kernel) (by decide +kernel) e_v_6
        have t_v_6 : v_6.toInt = x1.toInt + 1 := t_v_6
        refine lv_iinc (v := v_6) (lv' := [(1, .int v_6), (0, .ref p0)]) hx hb dX10_layAside_23 hl (k := 1) rfl e_v_6.symm (by decide) rfl (fun ls hl => ?_)
        refine lv_goto (tgt := 2) hx hb dX10_layAside_26 (by decide) ?_
        exact ih2 v_6 ws _ _ ls (by have q0 := r_v_6.1; have u0 := r_v_6.2; have o0 := r_x1.1; have p0 := r_x1.2; omega) (r_v_6.to (by decide)) hw (lv_sub hl [1, 0] rfl)
  refine lv_iconst (v := 0) hx hb dX10_layAside_0 (by decide) ?_
  refine lv_istore_n (lv' := [(1, .int 0), (0, .ref p0)]) hx hb dX10_layAside_1 rfl hl (by decide) rfl (fun ls hl => ?_)
  exact B2 4294967298 0 w0 _ _ ls (by have q0 := rl_0.1; have u0 := rl_0.2; omega) (rl_0.to (by decide)) hw (lv_sub hl [1, 0] rfl)
abbrev wr_X10_much : List (Nat × Nat) := [(10, 0)]
abbrev wa_X10_much : List Nat := []
set_option maxHeartbeats 4000000 in
set_option maxRecDepth 100000 in
theorem c_X10_much (l : Launch) (D : va_G) (cy : Nat → ClassId) (z : Nat → Nat) (sz : Nat) (Ps : PSI) (w0 : va_W) (hT : HT cy GG Ps w0) (p0 : Nat) (p1 : Int32) (p2 : Int32) (h_p0 : (p0, 55) ∈ Ps) (r_p1 : RI p1 (-2147483648) 2147483647) (r_p2 : RI p2 (-2147483648) 2147483647) : Met l yX10_much (Cond.code yX10_much cX10_much 3 (some .int) :: gT) ({ frames := 3, cells := 0, slots := 0, locals := 600 } : Room) (va_Pc [.ref p0, .int p1, .int p2] (PRE D cy z w0 sz)) (va_Qi (fun (r : Int32) (u : va_W) => (RI r (-2147483648) 2147483647 ∧ (r = 0 → True) ∧ (¬ r = 0 → True)) ∧ HT cy GG Ps u ∧ FR wr_X10_much wa_X10_much Ps w0 u) (BB D cy (va_A w0 sz) (fun (u : va_W) => u)) (va_A w0 sz)) 0 0 (va_A w0 sz) := by
  refine Met.ofW (cc := cX10_much) (maxL := 3) (ret := (some .int)) (by decide) rfl ?_
  intro p e s m args below meth c s₁ B hml hv
  obtain ⟨rfl, hsz, hP, hK, hD0, hSD⟩ := hv
  have hx := B.exec
  have hb := B.bytes
  have hr := B.returns
  have hlocks := B.notSynchronized
  have hts : ∀ w ∈ gT, w.before _ s = true := fun w h => atoms_spec (ws := Cond.code yX10_much cX10_much 3 (some .int) :: gT) B.pre w (List.mem_cons_of_mem _ h)
  have hown : s.vm.findClass RX10 = some m.cls := findClass_of_methodNamed B.named
  subst hsz
  have hD := hD0.self (sz := s.heap.size)
  generalize hAe : va_A w0 s.heap.size = A at hD hSD ⊢
  have hA : ∀ q : Nat, s.heap.size ≤ q → A q := fun q h => by rw [← hAe]; exact Or.inr h
  have hl := lv_entry ([.ref p0, .int p1, .int p2]) (n := 3) (Nat.le_of_ble_eq_true rfl)
  rw [lg_entry_eq]
  generalize (lg_sl ([.ref p0, .int p1, .int p2]) ++ List.replicate (3 - (lg_sl ([.ref p0, .int p1, .int p2])).length) Slot.unset).toArray = ls at hl ⊢
  have hl : lv_has ls 3 [(0, .ref p0), (1, .int p1), (2, .int p2)] := hl
  refine nameQ (fun Q hQ => ?_)
  have hw : WD D cy GG A s wr_X10_much wa_X10_much Ps w0 Ps w0 s.heap [] := ⟨hT, hP, hD, va_S.rf, FR.rf, hT.1, [], (List.append_nil _).symm⟩
  refine lv_aload_n hx hb dX10_much_0 rfl (lv_at hl 0 rfl) ?_
  refine lv_iconst (v := 0) hx hb dX10_much_1 (by decide) ?_
  refine tg_put (ci := 10) (ts := ty_MODEL) (v := .int 0) (ty := .int) (C := RX10) (T := TX10) (N := 49) hx hb hts inX10 tyX10 tyX10_ok nmX10 hown hK hw h_p0 rfl rfl 0 (by decide) (hts _ tw_1137) (fun _ h9 => h9) rfl (by decide +kernel) rfl rfl (ft := vI (-2147483648) 2147483647) rfl ⟨_, rfl, (rl_0.to (by decide))⟩ (by decide) dX10_much_2 (fun ws H locs hw n_k_1 hF9 => ?_)
  refine lv_aload_n hx hb dX10_much_5 rfl (lv_at hl 0 rfl) ?_
  refine lv_iload_n hx hb dX10_much_6 rfl (lv_at hl 1 rfl) ?_
  refine tk_ir (va_runV (As := [.int p1]) (rest := []) ⟨hx, hb, hml, hown, hts⟩ (c_X10_isParcel l D cy z H.size Ps ws hw.1 p0 p1 h_p0 r_p1) (cwV 1 hts (gV tw_1429 tw_1431 ts_65 tw_15 tw_1432) rfl rfl rfl (by decide +kernel) ⟨Nat.le_of_ble_eq_true rfl, Nat.le_of_ble_eq_true rfl⟩) (tg_preV hw hK hSD hA (ci := 10) (q := (RX10, TX10, 49)) rfl h_p0 rfl) rfl rfl hl.1 rfl (lv_room (Nat.le_of_ble_eq_true rfl)) dX10_much_7 ⟨Nat.le_of_ble_eq_true rfl, Nat.le_of_ble_eq_true rfl⟩) hw hA (fun v_2  H locs hp_v_2 hw => ?_)
  have r_v_2 : RI v_2 0 1 := hp_v_2.1
  refine lv_if_eq (tgt := 30) hx hb dX10_much_10 (by decide) (fun c_10 => ?_) (fun c_10 => ?_)
  · have r_v_2 : RI v_2 0 0 := rc_eq1 r_v_2 rl_0 (ti_eq c_10) (by decide)
    refine lv_iconst (v := (-1)) hx hb dX10_much_30 (by decide) ?_
    subst hQ
    exact W.iret (v := (-1)) hx hb hr (fun t ht hW => ⟨⟨(-1), ws, rfl, ⟨⟨rl_m1.to (by decide), (fun _ => trivial), (fun h0 => trivial)⟩, hw.1, hw.2.2.2.2.1⟩, by rw [ht]; exact hw.2.1, va_K.moved hW.alike hK, hw.2.2.1⟩, hw.2.2.2.1.F ht⟩) hw.2.2.2.1.2.2 dX10_much_31
  · have r_v_2 : RI v_2 1 1 := rc_neL r_v_2 rl_0 (ti_ne c_10) (by decide)
    have r_p1 : RI p1 0 5 := ((hp_v_2.2.2 c_10).1)
    refine lv_aload_n hx hb dX10_much_13 rfl (lv_at hl 0 rfl) ?_
    refine lv_iload_n hx hb dX10_much_14 rfl (lv_at hl 2 rfl) ?_
    refine tk_ir (va_runV (As := [.int p2]) (rest := []) ⟨hx, hb, hml, hown, hts⟩ (c_X10_isIdea l D cy z H.size Ps ws hw.1 p0 p2 h_p0 r_p2) (cwV 1 hts (gV tw_1433 tw_1435 ts_66 tw_15 tw_1436) rfl rfl rfl (by decide +kernel) ⟨Nat.le_of_ble_eq_true rfl, Nat.le_of_ble_eq_true rfl⟩) (tg_preV hw hK hSD hA (ci := 10) (q := (RX10, TX10, 49)) rfl h_p0 rfl) rfl rfl hl.1 rfl (lv_room (Nat.le_of_ble_eq_true rfl)) dX10_much_15 ⟨Nat.le_of_ble_eq_true rfl, Nat.le_of_ble_eq_true rfl⟩) hw hA (fun v_3  H locs hp_v_3 hw => ?_)
    have r_v_3 : RI v_3 0 1 := hp_v_3.1
    refine lv_if_eq (tgt := 30) hx hb dX10_much_18 (by decide) (fun c_18 => ?_) (fun c_18 => ?_)
    · have r_v_3 : RI v_3 0 0 := rc_eq1 r_v_3 rl_0 (ti_eq c_18) (by decide)
      refine lv_iconst (v := (-1)) hx hb dX10_much_30 (by decide) ?_
      subst hQ
      exact W.iret (v := (-1)) hx hb hr (fun t ht hW => ⟨⟨(-1), ws, rfl, ⟨⟨rl_m1.to (by decide), (fun _ => trivial), (fun h0 => trivial)⟩, hw.1, hw.2.2.2.2.1⟩, by rw [ht]; exact hw.2.1, va_K.moved hW.alike hK, hw.2.2.1⟩, hw.2.2.2.1.F ht⟩) hw.2.2.2.1.2.2 dX10_much_31
    · have r_v_3 : RI v_3 1 1 := rc_neL r_v_3 rl_0 (ti_ne c_18) (by decide)
      have r_p2 : RI p2 0 5 := ((hp_v_3.2.2 c_18).1)
      refine lv_aload_n hx hb dX10_much_21 rfl (lv_at hl 0 rfl) ?_
      refine lv_iload_n hx hb dX10_much_22 rfl (lv_at hl 1 rfl) ?_
      refine lv_iload_n hx hb dX10_much_23 rfl (lv_at hl 2 rfl) ?_
      refine tk_ir (va_runV (As := [.int p1, .int p2]) (rest := []) ⟨hx, hb, hml, hown, hts⟩ (c_X10_muchOf l D cy z H.size Ps ws hw.1 p0 p1 p2 h_p0 r_p1 r_p2) (cwV 2 hts (gV tw_1437 tw_1439 ts_67 tw_15 tw_1440) rfl rfl rfl (by decide +kernel) ⟨Nat.le_of_ble_eq_true rfl, Nat.le_of_ble_eq_true rfl⟩) (tg_preV hw hK hSD hA (ci := 10) (q := (RX10, TX10, 49)) rfl h_p0 rfl) rfl rfl hl.1 rfl (lv_room (Nat.le_of_ble_eq_true rfl)) dX10_much_24 ⟨Nat.le_of_ble_eq_true rfl, Nat.le_of_ble_eq_true rfl⟩) hw hA (fun v_4  H locs hp_v_4 hw => ?_)
      have r_v_4 : RI v_4 (-2147483648) 2147483647 := hp_v_4.1
      have x_MUCH_p0_p1_p2_v_4 := hp_v_4.2.2.2.1.1
      refine lv_goto (tgt := 31) hx hb dX10_much_27 (by decide) ?_
      subst hQ
      exact W.iret (v := v_4) hx hb hr (fun t ht hW => ⟨⟨v_4, ws, rfl, ⟨⟨r_v_4.to (by decide), (fun h0 => trivial), (fun h0 => trivial)⟩, hw.1, hw.2.2.2.2.1⟩, by rw [ht]; exact hw.2.1, va_K.moved hW.alike hK, hw.2.2.1⟩, hw.2.2.2.1.F ht⟩) hw.2.2.2.1.2.2 dX10_much_31
abbrev wr_X10_need : List (Nat × Nat) := [(10, 0)]
abbrev wa_X10_need : List Nat := []
set_option maxHeartbeats 4000000 in
set_option maxRecDepth 100000 in
theorem c_X10_need (l : Launch) (D : va_G) (cy : Nat → ClassId) (z : Nat → Nat) (sz : Nat) (Ps : PSI) (w0 : va_W) (hT : HT cy GG Ps w0) (p0 : Nat) (p1 : Int32) (h_p0 : (p0, 55) ∈ Ps) (r_p1 : RI p1 (-2147483648) 2147483647) : Met l yX10_need (Cond.code yX10_need cX10_need 2 (some .int) :: gT) ({ frames := 3, cells := 0, slots := 0, locals := 600 } : Room) (va_Pc [.ref p0, .int p1] (PRE D cy z w0 sz)) (va_Qi (fun (r : Int32) (u : va_W) => (RI r (-2147483648) 2147483647 ∧ (r = 0 → True) ∧ (¬ r = 0 → True)) ∧ HT cy GG Ps u ∧ FR wr_X10_need wa_X10_need Ps w0 u) (BB D cy (va_A w0 sz) (fun (u : va_W) => u)) (va_A w0 sz)) 0 0 (va_A w0 sz) := by
  refine Met.ofW (cc := cX10_need) (maxL := 2) (ret := (some .int)) (by decide) rfl ?_
  intro p e s m args below meth c s₁ B hml hv
  obtain ⟨rfl, hsz, hP, hK, hD0, hSD⟩ := hv
  have hx := B.exec
  have hb := B.bytes
  have hr := B.returns
  have hlocks := B.notSynchronized
  have hts : ∀ w ∈ gT, w.before _ s = true := fun w h => atoms_spec (ws := Cond.code yX10_need cX10_need 2 (some .int) :: gT) B.pre w (List.mem_cons_of_mem _ h)
  have hown : s.vm.findClass RX10 = some m.cls := findClass_of_methodNamed B.named
  subst hsz
  have hD := hD0.self (sz := s.heap.size)
  generalize hAe : va_A w0 s.heap.size = A at hD hSD ⊢
  have hA : ∀ q : Nat, s.heap.size ≤ q → A q := fun q h => by rw [← hAe]; exact Or.inr h
  have hl := lv_entry ([.ref p0, .int p1]) (n := 2) (Nat.le_of_ble_eq_true rfl)
  rw [lg_entry_eq]
  generalize (lg_sl ([.ref p0, .int p1]) ++ List.replicate (2 - (lg_sl ([.ref p0, .int p1])).length) Slot.unset).toArray = ls at hl ⊢
  have hl : lv_has ls 2 [(0, .ref p0), (1, .int p1)] := hl
  refine nameQ (fun Q hQ => ?_)
  have hw : WD D cy GG A s wr_X10_need wa_X10_need Ps w0 Ps w0 s.heap [] := ⟨hT, hP, hD, va_S.rf, FR.rf, hT.1, [], (List.append_nil _).symm⟩
  refine lv_aload_n hx hb dX10_need_0 rfl (lv_at hl 0 rfl) ?_
  refine lv_iconst (v := 0) hx hb dX10_need_1 (by decide) ?_
  refine tg_put (ci := 10) (ts := ty_MODEL) (v := .int 0) (ty := .int) (C := RX10) (T := TX10) (N := 49) hx hb hts inX10 tyX10 tyX10_ok nmX10 hown hK hw h_p0 rfl rfl 0 (by decide) (hts _ tw_1137) (fun _ h9 => h9) rfl (by decide +kernel) rfl rfl (ft := vI (-2147483648) 2147483647) rfl ⟨_, rfl, (rl_0.to (by decide))⟩ (by decide) dX10_need_2 (fun ws H locs hw n_k_1 hF9 => ?_)
  refine lv_aload_n hx hb dX10_need_5 rfl (lv_at hl 0 rfl) ?_
  refine lv_iload_n hx hb dX10_need_6 rfl (lv_at hl 1 rfl) ?_
  refine tk_ir (va_runV (As := [.int p1]) (rest := []) ⟨hx, hb, hml, hown, hts⟩ (c_X10_isIdea l D cy z H.size Ps ws hw.1 p0 p1 h_p0 r_p1) (cwV 1 hts (gV tw_1433 tw_1435 ts_66 tw_15 tw_1436) rfl rfl rfl (by decide +kernel) ⟨Nat.le_of_ble_eq_true rfl, Nat.le_of_ble_eq_true rfl⟩) (tg_preV hw hK hSD hA (ci := 10) (q := (RX10, TX10, 49)) rfl h_p0 rfl) rfl rfl hl.1 rfl (lv_room (Nat.le_of_ble_eq_true rfl)) dX10_need_7 ⟨Nat.le_of_ble_eq_true rfl, Nat.le_of_ble_eq_true rfl⟩) hw hA (fun v_2  H locs hp_v_2 hw => ?_)
  have r_v_2 : RI v_2 0 1 := hp_v_2.1
  refine lv_if_eq (tgt := 25) hx hb dX10_need_10 (by decide) (fun c_10 => ?_) (fun c_10 => ?_)
  · have r_v_2 : RI v_2 0 0 := rc_eq1 r_v_2 rl_0 (ti_eq c_10) (by decide)
    refine lv_iconst (v := (-1)) hx hb dX10_need_25 (by decide) ?_
    subst hQ
    exact W.iret (v := (-1)) hx hb hr (fun t ht hW => ⟨⟨(-1), ws, rfl, ⟨⟨rl_m1.to (by decide), (fun _ => trivial), (fun h0 => trivial)⟩, hw.1, hw.2.2.2.2.1⟩, by rw [ht]; exact hw.2.1, va_K.moved hW.alike hK, hw.2.2.1⟩, hw.2.2.2.1.F ht⟩) hw.2.2.2.1.2.2 dX10_need_26
  · have r_v_2 : RI v_2 1 1 := rc_neL r_v_2 rl_0 (ti_ne c_10) (by decide)
    have r_p1 : RI p1 0 5 := ((hp_v_2.2.2 c_10).1)
    refine lv_aload_n hx hb dX10_need_13 rfl (lv_at hl 0 rfl) ?_
    refine tg_get (ci := 10) (ts := ty_MODEL) (C := RX10) (T := TX10) (N := 49) hx hb hts inX10 hown hK hw h_p0 rfl rfl 14 (by decide) (hts _ tw_1151) (fun _ h9 => h9) (ft := vR 34) rfl dX10_need_14 (fun u_3 hv_u_3 m_u_3 => ?_)
    obtain ⟨vu_3, rfl, h_vu_3⟩ := hv_u_3
    refine lv_bipush (v := 6) hx hb dX10_need_17 (by decide) ?_
    refine lv_iload_n hx hb dX10_need_19 rfl (lv_at hl 1 rfl) ?_
    refine lv_iadd hx hb dX10_need_20 (lv_topi (fun v_4 e_v_4 => ?_))
    obtain ⟨t_v_4, r_v_4⟩ := tq_add (lo := 6) (hi := 11) rl_6 r_p1 (by decide +kernel) e_v_4
    have t_v_4 : v_4.toInt = 6 + p1.toInt := t_v_4
    refine tg_iald (lo := (-2147483648)) (hi := 2147483647) hx hb hK hw h_vu_3 rfl 6 11 r_v_4 (by decide) (by decide +kernel) dX10_need_21 (fun v_5 r_v_5 m_v_5 o_v_5 => ?_)
    refine lv_goto (tgt := 26) hx hb dX10_need_22 (by decide) ?_
    subst hQ
    exact W.iret (v := v_5) hx hb hr (fun t ht hW => ⟨⟨v_5, ws, rfl, ⟨⟨r_v_5.to (by decide), (fun h0 => trivial), (fun h0 => trivial)⟩, hw.1, hw.2.2.2.2.1⟩, by rw [ht]; exact hw.2.1, va_K.moved hW.alike hK, hw.2.2.1⟩, hw.2.2.2.1.F ht⟩) hw.2.2.2.1.2.2 dX10_need_26
abbrev wr_X10_nothings : List (Nat × Nat) := []
abbrev wa_X10_nothings : List Nat := []
set_option maxHeartbeats 4000000 in
set_option maxRecDepth 100000 in
theorem c_X10_nothings (l : Launch) (D : va_G) (cy : Nat → ClassId) (z : Nat → Nat) (sz : Nat) (Ps : PSI) (w0 : va_W) (hT : HT cy GG Ps w0) (p0 : Nat) (h_p0 : (p0, 55) ∈ Ps) : Met l yX10_nothings (Cond.code yX10_nothings cX10_nothings 3 (some .int) :: gT) ({ frames := 3, cells := 0, slots := 0, locals := 600 } : Room) (va_Pc [.ref p0] (PRE D cy z w0 sz)) (va_Qi (fun (r : Int32) (u : Unit) => RI r (-2147483648) 2147483647 ∧ (r = 0 → True) ∧ (¬ r = 0 → True)) (BB D cy (va_A w0 sz) (fun (u : Unit) => w0)) (va_A w0 sz)) 0 0 (va_A w0 sz) := by
  refine Met.ofW (cc := cX10_nothings) (maxL := 3) (ret := (some .int)) (by decide) rfl ?_
  intro p e s m args below meth c s₁ B hml hv
  obtain ⟨rfl, hsz, hP, hK, hD0, hSD⟩ := hv
  have hx := B.exec
  have hb := B.bytes
  have hr := B.returns
  have hlocks := B.notSynchronized
  have hts : ∀ w ∈ gT, w.before _ s = true := fun w h => atoms_spec (ws := Cond.code yX10_nothings cX10_nothings 3 (some .int) :: gT) B.pre w (List.mem_cons_of_mem _ h)
  have hown : s.vm.findClass RX10 = some m.cls := findClass_of_methodNamed B.named
  subst hsz
  have hD := hD0.self (sz := s.heap.size)
  generalize hAe : va_A w0 s.heap.size = A at hD hSD ⊢
  have hA : ∀ q : Nat, s.heap.size ≤ q → A q := fun q h => by rw [← hAe]; exact Or.inr h
  have hl := lv_entry ([.ref p0]) (n := 3) (Nat.le_of_ble_eq_true rfl)
  rw [lg_entry_eq]
  generalize (lg_sl ([.ref p0]) ++ List.replicate (3 - (lg_sl ([.ref p0])).length) Slot.unset).toArray = ls at hl ⊢
  have hl : lv_has ls 3 [(0, .ref p0)] := hl
  refine nameQ (fun Q hQ => ?_)
  have hw : WD D cy GG A s wr_X10_nothings wa_X10_nothings Ps w0 Ps w0 s.heap [] := ⟨hT, hP, hD, va_S.rf, FR.rf, hT.1, [], (List.append_nil _).symm⟩
  have B4 : ∀ (nf : Nat) (x1 : Int32) (x2 : Int32) (H : Heap) (locs : List Loc) (ls : Array Slot), 6 - x2.toInt < (nf : Int) → RI x1 (-2147483648) 2147483647 → RI x2 0 6 → WD D cy GG A s wr_X10_nothings wa_X10_nothings Ps w0 Ps w0 H locs → lv_has ls 3 [(0, .ref p0), (1, .int x1), (2, .int x2)] → W p l e (headSpec (Cond.code yX10_nothings cX10_nothings 3 (some .int) :: gT) ({ frames := 3, cells := 0, slots := 0, locals := 600 } : Room)).room s m ([.ref p0] : List Value).toArray below meth c H locs 0 0 Q (F0 m 4 ls []) := by
    intro nf4
    induction nf4 with
    | zero =>
      intro x1 x2 H locs ls hn4 r_x1 r_x2 hw hl
      exact absurd hn4 (by have q0 := r_x2.1; have u0 := r_x2.2; omega)
    | succ nf4 ih4 =>
      intro x1 x2 H locs ls hn4 r_x1 r_x2 hw hl
      refine lv_iload_n hx hb dX10_nothings_4 rfl (lv_at hl 2 rfl) ?_
      refine lv_aload_n hx hb dX10_nothings_5 rfl (lv_at hl 0 rfl) ?_
      refine tg_get (ci := 10) (ts := ty_MODEL) (C := RX10) (T := TX10) (N := 49) hx hb hts inX10 hown hK hw h_p0 rfl rfl 14 (by decide) (hts _ tw_1151) (fun _ h9 => h9) (ft := vR 34) rfl dX10_nothings_6 (fun u_1 hv_u_1 m_u_1 => ?_)
      obtain ⟨vu_1, rfl, h_vu_1⟩ := hv_u_1
      refine lv_iconst (v := 2) hx hb dX10_nothings_9 (by decide) ?_
      refine tg_iald (lo := 0) (hi := 6) hx hb hK hw h_vu_1 rfl 2 2 rl_2 (by decide) (by decide +kernel) dX10_nothings_10 (fun v_2 r_v_2 m_v_2 o_v_2 => ?_)
      refine lv_icmp_ge (tgt := 35) hx hb dX10_nothings_11 (by decide) (fun c_11 => ?_) (fun c_11 => ?_)
      · refine lv_iload_n hx hb dX10_nothings_35 rfl (lv_at hl 1 rfl) ?_
        subst hQ
        exact W.iret (v := x1) hx hb hr (fun t ht hW => ⟨⟨x1, (), rfl, ⟨r_x1.to (by decide), (fun h0 => trivial), (fun h0 => trivial)⟩, by rw [ht]; exact hw.2.1, va_K.moved hW.alike hK, hw.2.2.1⟩, hw.2.2.2.1.F ht⟩) hw.2.2.2.1.2.2 dX10_nothings_36
      · have r_x2 : RI x2 0 5 := rc_lt1 r_x2 r_v_2 (ti_nle c_11) (by decide)
        have r_v_2 : RI v_2 1 6 := rc_lt2 r_x2 r_v_2 (ti_nle c_11) (by decide)
        refine lv_aload_n hx hb dX10_nothings_14 rfl (lv_at hl 0 rfl) ?_
        refine lv_iload_n hx hb dX10_nothings_15 rfl (lv_at hl 2 rfl) ?_
        refine tk_ir (va_runV (As := [.int x2]) (rest := []) ⟨hx, hb, hml, hown, hts⟩ (c_X10_whatIs l D cy z H.size Ps w0 hw.1 p0 x2 h_p0 r_x2) (cwV 1 hts (gV tw_1449 tw_1451 ts_69 tw_15 tw_1452) rfl rfl rfl (by decide +kernel) ⟨Nat.le_of_ble_eq_true rfl, Nat.le_of_ble_eq_true rfl⟩) (tg_preV hw hK hSD hA (ci := 10) (q := (RX10, TX10, 49)) rfl h_p0 rfl) rfl rfl hl.1 rfl (lv_room (Nat.le_of_ble_eq_true rfl)) dX10_nothings_16 ⟨Nat.le_of_ble_eq_true rfl, Nat.le_of_ble_eq_true rfl⟩) hw hA (fun v_3  H locs hp_v_3 hw => ?_)
        have r_v_3 : RI v_3 (-1) 5 := hp_v_3.1
        by_cases c9_v_3 : v_3.toInt < 0
        · have r_v_3 : RI v_3 (-1) (-1) := by unfold RI at r_v_3 ⊢; omega
          have x_NB_p0_x2 := (hp_v_3.2.2.2.2.1 (by omega)).1
          refine lv_iconst (v := (-1)) hx hb dX10_nothings_19 (by decide) ?_
          refine lv_icmp_ne (tgt := 29) hx hb dX10_nothings_20 (by decide) (fun c_20 => ?_) (fun c_20 => ?_)
          · exact absurd (r_v_3.eq.trans rl_m1.eq.symm) ((ti_ne c_20))
          · refine lv_iload_n hx hb dX10_nothings_23 rfl (lv_at hl 1 rfl) ?_
            refine lv_iconst (v := 1) hx hb dX10_nothings_24 (by decide) ?_
            refine lv_iload_n hx hb dX10_nothings_25 rfl (lv_at hl 2 rfl) ?_
            refine lv_ishl hx hb dX10_nothings_26 (lv_topi (fun v_4 e_v_4 => ?_))
            have r_v_4 : RI v_4 1 256 := by rw [e_v_4]; exact ri_shl1 (r_x2.to (c := 0) (d := 5) (by decide)) (by decide)
            refine lv_ior hx hb dX10_nothings_27 (lv_topi (fun v_5 e_v_5 => ?_))
            have r_v_5 := ri_any v_5
            refine lv_istore_n (lv' := [(1, .int v_5), (0, .ref p0), (2, .int x2)]) hx hb dX10_nothings_28 rfl hl (by decide) rfl (fun ls hl => ?_)
            obtain ⟨v_6, e_v_6⟩ : ∃ q9 : Int32, q9 = x2 + Int32.ofInt 1 := ⟨_, rfl⟩
            obtain ⟨t_v_6, r_v_6⟩ := tq_add (lo := 1) (hi := 6) r_x2 (show RI (Int32.ofInt 1) 1 1 by unfold RI; decide +kernel) (by decide +kernel) e_v_6
            have t_v_6 : v_6.toInt = x2.toInt + 1 := t_v_6
            refine lv_iinc (v := v_6) (lv' := [(2, .int v_6), (1, .int v_5), (0, .ref p0)]) hx hb dX10_nothings_29 hl (k := 2) rfl e_v_6.symm (by decide) rfl (fun ls hl => ?_)
            refine lv_goto (tgt := 4) hx hb dX10_nothings_32 (by decide) ?_
            exact ih4 v_5 v_6 _ _ ls (by have q0 := r_v_6.1; have u0 := r_v_6.2; have o0 := r_x2.1; have p0 := r_x2.2; omega) r_v_5 (r_v_6.to (by decide)) hw (lv_sub hl [2, 1, 0] rfl)
        · have r_v_3 : RI v_3 0 5 := by unfold RI at r_v_3 ⊢; omega
          have x_WB_p0_x2_v_3 := (hp_v_3.2.2.2.2.2 (by omega)).1
          refine lv_iconst (v := (-1)) hx hb dX10_nothings_19 (by decide) ?_
          refine lv_icmp_ne (tgt := 29) hx hb dX10_nothings_20 (by decide) (fun c_20 => ?_) (fun c_20 => ?_)
          · obtain ⟨v_7, e_v_7⟩ : ∃ q9 : Int32, q9 = x2 + Int32.ofInt 1 := ⟨_, rfl⟩
            obtain ⟨t_v_7, r_v_7⟩ := tq_add (lo := 1) (hi := 6) r_x2 (show RI (Int32.ofInt 1) 1 1 by unfold RI; decide +kernel) (by decide +kernel) e_v_7
            have t_v_7 : v_7.toInt = x2.toInt + 1 := t_v_7
            refine lv_iinc (v := v_7) (lv' := [(2, .int v_7), (0, .ref p0), (1, .int x1)]) hx hb dX10_nothings_29 hl (k := 2) rfl e_v_7.symm (by decide) rfl (fun ls hl => ?_)
            refine lv_goto (tgt := 4) hx hb dX10_nothings_32 (by decide) ?_
            exact ih4 x1 v_7 _ _ ls (by have q0 := r_v_7.1; have u0 := r_v_7.2; have o0 := r_x2.1; have p0 := r_x2.2; omega) r_x1 (r_v_7.to (by decide)) hw (lv_sub hl [1, 2, 0] rfl)
          · have r_v_3 : RI v_3 0 (-1) := rc_eq1 r_v_3 rl_m1 (ti_eq c_20) (by decide)
            exact (r_v_3.no (by decide)).elim
  refine lv_iconst (v := 0) hx hb dX10_nothings_0 (by decide) ?_
  refine lv_istore_n (lv' := [(1, .int 0), (0, .ref p0)]) hx hb dX10_nothings_1 rfl hl (by decide) rfl (fun ls hl => ?_)
  refine lv_iconst (v := 0) hx hb dX10_nothings_2 (by decide) ?_
  refine lv_istore_n (lv' := [(2, .int 0), (1, .int 0), (0, .ref p0)]) hx hb dX10_nothings_3 rfl hl (by decide) rfl (fun ls hl => ?_)
  exact B4 4294967298 0 0 _ _ ls (by have q0 := rl_0.1; have u0 := rl_0.2; omega) (rl_0.to (by decide)) (rl_0.to (by decide)) hw (lv_sub hl [2, 1, 0] rfl)
abbrev wr_X10_sum : List (Nat × Nat) := []
abbrev wa_X10_sum : List Nat := []
set_option maxHeartbeats 4000000 in
set_option maxRecDepth 100000 in
theorem c_X10_sum (l : Launch) (D : va_G) (cy : Nat → ClassId) (z : Nat → Nat) (sz : Nat) (Ps : PSI) (w0 : va_W) (hT : HT cy GG Ps w0) (p0 : Nat) (p1 : Int32) (p2 : Int32) (h_p0 : (p0, 55) ∈ Ps) (r_p1 : RI p1 136 136) (r_p2 : RI p2 36 36) : Met l yX10_sum (Cond.code yX10_sum cX10_sum 5 (some .int) :: gT) ({ frames := 0, cells := 0, slots := 0, locals := 200 } : Room) (va_Pc [.ref p0, .int p1, .int p2] (PRE D cy z w0 sz)) (va_Qi (fun (r : Int32) (u : Unit) => RI r (-2147483648) 2147483647 ∧ (r = 0 → True) ∧ (¬ r = 0 → True)) (BB D cy (va_A w0 sz) (fun (u : Unit) => w0)) (va_A w0 sz)) 0 0 (va_A w0 sz) := by
  refine Met.ofW (cc := cX10_sum) (maxL := 5) (ret := (some .int)) (by decide) rfl ?_
  intro p e s m args below meth c s₁ B hml hv
  obtain ⟨rfl, hsz, hP, hK, hD0, hSD⟩ := hv
  have hx := B.exec
  have hb := B.bytes
  have hr := B.returns
  have hlocks := B.notSynchronized
  have hts : ∀ w ∈ gT, w.before _ s = true := fun w h => atoms_spec (ws := Cond.code yX10_sum cX10_sum 5 (some .int) :: gT) B.pre w (List.mem_cons_of_mem _ h)
  have hown : s.vm.findClass RX10 = some m.cls := findClass_of_methodNamed B.named
  subst hsz
  have hD := hD0.self (sz := s.heap.size)
  generalize hAe : va_A w0 s.heap.size = A at hD hSD ⊢
  have hA : ∀ q : Nat, s.heap.size ≤ q → A q := fun q h => by rw [← hAe]; exact Or.inr h
  have hl := lv_entry ([.ref p0, .int p1, .int p2]) (n := 5) (Nat.le_of_ble_eq_true rfl)
  rw [lg_entry_eq]
  generalize (lg_sl ([.ref p0, .int p1, .int p2]) ++ List.replicate (5 - (lg_sl ([.ref p0, .int p1, .int p2])).length) Slot.unset).toArray = ls at hl ⊢
  have hl : lv_has ls 5 [(0, .ref p0), (1, .int p1), (2, .int p2)] := hl
  refine nameQ (fun Q hQ => ?_)
  have hw : WD D cy GG A s wr_X10_sum wa_X10_sum Ps w0 Ps w0 s.heap [] := ⟨hT, hP, hD, va_S.rf, FR.rf, hT.1, [], (List.append_nil _).symm⟩
  have B5 : ∀ (nf : Nat) (x3 : Int32) (x4 : Int32) (H : Heap) (locs : List Loc) (ls : Array Slot), 36 - x4.toInt < (nf : Int) → RI p1 136 136 → RI p2 36 36 → RI x3 (-2147483648) 2147483647 → RI x4 0 36 → WD D cy GG A s wr_X10_sum wa_X10_sum Ps w0 Ps w0 H locs → lv_has ls 5 [(0, .ref p0), (1, .int p1), (2, .int p2), (3, .int x3), (4, .int x4)] → W p l e (headSpec (Cond.code yX10_sum cX10_sum 5 (some .int) :: gT) ({ frames := 0, cells := 0, slots := 0, locals := 200 } : Room)).room s m ([.ref p0, .int p1, .int p2] : List Value).toArray below meth c H locs 0 0 Q (F0 m 5 ls []) := by
    intro nf5
    induction nf5 with
    | zero =>
      intro x3 x4 H locs ls hn5 r_p1 r_p2 r_x3 r_x4 hw hl
      exact absurd hn5 (by have q0 := r_x4.1; have u0 := r_x4.2; omega)
    | succ nf5 ih5 =>
      intro x3 x4 H locs ls hn5 r_p1 r_p2 r_x3 r_x4 hw hl
      refine lv_iload hx hb dX10_sum_5 (lv_at hl 4 rfl) ?_
      refine lv_iload_n hx hb dX10_sum_7 rfl (lv_at hl 2 rfl) ?_
      refine lv_icmp_ge (tgt := 29) hx hb dX10_sum_8 (by decide) (fun c_8 => ?_) (fun c_8 => ?_)
      · have r_x4 : RI x4 36 36 := rc_le2 r_p2 r_x4 (ti_le c_8) (by decide)
        refine lv_iload_n hx hb dX10_sum_29 rfl (lv_at hl 3 rfl) ?_
        subst hQ
        exact W.iret (v := x3) hx hb hr (fun t ht hW => ⟨⟨x3, (), rfl, ⟨r_x3.to (by decide), (fun h0 => trivial), (fun h0 => trivial)⟩, by rw [ht]; exact hw.2.1, va_K.moved hW.alike hK, hw.2.2.1⟩, hw.2.2.2.1.F ht⟩) hw.2.2.2.1.2.2 dX10_sum_30
      · have r_x4 : RI x4 0 35 := rc_lt1 r_x4 r_p2 (ti_nle c_8) (by decide)
        refine lv_iload_n hx hb dX10_sum_11 rfl (lv_at hl 3 rfl) ?_
        refine lv_aload_n hx hb dX10_sum_12 rfl (lv_at hl 0 rfl) ?_
        refine tg_get (ci := 10) (ts := ty_MODEL) (C := RX10) (T := TX10) (N := 49) hx hb hts inX10 hown hK hw h_p0 rfl rfl 14 (by decide) (hts _ tw_1151) (fun _ h9 => h9) (ft := vR 34) rfl dX10_sum_13 (fun u_1 hv_u_1 m_u_1 => ?_)
        obtain ⟨vu_1, rfl, h_vu_1⟩ := hv_u_1
        refine lv_iload_n hx hb dX10_sum_16 rfl (lv_at hl 1 rfl) ?_
        refine lv_iload hx hb dX10_sum_17 (lv_at hl 4 rfl) ?_
        refine lv_iadd hx hb dX10_sum_19 (lv_topi (fun v_2 e_v_2 => ?_))
        obtain ⟨t_v_2, r_v_2⟩ := tq_add (lo := 136) (hi := 171) r_p1 r_x4 (by decide +kernel) e_v_2
        refine tg_iald (lo := (-2147483648)) (hi := 2147483647) hx hb hK hw h_vu_1 rfl 136 171 r_v_2 (by decide) (by decide +kernel) dX10_sum_20 (fun v_3 r_v_3 m_v_3 o_v_3 => ?_)
        refine lv_iadd hx hb dX10_sum_21 (lv_topi (fun v_4 e_v_4 => ?_))
        have r_v_4 := ri_any v_4
        refine lv_istore_n (lv' := [(3, .int v_4), (0, .ref p0), (1, .int p1), (2, .int p2), (4, .int x4)]) hx hb dX10_sum_22 rfl hl (by decide) rfl (fun ls hl => ?_)
        obtain ⟨v_5, e_v_5⟩ : ∃ q9 : Int32, q9 = x4 + Int32.ofInt 1 := ⟨_, rfl⟩
        obtain ⟨t_v_5, r_v_5⟩ := tq_add (lo := 1) (hi := 36) r_x4 (show RI (Int32.ofInt 1) 1 1 by unfold RI; decide +kernel) (by decide +kernel) e_v_5
        have t_v_5 : v_5.toInt = x4.toInt + 1 := t_v_5
        refine lv_iinc (v := v_5) (lv' := [(4, .int v_5), (3, .int v_4), (0, .ref p0), (1, .int p1), (2, .int p2)]) hx hb dX10_sum_23 hl (k := 4) rfl e_v_5.symm (by decide) rfl (fun ls hl => ?_)
        refine lv_goto (tgt := 5) hx hb dX10_sum_26 (by decide) ?_
        exact ih5 v_4 v_5 _ _ ls (by have q0 := r_v_5.1; have u0 := r_v_5.2; have o0 := r_x4.1; have p0 := r_x4.2; omega) r_p1 r_p2 r_v_4 (r_v_5.to (by decide)) hw (lv_sub hl [2, 3, 4, 1, 0] rfl)
  refine lv_iconst (v := 0) hx hb dX10_sum_0 (by decide) ?_
  refine lv_istore_n (lv' := [(3, .int 0), (0, .ref p0), (1, .int p1), (2, .int p2)]) hx hb dX10_sum_1 rfl hl (by decide) rfl (fun ls hl => ?_)
  refine lv_iconst (v := 0) hx hb dX10_sum_2 (by decide) ?_
  refine lv_istore (lv' := [(4, .int 0), (3, .int 0), (0, .ref p0), (1, .int p1), (2, .int p2)]) hx hb dX10_sum_3 hl (by decide) rfl (fun ls hl => ?_)
  exact B5 4294967298 0 0 _ _ ls (by have q0 := rl_0.1; have u0 := rl_0.2; omega) r_p1 r_p2 (rl_0.to (by decide)) (rl_0.to (by decide)) hw (lv_sub hl [2, 3, 4, 1, 0] rfl)
abbrev wr_X10_sum__1 : List (Nat × Nat) := []
abbrev wa_X10_sum__1 : List Nat := []
set_option maxHeartbeats 4000000 in
set_option maxRecDepth 100000 in
theorem c_X10_sum__1 (l : Launch) (D : va_G) (cy : Nat → ClassId) (z : Nat → Nat) (sz : Nat) (Ps : PSI) (w0 : va_W) (hT : HT cy GG Ps w0) (p0 : Nat) (p1 : Int32) (p2 : Int32) (h_p0 : (p0, 55) ∈ Ps) (r_p1 : RI p1 92 92) (r_p2 : RI p2 6 6) : Met l yX10_sum (Cond.code yX10_sum cX10_sum 5 (some .int) :: gT) ({ frames := 0, cells := 0, slots := 0, locals := 200 } : Room) (va_Pc [.ref p0, .int p1, .int p2] (PRE D cy z w0 sz)) (va_Qi (fun (r : Int32) (u : Unit) => RI r (-2147483648) 2147483647 ∧ (r = 0 → True) ∧ (¬ r = 0 → True)) (BB D cy (va_A w0 sz) (fun (u : Unit) => w0)) (va_A w0 sz)) 0 0 (va_A w0 sz) := by
  refine Met.ofW (cc := cX10_sum) (maxL := 5) (ret := (some .int)) (by decide) rfl ?_
  intro p e s m args below meth c s₁ B hml hv
  obtain ⟨rfl, hsz, hP, hK, hD0, hSD⟩ := hv
  have hx := B.exec
  have hb := B.bytes
  have hr := B.returns
  have hlocks := B.notSynchronized
  have hts : ∀ w ∈ gT, w.before _ s = true := fun w h => atoms_spec (ws := Cond.code yX10_sum cX10_sum 5 (some .int) :: gT) B.pre w (List.mem_cons_of_mem _ h)
  have hown : s.vm.findClass RX10 = some m.cls := findClass_of_methodNamed B.named
  subst hsz
  have hD := hD0.self (sz := s.heap.size)
  generalize hAe : va_A w0 s.heap.size = A at hD hSD ⊢
  have hA : ∀ q : Nat, s.heap.size ≤ q → A q := fun q h => by rw [← hAe]; exact Or.inr h
  have hl := lv_entry ([.ref p0, .int p1, .int p2]) (n := 5) (Nat.le_of_ble_eq_true rfl)
  rw [lg_entry_eq]
  generalize (lg_sl ([.ref p0, .int p1, .int p2]) ++ List.replicate (5 - (lg_sl ([.ref p0, .int p1, .int p2])).length) Slot.unset).toArray = ls at hl ⊢
  have hl : lv_has ls 5 [(0, .ref p0), (1, .int p1), (2, .int p2)] := hl
  refine nameQ (fun Q hQ => ?_)
  have hw : WD D cy GG A s wr_X10_sum__1 wa_X10_sum__1 Ps w0 Ps w0 s.heap [] := ⟨hT, hP, hD, va_S.rf, FR.rf, hT.1, [], (List.append_nil _).symm⟩
  have B5 : ∀ (nf : Nat) (x3 : Int32) (x4 : Int32) (H : Heap) (locs : List Loc) (ls : Array Slot), 6 - x4.toInt < (nf : Int) → RI p1 92 92 → RI p2 6 6 → RI x3 (-2147483648) 2147483647 → RI x4 0 6 → WD D cy GG A s wr_X10_sum__1 wa_X10_sum__1 Ps w0 Ps w0 H locs → lv_has ls 5 [(0, .ref p0), (1, .int p1), (2, .int p2), (3, .int x3), (4, .int x4)] → W p l e (headSpec (Cond.code yX10_sum cX10_sum 5 (some .int) :: gT) ({ frames := 0, cells := 0, slots := 0, locals := 200 } : Room)).room s m ([.ref p0, .int p1, .int p2] : List Value).toArray below meth c H locs 0 0 Q (F0 m 5 ls []) := by
    intro nf5
    induction nf5 with
    | zero =>
      intro x3 x4 H locs ls hn5 r_p1 r_p2 r_x3 r_x4 hw hl
      exact absurd hn5 (by have q0 := r_x4.1; have u0 := r_x4.2; omega)
    | succ nf5 ih5 =>
      intro x3 x4 H locs ls hn5 r_p1 r_p2 r_x3 r_x4 hw hl
      refine lv_iload hx hb dX10_sum_5 (lv_at hl 4 rfl) ?_
      refine lv_iload_n hx hb dX10_sum_7 rfl (lv_at hl 2 rfl) ?_
      refine lv_icmp_ge (tgt := 29) hx hb dX10_sum_8 (by decide) (fun c_8 => ?_) (fun c_8 => ?_)
      · have r_x4 : RI x4 6 6 := rc_le2 r_p2 r_x4 (ti_le c_8) (by decide)
        refine lv_iload_n hx hb dX10_sum_29 rfl (lv_at hl 3 rfl) ?_
        subst hQ
        exact W.iret (v := x3) hx hb hr (fun t ht hW => ⟨⟨x3, (), rfl, ⟨r_x3.to (by decide), (fun h0 => trivial), (fun h0 => trivial)⟩, by rw [ht]; exact hw.2.1, va_K.moved hW.alike hK, hw.2.2.1⟩, hw.2.2.2.1.F ht⟩) hw.2.2.2.1.2.2 dX10_sum_30
      · have r_x4 : RI x4 0 5 := rc_lt1 r_x4 r_p2 (ti_nle c_8) (by decide)
        refine lv_iload_n hx hb dX10_sum_11 rfl (lv_at hl 3 rfl) ?_
        refine lv_aload_n hx hb dX10_sum_12 rfl (lv_at hl 0 rfl) ?_
        refine tg_get (ci := 10) (ts := ty_MODEL) (C := RX10) (T := TX10) (N := 49) hx hb hts inX10 hown hK hw h_p0 rfl rfl 14 (by decide) (hts _ tw_1151) (fun _ h9 => h9) (ft := vR 34) rfl dX10_sum_13 (fun u_1 hv_u_1 m_u_1 => ?_)
        obtain ⟨vu_1, rfl, h_vu_1⟩ := hv_u_1
        refine lv_iload_n hx hb dX10_sum_16 rfl (lv_at hl 1 rfl) ?_
        refine lv_iload hx hb dX10_sum_17 (lv_at hl 4 rfl) ?_
        refine lv_iadd hx hb dX10_sum_19 (lv_topi (fun v_2 e_v_2 => ?_))
        obtain ⟨t_v_2, r_v_2⟩ := tq_add (lo := 92) (hi := 97) r_p1 r_x4 (by decide +kernel) e_v_2
        refine tg_iald (lo := (-2147483648)) (hi := 2147483647) hx hb hK hw h_vu_1 rfl 92 97 r_v_2 (by decide) (by decide +kernel) dX10_sum_20 (fun v_3 r_v_3 m_v_3 o_v_3 => ?_)
        refine lv_iadd hx hb dX10_sum_21 (lv_topi (fun v_4 e_v_4 => ?_))
        have r_v_4 := ri_any v_4
        refine lv_istore_n (lv' := [(3, .int v_4), (0, .ref p0), (1, .int p1), (2, .int p2), (4, .int x4)]) hx hb dX10_sum_22 rfl hl (by decide) rfl (fun ls hl => ?_)
        obtain ⟨v_5, e_v_5⟩ : ∃ q9 : Int32, q9 = x4 + Int32.ofInt 1 := ⟨_, rfl⟩
        obtain ⟨t_v_5, r_v_5⟩ := tq_add (lo := 1) (hi := 6) r_x4 (show RI (Int32.ofInt 1) 1 1 by unfold RI; decide +kernel) (by decide +kernel) e_v_5
        have t_v_5 : v_5.toInt = x4.toInt + 1 := t_v_5
        refine lv_iinc (v := v_5) (lv' := [(4, .int v_5), (3, .int v_4), (0, .ref p0), (1, .int p1), (2, .int p2)]) hx hb dX10_sum_23 hl (k := 4) rfl e_v_5.symm (by decide) rfl (fun ls hl => ?_)
        refine lv_goto (tgt := 5) hx hb dX10_sum_26 (by decide) ?_
        exact ih5 v_4 v_5 _ _ ls (by have q0 := r_v_5.1; have u0 := r_v_5.2; have o0 := r_x4.1; have p0 := r_x4.2; omega) r_p1 r_p2 r_v_4 (r_v_5.to (by decide)) hw (lv_sub hl [2, 3, 4, 1, 0] rfl)
  refine lv_iconst (v := 0) hx hb dX10_sum_0 (by decide) ?_
  refine lv_istore_n (lv' := [(3, .int 0), (0, .ref p0), (1, .int p1), (2, .int p2)]) hx hb dX10_sum_1 rfl hl (by decide) rfl (fun ls hl => ?_)
  refine lv_iconst (v := 0) hx hb dX10_sum_2 (by decide) ?_
  refine lv_istore (lv' := [(4, .int 0), (3, .int 0), (0, .ref p0), (1, .int p1), (2, .int p2)]) hx hb dX10_sum_3 hl (by decide) rfl (fun ls hl => ?_)
  exact B5 4294967298 0 0 _ _ ls (by have q0 := rl_0.1; have u0 := rl_0.2; omega) r_p1 r_p2 (rl_0.to (by decide)) (rl_0.to (by decide)) hw (lv_sub hl [2, 3, 4, 1, 0] rfl)
abbrev wr_X10_sum__2 : List (Nat × Nat) := []
abbrev wa_X10_sum__2 : List Nat := []
set_option maxHeartbeats 4000000 in
set_option maxRecDepth 100000 in
theorem c_X10_sum__2 (l : Launch) (D : va_G) (cy : Nat → ClassId) (z : Nat → Nat) (sz : Nat) (Ps : PSI) (w0 : va_W) (hT : HT cy GG Ps w0) (p0 : Nat) (p1 : Int32) (p2 : Int32) (h_p0 : (p0, 55) ∈ Ps) (r_p1 : RI p1 98 98) (r_p2 : RI p2 6 6) : Met l yX10_sum (Cond.code yX10_sum cX10_sum 5 (some .int) :: gT) ({ frames := 0, cells := 0, slots := 0, locals := 200 } : Room) (va_Pc [.ref p0, .int p1, .int p2] (PRE D cy z w0 sz)) (va_Qi (fun (r : Int32) (u : Unit) => RI r (-2147483648) 2147483647 ∧ (r = 0 → True) ∧ (¬ r = 0 → True)) (BB D cy (va_A w0 sz) (fun (u : Unit) => w0)) (va_A w0 sz)) 0 0 (va_A w0 sz) := by
  refine Met.ofW (cc := cX10_sum) (maxL := 5) (ret := (some .int)) (by decide) rfl ?_
  intro p e s m args below meth c s₁ B hml hv
  obtain ⟨rfl, hsz, hP, hK, hD0, hSD⟩ := hv
  have hx := B.exec
  have hb := B.bytes
  have hr := B.returns
  have hlocks := B.notSynchronized
  have hts : ∀ w ∈ gT, w.before _ s = true := fun w h => atoms_spec (ws := Cond.code yX10_sum cX10_sum 5 (some .int) :: gT) B.pre w (List.mem_cons_of_mem _ h)
  have hown : s.vm.findClass RX10 = some m.cls := findClass_of_methodNamed B.named
  subst hsz
  have hD := hD0.self (sz := s.heap.size)
  generalize hAe : va_A w0 s.heap.size = A at hD hSD ⊢
  have hA : ∀ q : Nat, s.heap.size ≤ q → A q := fun q h => by rw [← hAe]; exact Or.inr h
  have hl := lv_entry ([.ref p0, .int p1, .int p2]) (n := 5) (Nat.le_of_ble_eq_true rfl)
  rw [lg_entry_eq]
  generalize (lg_sl ([.ref p0, .int p1, .int p2]) ++ List.replicate (5 - (lg_sl ([.ref p0, .int p1, .int p2])).length) Slot.unset).toArray = ls at hl ⊢
  have hl : lv_has ls 5 [(0, .ref p0), (1, .int p1), (2, .int p2)] := hl
  refine nameQ (fun Q hQ => ?_)
  have hw : WD D cy GG A s wr_X10_sum__2 wa_X10_sum__2 Ps w0 Ps w0 s.heap [] := ⟨hT, hP, hD, va_S.rf, FR.rf, hT.1, [], (List.append_nil _).symm⟩
  have B5 : ∀ (nf : Nat) (x3 : Int32) (x4 : Int32) (H : Heap) (locs : List Loc) (ls : Array Slot), 6 - x4.toInt < (nf : Int) → RI p1 98 98 → RI p2 6 6 → RI x3 (-2147483648) 2147483647 → RI x4 0 6 → WD D cy GG A s wr_X10_sum__2 wa_X10_sum__2 Ps w0 Ps w0 H locs → lv_has ls 5 [(0, .ref p0), (1, .int p1), (2, .int p2), (3, .int x3), (4, .int x4)] → W p l e (headSpec (Cond.code yX10_sum cX10_sum 5 (some .int) :: gT) ({ frames := 0, cells := 0, slots := 0, locals := 200 } : Room)).room s m ([.ref p0, .int p1, .int p2] : List Value).toArray below meth c H locs 0 0 Q (F0 m 5 ls []) := by
    intro nf5
    induction nf5 with
    | zero =>
      intro x3 x4 H locs ls hn5 r_p1 r_p2 r_x3 r_x4 hw hl
      exact absurd hn5 (by have q0 := r_x4.1; have u0 := r_x4.2; omega)
    | succ nf5 ih5 =>
      intro x3 x4 H locs ls hn5 r_p1 r_p2 r_x3 r_x4 hw hl
      refine lv_iload hx hb dX10_sum_5 (lv_at hl 4 rfl) ?_
      refine lv_iload_n hx hb dX10_sum_7 rfl (lv_at hl 2 rfl) ?_
      refine lv_icmp_ge (tgt := 29) hx hb dX10_sum_8 (by decide) (fun c_8 => ?_) (fun c_8 => ?_)
      · have r_x4 : RI x4 6 6 := rc_le2 r_p2 r_x4 (ti_le c_8) (by decide)
        refine lv_iload_n hx hb dX10_sum_29 rfl (lv_at hl 3 rfl) ?_
        subst hQ
        exact W.iret (v := x3) hx hb hr (fun t ht hW => ⟨⟨x3, (), rfl, ⟨r_x3.to (by decide), (fun h0 => trivial), (fun h0 => trivial)⟩, by rw [ht]; exact hw.2.1, va_K.moved hW.alike hK, hw.2.2.1⟩, hw.2.2.2.1.F ht⟩) hw.2.2.2.1.2.2 dX10_sum_30
      · have r_x4 : RI x4 0 5 := rc_lt1 r_x4 r_p2 (ti_nle c_8) (by decide)
        refine lv_iload_n hx hb dX10_sum_11 rfl (lv_at hl 3 rfl) ?_
        refine lv_aload_n hx hb dX10_sum_12 rfl (lv_at hl 0 rfl) ?_
        refine tg_get (ci := 10) (ts := ty_MODEL) (C := RX10) (T := TX10) (N := 49) hx hb hts inX10 hown hK hw h_p0 rfl rfl 14 (by decide) (hts _ tw_1151) (fun _ h9 => h9) (ft := vR 34) rfl dX10_sum_13 (fun u_1 hv_u_1 m_u_1 => ?_)
        obtain ⟨vu_1, rfl, h_vu_1⟩ := hv_u_1
        refine lv_iload_n hx hb dX10_sum_16 rfl (lv_at hl 1 rfl) ?_
        refine lv_iload hx hb dX10_sum_17 (lv_at hl 4 rfl) ?_
        refine lv_iadd hx hb dX10_sum_19 (lv_topi (fun v_2 e_v_2 => ?_))
        obtain ⟨t_v_2, r_v_2⟩ := tq_add (lo := 98) (hi := 103) r_p1 r_x4 (by decide +kernel) e_v_2
        refine tg_iald (lo := (-2147483648)) (hi := 2147483647) hx hb hK hw h_vu_1 rfl 98 103 r_v_2 (by decide) (by decide +kernel) dX10_sum_20 (fun v_3 r_v_3 m_v_3 o_v_3 => ?_)
        refine lv_iadd hx hb dX10_sum_21 (lv_topi (fun v_4 e_v_4 => ?_))
        have r_v_4 := ri_any v_4
        refine lv_istore_n (lv' := [(3, .int v_4), (0, .ref p0), (1, .int p1), (2, .int p2), (4, .int x4)]) hx hb dX10_sum_22 rfl hl (by decide) rfl (fun ls hl => ?_)
        obtain ⟨v_5, e_v_5⟩ : ∃ q9 : Int32, q9 = x4 + Int32.ofInt 1 := ⟨_, rfl⟩
        obtain ⟨t_v_5, r_v_5⟩ := tq_add (lo := 1) (hi := 6) r_x4 (show RI (Int32.ofInt 1) 1 1 by unfold RI; decide +kernel) (by decide +kernel) e_v_5
        have t_v_5 : v_5.toInt = x4.toInt + 1 := t_v_5
        refine lv_iinc (v := v_5) (lv' := [(4, .int v_5), (3, .int v_4), (0, .ref p0), (1, .int p1), (2, .int p2)]) hx hb dX10_sum_23 hl (k := 4) rfl e_v_5.symm (by decide) rfl (fun ls hl => ?_)
        refine lv_goto (tgt := 5) hx hb dX10_sum_26 (by decide) ?_
        exact ih5 v_4 v_5 _ _ ls (by have q0 := r_v_5.1; have u0 := r_v_5.2; have o0 := r_x4.1; have p0 := r_x4.2; omega) r_p1 r_p2 r_v_4 (r_v_5.to (by decide)) hw (lv_sub hl [2, 3, 4, 1, 0] rfl)
  refine lv_iconst (v := 0) hx hb dX10_sum_0 (by decide) ?_
  refine lv_istore_n (lv' := [(3, .int 0), (0, .ref p0), (1, .int p1), (2, .int p2)]) hx hb dX10_sum_1 rfl hl (by decide) rfl (fun ls hl => ?_)
  refine lv_iconst (v := 0) hx hb dX10_sum_2 (by decide) ?_
  refine lv_istore (lv' := [(4, .int 0), (3, .int 0), (0, .ref p0), (1, .int p1), (2, .int p2)]) hx hb dX10_sum_3 hl (by decide) rfl (fun ls hl => ?_)
  exact B5 4294967298 0 0 _ _ ls (by have q0 := rl_0.1; have u0 := rl_0.2; omega) r_p1 r_p2 (rl_0.to (by decide)) (rl_0.to (by decide)) hw (lv_sub hl [2, 3, 4, 1, 0] rfl)
abbrev wr_X10_now : List (Nat × Nat) := [(10, 0)]
abbrev wa_X10_now : List Nat := []
set_option maxHeartbeats 4000000 in
set_option maxRecDepth 100000 in
theorem c_X10_now (l : Launch) (D : va_G) (cy : Nat → ClassId) (z : Nat → Nat) (sz : Nat) (Ps : PSI) (w0 : va_W) (hT : HT cy GG Ps w0) (p0 : Nat) (p1 : Int32) (h_p0 : (p0, 55) ∈ Ps) (r_p1 : RI p1 (-2147483648) 2147483647) : Met l yX10_now (Cond.code yX10_now cX10_now 4 (some .int) :: gT) ({ frames := 4, cells := 0, slots := 0, locals := 800 } : Room) (va_Pc [.ref p0, .int p1] (PRE D cy z w0 sz)) (va_Qi (fun (r : Int32) (u : va_W) => (RI r (-2147483648) 2147483647 ∧ (r = 0 → True) ∧ (¬ r = 0 → True)) ∧ HT cy GG Ps u ∧ FR wr_X10_now wa_X10_now Ps w0 u) (BB D cy (va_A w0 sz) (fun (u : va_W) => u)) (va_A w0 sz)) 0 0 (va_A w0 sz) := by
  refine Met.ofW (cc := cX10_now) (maxL := 4) (ret := (some .int)) (by decide) rfl ?_
  intro p e s m args below meth c s₁ B hml hv
  obtain ⟨rfl, hsz, hP, hK, hD0, hSD⟩ := hv
  have hx := B.exec
  have hb := B.bytes
  have hr := B.returns
  have hlocks := B.notSynchronized
  have hts : ∀ w ∈ gT, w.before _ s = true := fun w h => atoms_spec (ws := Cond.code yX10_now cX10_now 4 (some .int) :: gT) B.pre w (List.mem_cons_of_mem _ h)
  have hown : s.vm.findClass RX10 = some m.cls := findClass_of_methodNamed B.named
  subst hsz
  have hD := hD0.self (sz := s.heap.size)
  generalize hAe : va_A w0 s.heap.size = A at hD hSD ⊢
  have hA : ∀ q : Nat, s.heap.size ≤ q → A q := fun q h => by rw [← hAe]; exact Or.inr h
  have hl := lv_entry ([.ref p0, .int p1]) (n := 4) (Nat.le_of_ble_eq_true rfl)
  rw [lg_entry_eq]
  generalize (lg_sl ([.ref p0, .int p1]) ++ List.replicate (4 - (lg_sl ([.ref p0, .int p1])).length) Slot.unset).toArray = ls at hl ⊢
  have hl : lv_has ls 4 [(0, .ref p0), (1, .int p1)] := hl
  refine nameQ (fun Q hQ => ?_)
  have hw : WD D cy GG A s wr_X10_now wa_X10_now Ps w0 Ps w0 s.heap [] := ⟨hT, hP, hD, va_S.rf, FR.rf, hT.1, [], (List.append_nil _).symm⟩
  have B75 : ∀ (nf : Nat) (x2 : Int32) (x3 : Int32) (z0_0 : Int32) (ws : va_W) (H : Heap) (locs : List Loc) (ls : Array Slot), 6 - x3.toInt < (nf : Int) → RI p1 3 3 → RI x2 (-2147483648) 2147483647 → RI x3 0 6 → RI z0_0 0 0 → FLD ws p0 10 0 (.int z0_0) → WD D cy GG A s wr_X10_now wa_X10_now Ps w0 Ps ws H locs → lv_has ls 4 [(0, .ref p0), (1, .int p1), (2, .int x2), (3, .int x3)] → W p l e (headSpec (Cond.code yX10_now cX10_now 4 (some .int) :: gT) ({ frames := 4, cells := 0, slots := 0, locals := 800 } : Room)).room s m ([.ref p0, .int p1] : List Value).toArray below meth c H locs 0 0 Q (F0 m 75 ls []) := by
    intro nf75
    induction nf75 with
    | zero =>
      intro x2 x3 z0_0 ws H locs ls hn75 r_p1 r_x2 r_x3 r_z0_0 m_z0_0 hw hl
      exact absurd hn75 (by have q0 := r_x3.1; have u0 := r_x3.2; omega)
    | succ nf75 ih75 =>
      intro x2 x3 z0_0 ws H locs ls hn75 r_p1 r_x2 r_x3 r_z0_0 m_z0_0 hw hl
      refine lv_iload_n hx hb dX10_now_75 rfl (lv_at hl 3 rfl) ?_
      refine lv_aload_n hx hb dX10_now_76 rfl (lv_at hl 0 rfl) ?_
      refine tg_get (ci := 10) (ts := ty_MODEL) (C := RX10) (T := TX10) (N := 49) hx hb hts inX10 hown hK hw h_p0 rfl rfl 14 (by decide) (hts _ tw_1151) (fun _ h9 => h9) (ft := vR 34) rfl dX10_now_77 (fun u_1 hv_u_1 m_u_1 => ?_)
      obtain ⟨vu_1, rfl, h_vu_1⟩ := hv_u_1
      refine lv_iconst (v := 2) hx hb dX10_now_80 (by decide) ?_
      refine tg_iald (lo := 0) (hi := 6) hx hb hK hw h_vu_1 rfl 2 2 rl_2 (by decide) (by decide +kernel) dX10_now_81 (fun v_2 r_v_2 m_v_2 o_v_2 => ?_)
      refine lv_icmp_ge (tgt := 105) hx hb dX10_now_82 (by decide) (fun c_82 => ?_) (fun c_82 => ?_)
      · refine lv_iload_n hx hb dX10_now_105 rfl (lv_at hl 2 rfl) ?_
        subst hQ
        exact W.iret (v := x2) hx hb hr (fun t ht hW => ⟨⟨x2, ws, rfl, ⟨⟨r_x2.to (by decide), (fun h0 => trivial), (fun h0 => trivial)⟩, hw.1, hw.2.2.2.2.1⟩, by rw [ht]; exact hw.2.1, va_K.moved hW.alike hK, hw.2.2.1⟩, hw.2.2.2.1.F ht⟩) hw.2.2.2.1.2.2 dX10_now_106
      · have r_x3 : RI x3 0 5 := rc_lt1 r_x3 r_v_2 (ti_nle c_82) (by decide)
        have r_v_2 : RI v_2 1 6 := rc_lt2 r_x3 r_v_2 (ti_nle c_82) (by decide)
        refine lv_aload_n hx hb dX10_now_85 rfl (lv_at hl 0 rfl) ?_
        refine lv_iload_n hx hb dX10_now_86 rfl (lv_at hl 3 rfl) ?_
        refine tk_ir (va_runV (As := [.int x3]) (rest := []) ⟨hx, hb, hml, hown, hts⟩ (c_X10_sittersOf l D cy z H.size Ps ws hw.1 p0 x3 h_p0 (r_x3.to (by decide))) (cwV 1 hts (gV tw_1461 tw_1463 ts_72 tw_15 tw_1464) rfl rfl rfl (by decide +kernel) ⟨Nat.le_of_ble_eq_true rfl, Nat.le_of_ble_eq_true rfl⟩) (tg_preV hw hK hSD hA (ci := 10) (q := (RX10, TX10, 49)) rfl h_p0 rfl) rfl rfl hl.1 rfl (lv_room (Nat.le_of_ble_eq_true rfl)) dX10_now_87 ⟨Nat.le_of_ble_eq_true rfl, Nat.le_of_ble_eq_true rfl⟩) hw hA (fun v_3  H locs hp_v_3 hw => ?_)
        have r_v_3 : RI v_3 (-2147483648) 2147483647 := hp_v_3.1
        refine lv_if_eq (tgt := 99) hx hb dX10_now_90 (by decide) (fun c_90 => ?_) (fun c_90 => ?_)
        · have r_v_3 : RI v_3 0 0 := rc_eq1 r_v_3 rl_0 (ti_eq c_90) (by decide)
          obtain ⟨v_4, e_v_4⟩ : ∃ q9 : Int32, q9 = x3 + Int32.ofInt 1 := ⟨_, rfl⟩
          obtain ⟨t_v_4, r_v_4⟩ := tq_add (lo := 1) (hi := 6) r_x3 (show RI (Int32.ofInt 1) 1 1 by unfold RI; decide +kernel) (by decide +kernel) e_v_4
          have t_v_4 : v_4.toInt = x3.toInt + 1 := t_v_4
          refine lv_iinc (v := v_4) (lv' := [(3, .int v_4), (0, .ref p0), (1, .int p1), (2, .int x2)]) hx hb dX10_now_99 hl (k := 3) rfl e_v_4.symm (by decide) rfl (fun ls hl => ?_)
          refine lv_goto (tgt := 75) hx hb dX10_now_102 (by decide) ?_
          exact ih75 x2 v_4 z0_0 ws _ _ ls (by have q0 := r_v_4.1; have u0 := r_v_4.2; have o0 := r_x3.1; have p0 := r_x3.2; omega) r_p1 r_x2 (r_v_4.to (by decide)) r_z0_0 m_z0_0 hw (lv_sub hl [1, 2, 3, 0] rfl)
        · refine lv_iload_n hx hb dX10_now_93 rfl (lv_at hl 2 rfl) ?_
          refine lv_iconst (v := 1) hx hb dX10_now_94 (by decide) ?_
          refine lv_iload_n hx hb dX10_now_95 rfl (lv_at hl 3 rfl) ?_
          refine lv_ishl hx hb dX10_now_96 (lv_topi (fun v_5 e_v_5 => ?_))
          have r_v_5 : RI v_5 1 256 := by rw [e_v_5]; exact ri_shl1 (r_x3.to (c := 0) (d := 5) (by decide)) (by decide)
          refine lv_ior hx hb dX10_now_97 (lv_topi (fun v_6 e_v_6 => ?_))
          have r_v_6 := ri_any v_6
          refine lv_istore_n (lv' := [(2, .int v_6), (0, .ref p0), (1, .int p1), (3, .int x3)]) hx hb dX10_now_98 rfl hl (by decide) rfl (fun ls hl => ?_)
          obtain ⟨v_7, e_v_7⟩ : ∃ q9 : Int32, q9 = x3 + Int32.ofInt 1 := ⟨_, rfl⟩
          obtain ⟨t_v_7, r_v_7⟩ := tq_add (lo := 1) (hi := 6) r_x3 (show RI (Int32.ofInt 1) 1 1 by unfold RI; decide +kernel) (by decide +kernel) e_v_7
          have t_v_7 : v_7.toInt = x3.toInt + 1 := t_v_7
          refine lv_iinc (v := v_7) (lv' := [(3, .int v_7), (2, .int v_6), (0, .ref p0), (1, .int p1)]) hx hb dX10_now_99 hl (k := 3) rfl e_v_7.symm (by decide) rfl (fun ls hl => ?_)
          refine lv_goto (tgt := 75) hx hb dX10_now_102 (by decide) ?_
          exact ih75 v_6 v_7 z0_0 ws _ _ ls (by have q0 := r_v_7.1; have u0 := r_v_7.2; have o0 := r_x3.1; have p0 := r_x3.2; omega) r_p1 r_v_6 (r_v_7.to (by decide)) r_z0_0 m_z0_0 hw (lv_sub hl [2, 3, 1, 0] rfl)
  refine lv_aload_n hx hb dX10_now_0 rfl (lv_at hl 0 rfl) ?_
  refine lv_iconst (v := 0) hx hb dX10_now_1 (by decide) ?_
  refine tg_put (ci := 10) (ts := ty_MODEL) (v := .int 0) (ty := .int) (C := RX10) (T := TX10) (N := 49) hx hb hts inX10 tyX10 tyX10_ok nmX10 hown hK hw h_p0 rfl rfl 0 (by decide) (hts _ tw_1137) (fun _ h9 => h9) rfl (by decide +kernel) rfl rfl (ft := vI (-2147483648) 2147483647) rfl ⟨_, rfl, (rl_0.to (by decide))⟩ (by decide) dX10_now_2 (fun ws H locs hw n_k_8 hF9 => ?_)
  refine lv_iconst (v := 0) hx hb dX10_now_5 (by decide) ?_
  refine lv_istore_n (lv' := [(2, .int 0), (0, .ref p0), (1, .int p1)]) hx hb dX10_now_6 rfl hl (by decide) rfl (fun ls hl => ?_)
  refine lv_iload_n hx hb dX10_now_7 rfl (lv_at hl 2 rfl) ?_
  have w_8 := r_p1
  by_cases cl_8 : p1.toInt < 0 ∨ 6 < p1.toInt
  · refine lv_tableOut (tgt := 135) hx hb dX10_now_8 cl_8 (by decide) ?_
    refine lv_iconst (v := (-1)) hx hb dX10_now_135 (by decide) ?_
    subst hQ
    exact W.iret (v := (-1)) hx hb hr (fun t ht hW => ⟨⟨(-1), ws, rfl, ⟨⟨rl_m1.to (by decide), (fun _ => trivial), (fun h0 => trivial)⟩, hw.1, hw.2.2.2.2.1⟩, by rw [ht]; exact hw.2.1, va_K.moved hW.alike hK, hw.2.2.1⟩, hw.2.2.2.1.F ht⟩) hw.2.2.2.1.2.2 dX10_now_136
  · have e_8 : p1.toInt = 0 ∨ p1.toInt = 1 ∨ p1.toInt = 2 ∨ p1.toInt = 3 ∨ p1.toInt = 4 ∨ p1.toInt = 5 ∨ p1.toInt = 6 := by omega
    rcases e_8 with h_8 | h_8 | h_8 | h_8 | h_8 | h_8 | h_8
    · refine lv_tableIn (tgt := 52) (off := 44) hx hb dX10_now_8 (by omega) (by omega) (by rw [h_8]; rfl) (by decide) ?_
      have r_p1 : RI p1 0 0 := ⟨by omega, by omega⟩
      refine lv_aload_n hx hb dX10_now_52 rfl (lv_at hl 1 rfl) ?_
      refine tg_get (ci := 10) (ts := ty_MODEL) (C := RX10) (T := TX10) (N := 49) hx hb hts inX10 hown hK hw h_p0 rfl rfl 14 (by decide) (hts _ tw_1151) (fun _ h9 => h9) (ft := vR 34) rfl dX10_now_53 (fun u_9 hv_u_9 m_u_9 => ?_)
      obtain ⟨vu_9, rfl, h_vu_9⟩ := hv_u_9
      refine lv_bipush (v := 84) hx hb dX10_now_56 (by decide) ?_
      refine tg_iald (lo := (-2147483648)) (hi := 2147483647) hx hb hK hw h_vu_9 rfl 84 84 rl_84 (by decide) (by decide +kernel) dX10_now_58 (fun v_10 r_v_10 m_v_10 o_v_10 => ?_)
      subst hQ
      exact W.iret (v := v_10) hx hb hr (fun t ht hW => ⟨⟨v_10, ws, rfl, ⟨⟨r_v_10.to (by decide), (fun h0 => trivial), (fun h0 => trivial)⟩, hw.1, hw.2.2.2.2.1⟩, by rw [ht]; exact hw.2.1, va_K.moved hW.alike hK, hw.2.2.1⟩, hw.2.2.2.1.F ht⟩) hw.2.2.2.1.2.2 dX10_now_59
    · refine lv_tableIn (tgt := 60) (off := 52) hx hb dX10_now_8 (by omega) (by omega) (by rw [h_8]; rfl) (by decide) ?_
      have r_p1 : RI p1 1 1 := ⟨by omega, by omega⟩
      refine lv_aload_n hx hb dX10_now_60 rfl (lv_at hl 1 rfl) ?_
      refine tg_get (ci := 10) (ts := ty_MODEL) (C := RX10) (T := TX10) (N := 49) hx hb hts inX10 hown hK hw h_p0 rfl rfl 14 (by decide) (hts _ tw_1151) (fun _ h9 => h9) (ft := vR 34) rfl dX10_now_61 (fun u_11 hv_u_11 m_u_11 => ?_)
      obtain ⟨vu_11, rfl, h_vu_11⟩ := hv_u_11
      refine lv_bipush (v := 85) hx hb dX10_now_64 (by decide) ?_
      refine tg_iald (lo := (-2147483648)) (hi := 2147483647) hx hb hK hw h_vu_11 rfl 85 85 rl_85 (by decide) (by decide +kernel) dX10_now_66 (fun v_12 r_v_12 m_v_12 o_v_12 => ?_)
      subst hQ
      exact W.iret (v := v_12) hx hb hr (fun t ht hW => ⟨⟨v_12, ws, rfl, ⟨⟨r_v_12.to (by decide), (fun h0 => trivial), (fun h0 => trivial)⟩, hw.1, hw.2.2.2.2.1⟩, by rw [ht]; exact hw.2.1, va_K.moved hW.alike hK, hw.2.2.1⟩, hw.2.2.2.1.F ht⟩) hw.2.2.2.1.2.2 dX10_now_67
    · refine lv_tableIn (tgt := 68) (off := 60) hx hb dX10_now_8 (by omega) (by omega) (by rw [h_8]; rfl) (by decide) ?_
      have r_p1 : RI p1 2 2 := ⟨by omega, by omega⟩
      refine lv_aload_n hx hb dX10_now_68 rfl (lv_at hl 1 rfl) ?_
      refine tk_ir (va_runV (As := []) (rest := []) ⟨hx, hb, hml, hown, hts⟩ (c_X10_nothings l D cy z H.size Ps ws hw.1 p0 h_p0) (cwV 0 hts (gV tw_1485 tw_1487 ts_74 tw_15 tw_1488) rfl rfl rfl (by decide +kernel) ⟨Nat.le_of_ble_eq_true rfl, Nat.le_of_ble_eq_true rfl⟩) (tg_preV hw hK hSD hA (ci := 10) (q := (RX10, TX10, 49)) rfl h_p0 rfl) rfl rfl hl.1 rfl (lv_room (Nat.le_of_ble_eq_true rfl)) dX10_now_69 ⟨Nat.le_of_ble_eq_true rfl, Nat.le_of_ble_eq_true rfl⟩) hw hA (fun v_13  H locs hp_v_13 hw => ?_)
      have r_v_13 : RI v_13 (-2147483648) 2147483647 := hp_v_13.1
      subst hQ
      exact W.iret (v := v_13) hx hb hr (fun t ht hW => ⟨⟨v_13, ws, rfl, ⟨⟨r_v_13.to (by decide), (fun h0 => trivial), (fun h0 => trivial)⟩, hw.1, hw.2.2.2.2.1⟩, by rw [ht]; exact hw.2.1, va_K.moved hW.alike hK, hw.2.2.1⟩, hw.2.2.2.1.F ht⟩) hw.2.2.2.1.2.2 dX10_now_72
    · refine lv_tableIn (tgt := 73) (off := 65) hx hb dX10_now_8 (by omega) (by omega) (by rw [h_8]; rfl) (by decide) ?_
      have r_p1 : RI p1 3 3 := ⟨by omega, by omega⟩
      refine lv_iconst (v := 0) hx hb dX10_now_73 (by decide) ?_
      refine lv_istore_n (lv' := [(3, .int 0), (2, .int 0), (0, .ref p0), (1, .int p1)]) hx hb dX10_now_74 rfl hl (by decide) rfl (fun ls hl => ?_)
      exact B75 4294967298 0 0 0 ws _ _ ls (by have q0 := rl_0.1; have u0 := rl_0.2; omega) r_p1 (rl_0.to (by decide)) (rl_0.to (by decide)) rl_0 n_k_8 hw (lv_sub hl [2, 3, 1, 0] rfl)
    · refine lv_tableIn (tgt := 107) (off := 99) hx hb dX10_now_8 (by omega) (by omega) (by rw [h_8]; rfl) (by decide) ?_
      have r_p1 : RI p1 4 4 := ⟨by omega, by omega⟩
      refine lv_aload_n hx hb dX10_now_107 rfl (lv_at hl 1 rfl) ?_
      refine lv_sipush (v := 136) hx hb dX10_now_108 (by decide) ?_
      refine lv_bipush (v := 36) hx hb dX10_now_111 (by decide) ?_
      refine tk_ir (va_runV (As := [.int 136, .int 36]) (rest := []) ⟨hx, hb, hml, hown, hts⟩ (c_X10_sum l D cy z H.size Ps ws hw.1 p0 136 36 h_p0 rl_136 rl_36) (cwV 2 hts (gV tw_1489 tw_1491 ts_75 tw_15 tw_1492) rfl rfl rfl (by decide +kernel) ⟨Nat.le_of_ble_eq_true rfl, Nat.le_of_ble_eq_true rfl⟩) (tg_preV hw hK hSD hA (ci := 10) (q := (RX10, TX10, 49)) rfl h_p0 rfl) rfl rfl hl.1 rfl (lv_room (Nat.le_of_ble_eq_true rfl)) dX10_now_113 ⟨Nat.le_of_ble_eq_true rfl, Nat.le_of_ble_eq_true rfl⟩) hw hA (fun v_14  H locs hp_v_14 hw => ?_)
      have r_v_14 : RI v_14 (-2147483648) 2147483647 := hp_v_14.1
      subst hQ
      exact W.iret (v := v_14) hx hb hr (fun t ht hW => ⟨⟨v_14, ws, rfl, ⟨⟨r_v_14.to (by decide), (fun h0 => trivial), (fun h0 => trivial)⟩, hw.1, hw.2.2.2.2.1⟩, by rw [ht]; exact hw.2.1, va_K.moved hW.alike hK, hw.2.2.1⟩, hw.2.2.2.1.F ht⟩) hw.2.2.2.1.2.2 dX10_now_116
    · refine lv_tableIn (tgt := 117) (off := 109) hx hb dX10_now_8 (by omega) (by omega) (by rw [h_8]; rfl) (by decide) ?_
      have r_p1 : RI p1 5 5 := ⟨by omega, by omega⟩
      refine lv_aload_n hx hb dX10_now_117 rfl (lv_at hl 1 rfl) ?_
      refine lv_bipush (v := 92) hx hb dX10_now_118 (by decide) ?_
      refine lv_bipush (v := 6) hx hb dX10_now_120 (by decide) ?_
      refine tk_ir (va_runV (As := [.int 92, .int 6]) (rest := []) ⟨hx, hb, hml, hown, hts⟩ (c_X10_sum__1 l D cy z H.size Ps ws hw.1 p0 92 6 h_p0 rl_92 rl_6) (cwV 2 hts (gV tw_1489 tw_1491 ts_75 tw_15 tw_1492) rfl rfl rfl (by decide +kernel) ⟨Nat.le_of_ble_eq_true rfl, Nat.le_of_ble_eq_true rfl⟩) (tg_preV hw hK hSD hA (ci := 10) (q := (RX10, TX10, 49)) rfl h_p0 rfl) rfl rfl hl.1 rfl (lv_room (Nat.le_of_ble_eq_true rfl)) dX10_now_122 ⟨Nat.le_of_ble_eq_true rfl, Nat.le_of_ble_eq_true rfl⟩) hw hA (fun v_15  H locs hp_v_15 hw => ?_)
      have r_v_15 : RI v_15 (-2147483648) 2147483647 := hp_v_15.1
      subst hQ
      exact W.iret (v := v_15) hx hb hr (fun t ht hW => ⟨⟨v_15, ws, rfl, ⟨⟨r_v_15.to (by decide), (fun h0 => trivial), (fun h0 => trivial)⟩, hw.1, hw.2.2.2.2.1⟩, by rw [ht]; exact hw.2.1, va_K.moved hW.alike hK, hw.2.2.1⟩, hw.2.2.2.1.F ht⟩) hw.2.2.2.1.2.2 dX10_now_125
    · refine lv_tableIn (tgt := 126) (off := 118) hx hb dX10_now_8 (by omega) (by omega) (by rw [h_8]; rfl) (by decide) ?_
      have r_p1 : RI p1 6 6 := ⟨by omega, by omega⟩
      refine lv_aload_n hx hb dX10_now_126 rfl (lv_at hl 1 rfl) ?_
      refine lv_bipush (v := 98) hx hb dX10_now_127 (by decide) ?_
      refine lv_bipush (v := 6) hx hb dX10_now_129 (by decide) ?_
      refine tk_ir (va_runV (As := [.int 98, .int 6]) (rest := []) ⟨hx, hb, hml, hown, hts⟩ (c_X10_sum__2 l D cy z H.size Ps ws hw.1 p0 98 6 h_p0 rl_98 rl_6) (cwV 2 hts (gV tw_1489 tw_1491 ts_75 tw_15 tw_1492) rfl rfl rfl (by decide +kernel) ⟨Nat.le_of_ble_eq_true rfl, Nat.le_of_ble_eq_true rfl⟩) (tg_preV hw hK hSD hA (ci := 10) (q := (RX10, TX10, 49)) rfl h_p0 rfl) rfl rfl hl.1 rfl (lv_room (Nat.le_of_ble_eq_true rfl)) dX10_now_131 ⟨Nat.le_of_ble_eq_true rfl, Nat.le_of_ble_eq_true rfl⟩) hw hA (fun v_16  H locs hp_v_16 hw => ?_)
      have r_v_16 : RI v_16 (-2147483648) 2147483647 := hp_v_16.1
      subst hQ
      exact W.iret (v := v_16) hx hb hr (fun t ht hW => ⟨⟨v_16, ws, rfl, ⟨⟨r_v_16.to (by decide), (fun h0 => trivial), (fun h0 => trivial)⟩, hw.1, hw.2.2.2.2.1⟩, by rw [ht]; exact hw.2.1, va_K.moved hW.alike hK, hw.2.2.1⟩, hw.2.2.2.1.F ht⟩) hw.2.2.2.1.2.2 dX10_now_134
abbrev wr_X10_why__2 : List (Nat × Nat) := []
abbrev wa_X10_why__2 : List Nat := []
set_option maxHeartbeats 4000000 in
set_option maxRecDepth 100000 in
theorem c_X10_why__2 (l : Launch) (D : va_G) (cy : Nat → ClassId) (z : Nat → Nat) (sz : Nat) (Ps : PSI) (w0 : va_W) (hT : HT cy GG Ps w0) (p0 : Nat) (p1 : Int32) (p2 : Int32) (p3 : Int32) (h_p0 : (p0, 55) ∈ Ps) (r_p1 : RI p1 4 4) (r_p2 : RI p2 0 5) (r_p3 : RI p3 0 0) : Met l yX10_why (Cond.code yX10_why cX10_why 4 (some .int) :: gT) ({ frames := 3, cells := 0, slots := 0, locals := 600 } : Room) (va_Pc [.ref p0, .int p1, .int p2, .int p3] (PRE D cy z w0 sz)) (va_Qi (fun (r : Int32) (u : Unit) => RI r 0 1 ∧ (r = 0 → True) ∧ (¬ r = 0 → True)) (BB D cy (va_A w0 sz) (fun (u : Unit) => w0)) (va_A w0 sz)) 0 0 (va_A w0 sz) := by
  refine Met.ofW (cc := cX10_why) (maxL := 4) (ret := (some .int)) (by decide) rfl ?_
  intro p e s m args below meth c s₁ B hml hv
  obtain ⟨rfl, hsz, hP, hK, hD0, hSD⟩ := hv
  have hx := B.exec
  have hb := B.bytes
  have hr := B.returns
  have hlocks := B.notSynchronized
  have hts : ∀ w ∈ gT, w.before _ s = true := fun w h => atoms_spec (ws := Cond.code yX10_why cX10_why 4 (some .int) :: gT) B.pre w (List.mem_cons_of_mem _ h)
  have hown : s.vm.findClass RX10 = some m.cls := findClass_of_methodNamed B.named
  subst hsz
  have hD := hD0.self (sz := s.heap.size)
  generalize hAe : va_A w0 s.heap.size = A at hD hSD ⊢
  have hA : ∀ q : Nat, s.heap.size ≤ q → A q := fun q h => by rw [← hAe]; exact Or.inr h
  have hl := lv_entry ([.ref p0, .int p1, .int p2, .int p3]) (n := 4) (Nat.le_of_ble_eq_true rfl)
  rw [lg_entry_eq]
  generalize (lg_sl ([.ref p0, .int p1, .int p2, .int p3]) ++ List.replicate (4 - (lg_sl ([.ref p0, .int p1, .int p2, .int p3])).length) Slot.unset).toArray = ls at hl ⊢
  have hl : lv_has ls 4 [(0, .ref p0), (1, .int p1), (2, .int p2), (3, .int p3)] := hl
  refine nameQ (fun Q hQ => ?_)
  have hw : WD D cy GG A s wr_X10_why__2 wa_X10_why__2 Ps w0 Ps w0 s.heap [] := ⟨hT, hP, hD, va_S.rf, FR.rf, hT.1, [], (List.append_nil _).symm⟩
  refine lv_iload_n hx hb dX10_why_0 rfl (lv_at hl 1 rfl) ?_
  have w_1 := r_p1
  by_cases cl_1 : p1.toInt < 0 ∨ 4 < p1.toInt
  · refine lv_tableOut (tgt := 146) hx hb dX10_why_1 cl_1 (by decide) ?_
    exact absurd cl_1 (by unfold RI at w_1; omega)
  · have e_1 : p1.toInt = 0 ∨ p1.toInt = 1 ∨ p1.toInt = 2 ∨ p1.toInt = 3 ∨ p1.toInt = 4 := by omega
    rcases e_1 with h_1 | h_1 | h_1 | h_1 | h_1
    · exact absurd h_1 (by unfold RI at w_1; omega)
    · exact absurd h_1 (by unfold RI at w_1; omega)
    · exact absurd h_1 (by unfold RI at w_1; omega)
    · exact absurd h_1 (by unfold RI at w_1; omega)
    · refine lv_tableIn (tgt := 132) (off := 131) hx hb dX10_why_1 (by omega) (by omega) (by rw [h_1]; rfl) (by decide) ?_
      have r_p1 : RI p1 4 4 := ⟨by omega, by omega⟩
      refine lv_aload_n hx hb dX10_why_132 rfl (lv_at hl 0 rfl) ?_
      refine lv_iload_n hx hb dX10_why_133 rfl (lv_at hl 2 rfl) ?_
      refine tk_ir (va_runV (As := [.int p2]) (rest := []) ⟨hx, hb, hml, hown, hts⟩ (c_X10_isOpen l D cy z s.heap.size Ps w0 hw.1 p0 p2 h_p0 (r_p2.to (by decide))) (cwV 1 hts (gV tw_1457 tw_1459 ts_71 tw_15 tw_1460) rfl rfl rfl (by decide +kernel) ⟨Nat.le_of_ble_eq_true rfl, Nat.le_of_ble_eq_true rfl⟩) (tg_preV hw hK hSD hA (ci := 10) (q := (RX10, TX10, 49)) rfl h_p0 rfl) rfl rfl hl.1 rfl (lv_room (Nat.le_of_ble_eq_true rfl)) dX10_why_134 ⟨Nat.le_of_ble_eq_true rfl, Nat.le_of_ble_eq_true rfl⟩) hw hA (fun v_1  H locs hp_v_1 hw => ?_)
      have r_v_1 : RI v_1 0 1 := hp_v_1.1
      refine lv_if_eq (tgt := 144) hx hb dX10_why_137 (by decide) (fun c_137 => ?_) (fun c_137 => ?_)
      · have r_v_1 : RI v_1 0 0 := rc_eq1 r_v_1 rl_0 (ti_eq c_137) (by decide)
        refine lv_iconst (v := 0) hx hb dX10_why_144 (by decide) ?_
        subst hQ
        exact W.iret (v := 0) hx hb hr (fun t ht hW => ⟨⟨0, (), rfl, ⟨rl_0.to (by decide), (fun h0 => trivial), (fun _ => trivial)⟩, by rw [ht]; exact hw.2.1, va_K.moved hW.alike hK, hw.2.2.1⟩, hw.2.2.2.1.F ht⟩) hw.2.2.2.1.2.2 dX10_why_145
      · have r_v_1 : RI v_1 1 1 := rc_neL r_v_1 rl_0 (ti_ne c_137) (by decide)
        refine lv_iconst (v := 1) hx hb dX10_why_140 (by decide) ?_
        refine lv_goto (tgt := 145) hx hb dX10_why_141 (by decide) ?_
        subst hQ
        exact W.iret (v := 1) hx hb hr (fun t ht hW => ⟨⟨1, (), rfl, ⟨rl_1.to (by decide), (fun _ => trivial), (fun h0 => trivial)⟩, by rw [ht]; exact hw.2.1, va_K.moved hW.alike hK, hw.2.2.1⟩, hw.2.2.2.1.F ht⟩) hw.2.2.2.1.2.2 dX10_why_145
abbrev wr_X10_live__2 : List (Nat × Nat) := []
abbrev wa_X10_live__2 : List Nat := [34]
set_option maxHeartbeats 4000000 in
set_option maxRecDepth 100000 in
theorem c_X10_live__2 (l : Launch) (D : va_G) (cy : Nat → ClassId) (z : Nat → Nat) (sz : Nat) (Ps : PSI) (w0 : va_W) (hT : HT cy GG Ps w0) (p0 : Nat) (p1 : Int32) (p2 : Int32) (p3 : Int32) (h_p0 : (p0, 55) ∈ Ps) (r_p1 : RI p1 4 4) (r_p2 : RI p2 0 5) (r_p3 : RI p3 0 0) : Met l yX10_live (Cond.code yX10_live cX10_live 4 none :: gT) ({ frames := 0, cells := 0, slots := 0, locals := 200 } : Room) (va_Pc [.ref p0, .int p1, .int p2, .int p3] (PRE D cy z w0 sz)) (va_Qv (fun (u : va_W) => (True) ∧ HT cy GG Ps u ∧ FR wr_X10_live__2 wa_X10_live__2 Ps w0 u) (BB D cy (va_A w0 sz) (fun (u : va_W) => u)) (va_A w0 sz)) 0 0 (va_A w0 sz) := by
  refine Met.ofW (cc := cX10_live) (maxL := 4) (ret := none) (by decide) rfl ?_
  intro p e s m args below meth c s₁ B hml hv
  obtain ⟨rfl, hsz, hP, hK, hD0, hSD⟩ := hv
  have hx := B.exec
  have hb := B.bytes
  have hr := B.returns
  have hlocks := B.notSynchronized
  have hts : ∀ w ∈ gT, w.before _ s = true := fun w h => atoms_spec (ws := Cond.code yX10_live cX10_live 4 none :: gT) B.pre w (List.mem_cons_of_mem _ h)
  have hown : s.vm.findClass RX10 = some m.cls := findClass_of_methodNamed B.named
  subst hsz
  have hD := hD0.self (sz := s.heap.size)
  generalize hAe : va_A w0 s.heap.size = A at hD hSD ⊢
  have hA : ∀ q : Nat, s.heap.size ≤ q → A q := fun q h => by rw [← hAe]; exact Or.inr h
  have hl := lv_entry ([.ref p0, .int p1, .int p2, .int p3]) (n := 4) (Nat.le_of_ble_eq_true rfl)
  rw [lg_entry_eq]
  generalize (lg_sl ([.ref p0, .int p1, .int p2, .int p3]) ++ List.replicate (4 - (lg_sl ([.ref p0, .int p1, .int p2, .int p3])).length) Slot.unset).toArray = ls at hl ⊢
  have hl : lv_has ls 4 [(0, .ref p0), (1, .int p1), (2, .int p2), (3, .int p3)] := hl
  refine nameQ (fun Q hQ => ?_)
  have hw : WD D cy GG A s wr_X10_live__2 wa_X10_live__2 Ps w0 Ps w0 s.heap [] := ⟨hT, hP, hD, va_S.rf, FR.rf, hT.1, [], (List.append_nil _).symm⟩
  refine lv_iload_n hx hb dX10_live_0 rfl (lv_at hl 1 rfl) ?_
  have w_1 := r_p1
  by_cases cl_1 : p1.toInt < 0 ∨ 4 < p1.toInt
  · refine lv_tableOut (tgt := 90) hx hb dX10_live_1 cl_1 (by decide) ?_
    exact absurd cl_1 (by unfold RI at w_1; omega)
  · have e_1 : p1.toInt = 0 ∨ p1.toInt = 1 ∨ p1.toInt = 2 ∨ p1.toInt = 3 ∨ p1.toInt = 4 := by omega
    rcases e_1 with h_1 | h_1 | h_1 | h_1 | h_1
    · exact absurd h_1 (by unfold RI at w_1; omega)
    · exact absurd h_1 (by unfold RI at w_1; omega)
    · exact absurd h_1 (by unfold RI at w_1; omega)
    · exact absurd h_1 (by unfold RI at w_1; omega)
    · refine lv_tableIn (tgt := 76) (off := 75) hx hb dX10_live_1 (by omega) (by omega) (by rw [h_1]; rfl) (by decide) ?_
      have r_p1 : RI p1 4 4 := ⟨by omega, by omega⟩
      refine lv_aload_n hx hb dX10_live_76 rfl (lv_at hl 0 rfl) ?_
      refine tg_get (ci := 10) (ts := ty_MODEL) (C := RX10) (T := TX10) (N := 49) hx hb hts inX10 hown hK hw h_p0 rfl rfl 14 (by decide) (hts _ tw_1151) (fun _ h9 => h9) (ft := vR 34) rfl dX10_live_77 (fun u_1 hv_u_1 m_u_1 => ?_)
      obtain ⟨vu_1, rfl, h_vu_1⟩ := hv_u_1
      refine lv_bipush (v := 85) hx hb dX10_live_80 (by decide) ?_
      refine lv_dup2_11 hx hb dX10_live_82 rfl rfl ?_
      refine tg_iald (lo := (-2147483648)) (hi := 2147483647) hx hb hK hw h_vu_1 rfl 85 85 rl_85 (by decide) (by decide +kernel) dX10_live_83 (fun v_2 r_v_2 m_v_2 o_v_2 => ?_)
      refine lv_iconst (v := 1) hx hb dX10_live_84 (by decide) ?_
      refine lv_iload_n hx hb dX10_live_85 rfl (lv_at hl 2 rfl) ?_
      refine lv_ishl hx hb dX10_live_86 (lv_topi (fun v_3 e_v_3 => ?_))
      have r_v_3 : RI v_3 1 256 := by rw [e_v_3]; exact ri_shl1 (r_p2.to (c := 0) (d := 5) (by decide)) (by decide)
      refine lv_ior hx hb dX10_live_87 (lv_topi (fun v_4 e_v_4 => ?_))
      have r_v_4 := ri_any v_4
      refine tg_iast hx hb hK hw h_vu_1 rfl 85 85 rl_85 (by decide) r_v_4 (by decide +kernel) (RN_upd (by decide) (by decide)) (by decide) dX10_live_88 (fun ws H locs hw hF9 hU9 => ?_)
      subst hQ
      exact W.vret hx hb hr (fun t ht hW => ⟨⟨ws, rfl, ⟨trivial, hw.1, hw.2.2.2.2.1⟩, by rw [ht]; exact hw.2.1, va_K.moved hW.alike hK, hw.2.2.1⟩, hw.2.2.2.1.F ht⟩) hw.2.2.2.1.2.2 dX10_live_89
abbrev wr_X10_act__2 : List (Nat × Nat) := [(10, 25)]
abbrev wa_X10_act__2 : List Nat := [34, 37]
set_option maxHeartbeats 4000000 in
set_option maxRecDepth 100000 in
theorem c_X10_act__2 (l : Launch) (D : va_G) (cy : Nat → ClassId) (z : Nat → Nat) (sz : Nat) (Ps : PSI) (w0 : va_W) (hT : HT cy GG Ps w0) (p0 : Nat) (p1 : Int32) (p2 : Int32) (p3 : Int32) (h_p0 : (p0, 55) ∈ Ps) (r_p1 : RI p1 4 4) (r_p2 : RI p2 0 5) (r_p3 : RI p3 0 0) : Met l yX10_act (Cond.code yX10_act cX10_act 5 (some .int) :: gT) ({ frames := 4, cells := 0, slots := 0, locals := 800 } : Room) (va_Pc [.ref p0, .int p1, .int p2, .int p3] (PRE D cy z w0 sz)) (va_Qi (fun (r : Int32) (u : va_W) => (RI r 0 1 ∧ (r = 0 → (∃ v9 : Int32, FLD u p0 10 25 (.int v9) ∧ RI v9 1 8) ∧ True) ∧ (¬ r = 0 → True)) ∧ HT cy GG Ps u ∧ FR wr_X10_act__2 wa_X10_act__2 Ps w0 u) (BB D cy (va_A w0 sz) (fun (u : va_W) => u)) (va_A w0 sz)) 0 0 (va_A w0 sz) := by
  refine Met.ofW (cc := cX10_act) (maxL := 5) (ret := (some .int)) (by decide) rfl ?_
  intro p e s m args below meth c s₁ B hml hv
  obtain ⟨rfl, hsz, hP, hK, hD0, hSD⟩ := hv
  have hx := B.exec
  have hb := B.bytes
  have hr := B.returns
  have hlocks := B.notSynchronized
  have hts : ∀ w ∈ gT, w.before _ s = true := fun w h => atoms_spec (ws := Cond.code yX10_act cX10_act 5 (some .int) :: gT) B.pre w (List.mem_cons_of_mem _ h)
  have hown : s.vm.findClass RX10 = some m.cls := findClass_of_methodNamed B.named
  subst hsz
  have hD := hD0.self (sz := s.heap.size)
  generalize hAe : va_A w0 s.heap.size = A at hD hSD ⊢
  have hA : ∀ q : Nat, s.heap.size ≤ q → A q := fun q h => by rw [← hAe]; exact Or.inr h
  have hl := lv_entry ([.ref p0, .int p1, .int p2, .int p3]) (n := 5) (Nat.le_of_ble_eq_true rfl)
  rw [lg_entry_eq]
  generalize (lg_sl ([.ref p0, .int p1, .int p2, .int p3]) ++ List.replicate (5 - (lg_sl ([.ref p0, .int p1, .int p2, .int p3])).length) Slot.unset).toArray = ls at hl ⊢
  have hl : lv_has ls 5 [(0, .ref p0), (1, .int p1), (2, .int p2), (3, .int p3)] := hl
  refine nameQ (fun Q hQ => ?_)
  have hw : WD D cy GG A s wr_X10_act__2 wa_X10_act__2 Ps w0 Ps w0 s.heap [] := ⟨hT, hP, hD, va_S.rf, FR.rf, hT.1, [], (List.append_nil _).symm⟩
  refine lv_aload_n hx hb dX10_act_0 rfl (lv_at hl 0 rfl) ?_
  refine lv_iload_n hx hb dX10_act_1 rfl (lv_at hl 1 rfl) ?_
  refine lv_iload_n hx hb dX10_act_2 rfl (lv_at hl 2 rfl) ?_
  refine lv_iload_n hx hb dX10_act_3 rfl (lv_at hl 3 rfl) ?_
  refine tk_ir (va_runV (As := [.int p1, .int p2, .int p3]) (rest := []) ⟨hx, hb, hml, hown, hts⟩ (c_X10_why__2 l D cy z s.heap.size Ps w0 hw.1 p0 p1 p2 p3 h_p0 r_p1 r_p2 r_p3) (cwV 3 hts (gV tw_1501 tw_1503 ts_77 tw_15 tw_1504) rfl rfl rfl (by decide +kernel) ⟨Nat.le_of_ble_eq_true rfl, Nat.le_of_ble_eq_true rfl⟩) (tg_preV hw hK hSD hA (ci := 10) (q := (RX10, TX10, 49)) rfl h_p0 rfl) rfl rfl hl.1 rfl (lv_room (Nat.le_of_ble_eq_true rfl)) dX10_act_4 ⟨Nat.le_of_ble_eq_true rfl, Nat.le_of_ble_eq_true rfl⟩) hw hA (fun v_1  H locs hp_v_1 hw => ?_)
  have r_v_1 : RI v_1 0 1 := hp_v_1.1
  refine lv_istore (lv' := [(4, .int v_1), (0, .ref p0), (1, .int p1), (2, .int p2), (3, .int p3)]) hx hb dX10_act_7 hl (by decide) rfl (fun ls hl => ?_)
  refine lv_iload hx hb dX10_act_9 (lv_at hl 0 rfl) ?_
  refine lv_if_eq (tgt := 17) hx hb dX10_act_11 (by decide) (fun c_11 => ?_) (fun c_11 => ?_)
  · have r_v_1 : RI v_1 0 0 := rc_eq1 r_v_1 rl_0 (ti_eq c_11) (by decide)
    refine lv_aload_n hx hb dX10_act_17 rfl (lv_at hl 1 rfl) ?_
    refine tk_v (va_runV (As := []) (rest := []) ⟨hx, hb, hml, hown, hts⟩ (c_X10_snap l D cy z H.size Ps w0 hw.1 p0 h_p0) (cwV 0 hts (gV tw_1505 tw_1507 ts_78 tw_15 tw_1508) rfl rfl rfl (by decide +kernel) ⟨Nat.le_of_ble_eq_true rfl, Nat.le_of_ble_eq_true rfl⟩) (tg_preV hw hK hSD hA (ci := 10) (q := (RX10, TX10, 49)) rfl h_p0 rfl) rfl rfl hl.1 rfl (lv_room (Nat.le_of_ble_eq_true rfl)) dX10_act_18 ⟨Nat.le_of_ble_eq_true rfl, Nat.le_of_ble_eq_true rfl⟩) hw hA ⟨by decide, by decide⟩ (fun ws H locs hp_v_2 hw hF9 => ?_)
    obtain ⟨v_3, m_v_3, r_v_3⟩ := (hp_v_2.1)
    refine lv_aload_n hx hb dX10_act_21 rfl (lv_at hl 1 rfl) ?_
    refine lv_iload_n hx hb dX10_act_22 rfl (lv_at hl 2 rfl) ?_
    refine lv_iload_n hx hb dX10_act_23 rfl (lv_at hl 3 rfl) ?_
    refine lv_iload_n hx hb dX10_act_24 rfl (lv_at hl 4 rfl) ?_
    refine tk_v (va_runV (As := [.int p1, .int p2, .int p3]) (rest := []) ⟨hx, hb, hml, hown, hts⟩ (c_X10_live__2 l D cy z H.size Ps ws hw.1 p0 p1 p2 p3 h_p0 r_p1 r_p2 r_p3) (cwV 3 hts (gV tw_1509 tw_1511 ts_79 tw_15 tw_1512) rfl rfl rfl (by decide +kernel) ⟨Nat.le_of_ble_eq_true rfl, Nat.le_of_ble_eq_true rfl⟩) (tg_preV hw hK hSD hA (ci := 10) (q := (RX10, TX10, 49)) rfl h_p0 rfl) rfl rfl hl.1 rfl (lv_room (Nat.le_of_ble_eq_true rfl)) dX10_act_25 ⟨Nat.le_of_ble_eq_true rfl, Nat.le_of_ble_eq_true rfl⟩) hw hA ⟨by decide, by decide⟩ (fun ws H locs hp_v_4 hw hF9 => ?_)
    have m_v_3 := FLD.over hF9 m_v_3 (by decide)
    refine lv_iconst (v := 0) hx hb dX10_act_28 (by decide) ?_
    subst hQ
    exact W.iret (v := 0) hx hb hr (fun t ht hW => ⟨⟨0, ws, rfl, ⟨⟨rl_0.to (by decide), (fun h0 => ⟨⟨_, m_v_3, r_v_3⟩, trivial⟩), (fun _ => trivial)⟩, hw.1, hw.2.2.2.2.1⟩, by rw [ht]; exact hw.2.1, va_K.moved hW.alike hK, hw.2.2.1⟩, hw.2.2.2.1.F ht⟩) hw.2.2.2.1.2.2 dX10_act_29
  · have r_v_1 : RI v_1 1 1 := rc_neL r_v_1 rl_0 (ti_ne c_11) (by decide)
    refine lv_iload hx hb dX10_act_14 (lv_at hl 0 rfl) ?_
    subst hQ
    exact W.iret (v := v_1) hx hb hr (fun t ht hW => ⟨⟨v_1, w0, rfl, ⟨⟨r_v_1.to (by decide), (fun h0 => absurd (ti_eq h0) (by have h8 := r_v_1; unfold RI at h8; rw [Int32.toInt_zero]; omega)), (fun h0 => trivial)⟩, hw.1, hw.2.2.2.2.1⟩, by rw [ht]; exact hw.2.1, va_K.moved hW.alike hK, hw.2.2.1⟩, hw.2.2.2.1.F ht⟩) hw.2.2.2.1.2.2 dX10_act_16
abbrev wr_X10_open : List (Nat × Nat) := [(10, 0), (10, 25)]
abbrev wa_X10_open : List Nat := [34, 37]
set_option maxHeartbeats 4000000 in
set_option maxRecDepth 100000 in
theorem c_X10_open (l : Launch) (D : va_G) (cy : Nat → ClassId) (z : Nat → Nat) (sz : Nat) (Ps : PSI) (w0 : va_W) (hT : HT cy GG Ps w0) (p0 : Nat) (p1 : Int32) (h_p0 : (p0, 55) ∈ Ps) (r_p1 : RI p1 (-2147483648) 2147483647) : Met l yX10_open (Cond.code yX10_open cX10_open 2 (some .int) :: gT) ({ frames := 5, cells := 0, slots := 0, locals := 1000 } : Room) (va_Pc [.ref p0, .int p1] (PRE D cy z w0 sz)) (va_Qi (fun (r : Int32) (u : va_W) => (RI r (-1) 1 ∧ (r = 0 → True) ∧ (¬ r = 0 → True)) ∧ HT cy GG Ps u ∧ FR wr_X10_open wa_X10_open Ps w0 u) (BB D cy (va_A w0 sz) (fun (u : va_W) => u)) (va_A w0 sz)) 0 0 (va_A w0 sz) := by
  refine Met.ofW (cc := cX10_open) (maxL := 2) (ret := (some .int)) (by decide) rfl ?_
  intro p e s m args below meth c s₁ B hml hv
  obtain ⟨rfl, hsz, hP, hK, hD0, hSD⟩ := hv
  have hx := B.exec
  have hb := B.bytes
  have hr := B.returns
  have hlocks := B.notSynchronized
  have hts : ∀ w ∈ gT, w.before _ s = true := fun w h => atoms_spec (ws := Cond.code yX10_open cX10_open 2 (some .int) :: gT) B.pre w (List.mem_cons_of_mem _ h)
  have hown : s.vm.findClass RX10 = some m.cls := findClass_of_methodNamed B.named
  subst hsz
  have hD := hD0.self (sz := s.heap.size)
  generalize hAe : va_A w0 s.heap.size = A at hD hSD ⊢
  have hA : ∀ q : Nat, s.heap.size ≤ q → A q := fun q h => by rw [← hAe]; exact Or.inr h
  have hl := lv_entry ([.ref p0, .int p1]) (n := 2) (Nat.le_of_ble_eq_true rfl)
  rw [lg_entry_eq]
  generalize (lg_sl ([.ref p0, .int p1]) ++ List.replicate (2 - (lg_sl ([.ref p0, .int p1])).length) Slot.unset).toArray = ls at hl ⊢
  have hl : lv_has ls 2 [(0, .ref p0), (1, .int p1)] := hl
  refine nameQ (fun Q hQ => ?_)
  have hw : WD D cy GG A s wr_X10_open wa_X10_open Ps w0 Ps w0 s.heap [] := ⟨hT, hP, hD, va_S.rf, FR.rf, hT.1, [], (List.append_nil _).symm⟩
  refine lv_aload_n hx hb dX10_open_0 rfl (lv_at hl 0 rfl) ?_
  refine lv_iconst (v := 0) hx hb dX10_open_1 (by decide) ?_
  refine tg_put (ci := 10) (ts := ty_MODEL) (v := .int 0) (ty := .int) (C := RX10) (T := TX10) (N := 49) hx hb hts inX10 tyX10 tyX10_ok nmX10 hown hK hw h_p0 rfl rfl 0 (by decide) (hts _ tw_1137) (fun _ h9 => h9) rfl (by decide +kernel) rfl rfl (ft := vI (-2147483648) 2147483647) rfl ⟨_, rfl, (rl_0.to (by decide))⟩ (by decide) dX10_open_2 (fun ws H locs hw n_k_1 hF9 => ?_)
  refine lv_aload_n hx hb dX10_open_5 rfl (lv_at hl 0 rfl) ?_
  refine lv_iload_n hx hb dX10_open_6 rfl (lv_at hl 1 rfl) ?_
  refine tk_ir (va_runV (As := [.int p1]) (rest := []) ⟨hx, hb, hml, hown, hts⟩ (c_X10_isParcel l D cy z H.size Ps ws hw.1 p0 p1 h_p0 r_p1) (cwV 1 hts (gV tw_1429 tw_1431 ts_65 tw_15 tw_1432) rfl rfl rfl (by decide +kernel) ⟨Nat.le_of_ble_eq_true rfl, Nat.le_of_ble_eq_true rfl⟩) (tg_preV hw hK hSD hA (ci := 10) (q := (RX10, TX10, 49)) rfl h_p0 rfl) rfl rfl hl.1 rfl (lv_room (Nat.le_of_ble_eq_true rfl)) dX10_open_7 ⟨Nat.le_of_ble_eq_true rfl, Nat.le_of_ble_eq_true rfl⟩) hw hA (fun v_2  H locs hp_v_2 hw => ?_)
  have r_v_2 : RI v_2 0 1 := hp_v_2.1
  refine lv_if_eq (tgt := 23) hx hb dX10_open_10 (by decide) (fun c_10 => ?_) (fun c_10 => ?_)
  · have r_v_2 : RI v_2 0 0 := rc_eq1 r_v_2 rl_0 (ti_eq c_10) (by decide)
    refine lv_iconst (v := (-1)) hx hb dX10_open_23 (by decide) ?_
    subst hQ
    exact W.iret (v := (-1)) hx hb hr (fun t ht hW => ⟨⟨(-1), ws, rfl, ⟨⟨rl_m1.to (by decide), (fun _ => trivial), (fun h0 => trivial)⟩, hw.1, hw.2.2.2.2.1⟩, by rw [ht]; exact hw.2.1, va_K.moved hW.alike hK, hw.2.2.1⟩, hw.2.2.2.1.F ht⟩) hw.2.2.2.1.2.2 dX10_open_24
  · have r_v_2 : RI v_2 1 1 := rc_neL r_v_2 rl_0 (ti_ne c_10) (by decide)
    have r_p1 : RI p1 0 5 := ((hp_v_2.2.2 c_10).1)
    refine lv_aload_n hx hb dX10_open_13 rfl (lv_at hl 0 rfl) ?_
    refine lv_iconst (v := 4) hx hb dX10_open_14 (by decide) ?_
    refine lv_iload_n hx hb dX10_open_15 rfl (lv_at hl 1 rfl) ?_
    refine lv_iconst (v := 0) hx hb dX10_open_16 (by decide) ?_
    refine tk_i (va_runV (As := [.int 4, .int p1, .int 0]) (rest := []) ⟨hx, hb, hml, hown, hts⟩ (c_X10_act__2 l D cy z H.size Ps ws hw.1 p0 4 p1 0 h_p0 rl_4 r_p1 rl_0) (cwV 3 hts (gV tw_1497 tw_1499 ts_76 tw_15 tw_1500) rfl rfl rfl (by decide +kernel) ⟨Nat.le_of_ble_eq_true rfl, Nat.le_of_ble_eq_true rfl⟩) (tg_preV hw hK hSD hA (ci := 10) (q := (RX10, TX10, 49)) rfl h_p0 rfl) rfl rfl hl.1 rfl (lv_room (Nat.le_of_ble_eq_true rfl)) dX10_open_17 ⟨Nat.le_of_ble_eq_true rfl, Nat.le_of_ble_eq_true rfl⟩) hw hA ⟨by decide, by decide⟩ (fun v_3 ws H locs hp_v_3 hw hF9 => ?_)
    have n_k_1 := FLD.over hF9 n_k_1 (by decide)
    have r_v_3 : RI v_3 0 1 := hp_v_3.1
    by_cases c9_v_3 : v_3 = 0
    · have r_v_3 : RI v_3 0 0 := by rw [c9_v_3]; exact rl_0
      obtain ⟨v_4, m_v_4, r_v_4⟩ := ((hp_v_3.2.1 c9_v_3).1)
      refine lv_goto (tgt := 24) hx hb dX10_open_20 (by decide) ?_
      subst hQ
      exact W.iret (v := v_3) hx hb hr (fun t ht hW => ⟨⟨v_3, ws, rfl, ⟨⟨r_v_3.to (by decide), (fun h0 => trivial), (fun _ => trivial)⟩, hw.1, hw.2.2.2.2.1⟩, by rw [ht]; exact hw.2.1, va_K.moved hW.alike hK, hw.2.2.1⟩, hw.2.2.2.1.F ht⟩) hw.2.2.2.1.2.2 dX10_open_24
    · have r_v_3 : RI v_3 1 1 := rc_neL r_v_3 rl_0 (ti_ne c9_v_3) (by decide)
      refine lv_goto (tgt := 24) hx hb dX10_open_20 (by decide) ?_
      subst hQ
      exact W.iret (v := v_3) hx hb hr (fun t ht hW => ⟨⟨v_3, ws, rfl, ⟨⟨r_v_3.to (by decide), (fun _ => trivial), (fun h0 => trivial)⟩, hw.1, hw.2.2.2.2.1⟩, by rw [ht]; exact hw.2.1, va_K.moved hW.alike hK, hw.2.2.1⟩, hw.2.2.2.1.F ht⟩) hw.2.2.2.1.2.2 dX10_open_24
abbrev wr_X10_refuse : List (Nat × Nat) := [(10, 0)]
abbrev wa_X10_refuse : List Nat := []
set_option maxHeartbeats 4000000 in
set_option maxRecDepth 100000 in
theorem c_X10_refuse (l : Launch) (D : va_G) (cy : Nat → ClassId) (z : Nat → Nat) (sz : Nat) (Ps : PSI) (w0 : va_W) (hT : HT cy GG Ps w0) (p0 : Nat) (h_p0 : (p0, 55) ∈ Ps) : Met l yX10_refuse (Cond.code yX10_refuse cX10_refuse 1 (some .int) :: gT) ({ frames := 0, cells := 0, slots := 0, locals := 200 } : Room) (va_Pc [.ref p0] (PRE D cy z w0 sz)) (va_Qi (fun (r : Int32) (u : va_W) => (RI r 0 0 ∧ (r = 0 → True) ∧ (¬ r = 0 → True)) ∧ HT cy GG Ps u ∧ FR wr_X10_refuse wa_X10_refuse Ps w0 u) (BB D cy (va_A w0 sz) (fun (u : va_W) => u)) (va_A w0 sz)) 0 0 (va_A w0 sz) := by
  refine Met.ofW (cc := cX10_refuse) (maxL := 1) (ret := (some .int)) (by decide) rfl ?_
  intro p e s m args below meth c s₁ B hml hv
  obtain ⟨rfl, hsz, hP, hK, hD0, hSD⟩ := hv
  have hx := B.exec
  have hb := B.bytes
  have hr := B.returns
  have hlocks := B.notSynchronized
  have hts : ∀ w ∈ gT, w.before _ s = true := fun w h => atoms_spec (ws := Cond.code yX10_refuse cX10_refuse 1 (some .int) :: gT) B.pre w (List.mem_cons_of_mem _ h)
  have hown : s.vm.findClass RX10 = some m.cls := findClass_of_methodNamed B.named
  subst hsz
  have hD := hD0.self (sz := s.heap.size)
  generalize hAe : va_A w0 s.heap.size = A at hD hSD ⊢
  have hA : ∀ q : Nat, s.heap.size ≤ q → A q := fun q h => by rw [← hAe]; exact Or.inr h
  have hl := lv_entry ([.ref p0]) (n := 1) (Nat.le_of_ble_eq_true rfl)
  rw [lg_entry_eq]
  generalize (lg_sl ([.ref p0]) ++ List.replicate (1 - (lg_sl ([.ref p0])).length) Slot.unset).toArray = ls at hl ⊢
  have hl : lv_has ls 1 [(0, .ref p0)] := hl
  refine nameQ (fun Q hQ => ?_)
  have hw : WD D cy GG A s wr_X10_refuse wa_X10_refuse Ps w0 Ps w0 s.heap [] := ⟨hT, hP, hD, va_S.rf, FR.rf, hT.1, [], (List.append_nil _).symm⟩
  refine lv_aload_n hx hb dX10_refuse_0 rfl (lv_at hl 0 rfl) ?_
  refine lv_iconst (v := 1) hx hb dX10_refuse_1 (by decide) ?_
  refine tg_put (ci := 10) (ts := ty_MODEL) (v := .int 1) (ty := .int) (C := RX10) (T := TX10) (N := 49) hx hb hts inX10 tyX10 tyX10_ok nmX10 hown hK hw h_p0 rfl rfl 0 (by decide) (hts _ tw_1137) (fun _ h9 => h9) rfl (by decide +kernel) rfl rfl (ft := vI (-2147483648) 2147483647) rfl ⟨_, rfl, (rl_1.to (by decide))⟩ (by decide) dX10_refuse_2 (fun ws H locs hw n_k_1 hF9 => ?_)
  refine lv_iconst (v := 0) hx hb dX10_refuse_5 (by decide) ?_
  subst hQ
  exact W.iret (v := 0) hx hb hr (fun t ht hW => ⟨⟨0, ws, rfl, ⟨⟨rl_0.to (by decide), (fun h0 => trivial), (fun _ => trivial)⟩, hw.1, hw.2.2.2.2.1⟩, by rw [ht]; exact hw.2.1, va_K.moved hW.alike hK, hw.2.2.1⟩, hw.2.2.2.1.F ht⟩) hw.2.2.2.1.2.2 dX10_refuse_6
abbrev wr_X10_parcel : List (Nat × Nat) := [(10, 0)]
abbrev wa_X10_parcel : List Nat := []
set_option maxHeartbeats 4000000 in
set_option maxRecDepth 100000 in
theorem c_X10_parcel (l : Launch) (D : va_G) (cy : Nat → ClassId) (z : Nat → Nat) (sz : Nat) (Ps : PSI) (w0 : va_W) (hT : HT cy GG Ps w0) (p0 : Nat) (p1 : Int32) (p2 : Int32) (h_p0 : (p0, 55) ∈ Ps) (r_p1 : RI p1 (-2147483648) 2147483647) (r_p2 : RI p2 (-2147483648) 2147483647) : Met l yX10_parcel (Cond.code yX10_parcel cX10_parcel 3 (some .int) :: gT) ({ frames := 3, cells := 0, slots := 0, locals := 600 } : Room) (va_Pc [.ref p0, .int p1, .int p2] (PRE D cy z w0 sz)) (va_Qi (fun (r : Int32) (u : va_W) => (RI r (-2147483648) 2147483647 ∧ (r = 0 → True) ∧ (¬ r = 0 → True)) ∧ HT cy GG Ps u ∧ FR wr_X10_parcel wa_X10_parcel Ps w0 u) (BB D cy (va_A w0 sz) (fun (u : va_W) => u)) (va_A w0 sz)) 0 0 (va_A w0 sz) := by
  refine Met.ofW (cc := cX10_parcel) (maxL := 3) (ret := (some .int)) (by decide) rfl ?_
  intro p e s m args below meth c s₁ B hml hv
  obtain ⟨rfl, hsz, hP, hK, hD0, hSD⟩ := hv
  have hx := B.exec
  have hb := B.bytes
  have hr := B.returns
  have hlocks := B.notSynchronized
  have hts : ∀ w ∈ gT, w.before _ s = true := fun w h => atoms_spec (ws := Cond.code yX10_parcel cX10_parcel 3 (some .int) :: gT) B.pre w (List.mem_cons_of_mem _ h)
  have hown : s.vm.findClass RX10 = some m.cls := findClass_of_methodNamed B.named
  subst hsz
  have hD := hD0.self (sz := s.heap.size)
  generalize hAe : va_A w0 s.heap.size = A at hD hSD ⊢
  have hA : ∀ q : Nat, s.heap.size ≤ q → A q := fun q h => by rw [← hAe]; exact Or.inr h
  have hl := lv_entry ([.ref p0, .int p1, .int p2]) (n := 3) (Nat.le_of_ble_eq_true rfl)
  rw [lg_entry_eq]
  generalize (lg_sl ([.ref p0, .int p1, .int p2]) ++ List.replicate (3 - (lg_sl ([.ref p0, .int p1, .int p2])).length) Slot.unset).toArray = ls at hl ⊢
  have hl : lv_has ls 3 [(0, .ref p0), (1, .int p1), (2, .int p2)] := hl
  refine nameQ (fun Q hQ => ?_)
  have hw : WD D cy GG A s wr_X10_parcel wa_X10_parcel Ps w0 Ps w0 s.heap [] := ⟨hT, hP, hD, va_S.rf, FR.rf, hT.1, [], (List.append_nil _).symm⟩
  refine lv_aload_n hx hb dX10_parcel_0 rfl (lv_at hl 0 rfl) ?_
  refine lv_iconst (v := 0) hx hb dX10_parcel_1 (by decide) ?_
  refine tg_put (ci := 10) (ts := ty_MODEL) (v := .int 0) (ty := .int) (C := RX10) (T := TX10) (N := 49) hx hb hts inX10 tyX10 tyX10_ok nmX10 hown hK hw h_p0 rfl rfl 0 (by decide) (hts _ tw_1137) (fun _ h9 => h9) rfl (by decide +kernel) rfl rfl (ft := vI (-2147483648) 2147483647) rfl ⟨_, rfl, (rl_0.to (by decide))⟩ (by decide) dX10_parcel_2 (fun ws H locs hw n_k_1 hF9 => ?_)
  refine lv_aload_n hx hb dX10_parcel_5 rfl (lv_at hl 0 rfl) ?_
  refine lv_iload_n hx hb dX10_parcel_6 rfl (lv_at hl 1 rfl) ?_
  refine tk_ir (va_runV (As := [.int p1]) (rest := []) ⟨hx, hb, hml, hown, hts⟩ (c_X10_isParcel l D cy z H.size Ps ws hw.1 p0 p1 h_p0 r_p1) (cwV 1 hts (gV tw_1429 tw_1431 ts_65 tw_15 tw_1432) rfl rfl rfl (by decide +kernel) ⟨Nat.le_of_ble_eq_true rfl, Nat.le_of_ble_eq_true rfl⟩) (tg_preV hw hK hSD hA (ci := 10) (q := (RX10, TX10, 49)) rfl h_p0 rfl) rfl rfl hl.1 rfl (lv_room (Nat.le_of_ble_eq_true rfl)) dX10_parcel_7 ⟨Nat.le_of_ble_eq_true rfl, Nat.le_of_ble_eq_true rfl⟩) hw hA (fun v_2  H locs hp_v_2 hw => ?_)
  have r_v_2 : RI v_2 0 1 := hp_v_2.1
  refine lv_if_ne (tgt := 18) hx hb dX10_parcel_10 (by decide) (fun c_10 => ?_) (fun c_10 => ?_)
  · have r_v_2 : RI v_2 1 1 := rc_neL r_v_2 rl_0 (ti_ne c_10) (by decide)
    have r_p1 : RI p1 0 5 := ((hp_v_2.2.2 c_10).1)
    refine lv_iload_n hx hb dX10_parcel_18 rfl (lv_at hl 2 rfl) ?_
    have w_19 := r_p2
    by_cases cl_19 : p2.toInt < 0 ∨ 6 < p2.toInt
    · refine lv_tableOut (tgt := 122) hx hb dX10_parcel_19 cl_19 (by decide) ?_
      refine lv_aload_n hx hb dX10_parcel_122 rfl (lv_at hl 0 rfl) ?_
      refine tk_i (va_runV (As := []) (rest := []) ⟨hx, hb, hml, hown, hts⟩ (c_X10_refuse l D cy z H.size Ps ws hw.1 p0 h_p0) (cwV 0 hts (gV tw_1445 tw_1447 ts_68 tw_15 tw_1448) rfl rfl rfl (by decide +kernel) ⟨Nat.le_of_ble_eq_true rfl, Nat.le_of_ble_eq_true rfl⟩) (tg_preV hw hK hSD hA (ci := 10) (q := (RX10, TX10, 49)) rfl h_p0 rfl) rfl rfl hl.1 rfl (lv_room (Nat.le_of_ble_eq_true rfl)) dX10_parcel_123 ⟨Nat.le_of_ble_eq_true rfl, Nat.le_of_ble_eq_true rfl⟩) hw hA ⟨by decide, by decide⟩ (fun v_3 ws H locs hp_v_3 hw hF9 => ?_)
      have r_v_3 : RI v_3 0 0 := hp_v_3.1
      subst hQ
      exact W.iret (v := v_3) hx hb hr (fun t ht hW => ⟨⟨v_3, ws, rfl, ⟨⟨r_v_3.to (by decide), (fun h0 => trivial), (fun _ => trivial)⟩, hw.1, hw.2.2.2.2.1⟩, by rw [ht]; exact hw.2.1, va_K.moved hW.alike hK, hw.2.2.1⟩, hw.2.2.2.1.F ht⟩) hw.2.2.2.1.2.2 dX10_parcel_126
    · have e_19 : p2.toInt = 0 ∨ p2.toInt = 1 ∨ p2.toInt = 2 ∨ p2.toInt = 3 ∨ p2.toInt = 4 ∨ p2.toInt = 5 ∨ p2.toInt = 6 := by omega
      rcases e_19 with h_19 | h_19 | h_19 | h_19 | h_19 | h_19 | h_19
      · refine lv_tableIn (tgt := 60) (off := 41) hx hb dX10_parcel_19 (by omega) (by omega) (by rw [h_19]; rfl) (by decide) ?_
        have r_p2 : RI p2 0 0 := ⟨by omega, by omega⟩
        refine lv_aload_n hx hb dX10_parcel_60 rfl (lv_at hl 0 rfl) ?_
        refine lv_iload_n hx hb dX10_parcel_61 rfl (lv_at hl 1 rfl) ?_
        refine tk_ir (va_runV (As := [.int p1]) (rest := []) ⟨hx, hb, hml, hown, hts⟩ (c_X10_whatIs l D cy z H.size Ps ws hw.1 p0 p1 h_p0 r_p1) (cwV 1 hts (gV tw_1449 tw_1451 ts_69 tw_15 tw_1452) rfl rfl rfl (by decide +kernel) ⟨Nat.le_of_ble_eq_true rfl, Nat.le_of_ble_eq_true rfl⟩) (tg_preV hw hK hSD hA (ci := 10) (q := (RX10, TX10, 49)) rfl h_p0 rfl) rfl rfl hl.1 rfl (lv_room (Nat.le_of_ble_eq_true rfl)) dX10_parcel_62 ⟨Nat.le_of_ble_eq_true rfl, Nat.le_of_ble_eq_true rfl⟩) hw hA (fun v_4  H locs hp_v_4 hw => ?_)
        have r_v_4 : RI v_4 (-1) 5 := hp_v_4.1
        by_cases c9_v_4 : v_4.toInt < 0
        · have r_v_4 : RI v_4 (-1) (-1) := by unfold RI at r_v_4 ⊢; omega
          have x_NB_p0_p1 := (hp_v_4.2.2.2.2.1 (by omega)).1
          subst hQ
          exact W.iret (v := v_4) hx hb hr (fun t ht hW => ⟨⟨v_4, ws, rfl, ⟨⟨r_v_4.to (by decide), (fun _ => trivial), (fun h0 => trivial)⟩, hw.1, hw.2.2.2.2.1⟩, by rw [ht]; exact hw.2.1, va_K.moved hW.alike hK, hw.2.2.1⟩, hw.2.2.2.1.F ht⟩) hw.2.2.2.1.2.2 dX10_parcel_65
        · have r_v_4 : RI v_4 0 5 := by unfold RI at r_v_4 ⊢; omega
          have x_WB_p0_p1_v_4 := (hp_v_4.2.2.2.2.2 (by omega)).1
          subst hQ
          exact W.iret (v := v_4) hx hb hr (fun t ht hW => ⟨⟨v_4, ws, rfl, ⟨⟨r_v_4.to (by decide), (fun h0 => trivial), (fun h0 => trivial)⟩, hw.1, hw.2.2.2.2.1⟩, by rw [ht]; exact hw.2.1, va_K.moved hW.alike hK, hw.2.2.1⟩, hw.2.2.2.1.F ht⟩) hw.2.2.2.1.2.2 dX10_parcel_65
      · refine lv_tableIn (tgt := 66) (off := 47) hx hb dX10_parcel_19 (by omega) (by omega) (by rw [h_19]; rfl) (by decide) ?_
        have r_p2 : RI p2 1 1 := ⟨by omega, by omega⟩
        refine lv_aload_n hx hb dX10_parcel_66 rfl (lv_at hl 0 rfl) ?_
        refine tg_get (ci := 10) (ts := ty_MODEL) (C := RX10) (T := TX10) (N := 49) hx hb hts inX10 hown hK hw h_p0 rfl rfl 14 (by decide) (hts _ tw_1151) (fun _ h9 => h9) (ft := vR 34) rfl dX10_parcel_67 (fun u_5 hv_u_5 m_u_5 => ?_)
        obtain ⟨vu_5, rfl, h_vu_5⟩ := hv_u_5
        refine lv_bipush (v := 86) hx hb dX10_parcel_70 (by decide) ?_
        refine lv_iload_n hx hb dX10_parcel_72 rfl (lv_at hl 1 rfl) ?_
        refine lv_iadd hx hb dX10_parcel_73 (lv_topi (fun v_6 e_v_6 => ?_))
        obtain ⟨t_v_6, r_v_6⟩ := tq_add (lo := 86) (hi := 91) rl_86 r_p1 (by decide +kernel) e_v_6
        have t_v_6 : v_6.toInt = 86 + p1.toInt := t_v_6
        refine tg_iald (lo := (-2147483648)) (hi := 2147483647) hx hb hK hw h_vu_5 rfl 86 91 r_v_6 (by decide) (by decide +kernel) dX10_parcel_74 (fun v_7 r_v_7 m_v_7 o_v_7 => ?_)
        subst hQ
        exact W.iret (v := v_7) hx hb hr (fun t ht hW => ⟨⟨v_7, ws, rfl, ⟨⟨r_v_7.to (by decide), (fun h0 => trivial), (fun h0 => trivial)⟩, hw.1, hw.2.2.2.2.1⟩, by rw [ht]; exact hw.2.1, va_K.moved hW.alike hK, hw.2.2.1⟩, hw.2.2.2.1.F ht⟩) hw.2.2.2.1.2.2 dX10_parcel_75
      · refine lv_tableIn (tgt := 76) (off := 57) hx hb dX10_parcel_19 (by omega) (by omega) (by rw [h_19]; rfl) (by decide) ?_
        have r_p2 : RI p2 2 2 := ⟨by omega, by omega⟩
        refine lv_aload_n hx hb dX10_parcel_76 rfl (lv_at hl 0 rfl) ?_
        refine lv_iload_n hx hb dX10_parcel_77 rfl (lv_at hl 1 rfl) ?_
        refine tk_ir (va_runV (As := [.int p1]) (rest := []) ⟨hx, hb, hml, hown, hts⟩ (c_X10_sizeOf l D cy z H.size Ps ws hw.1 p0 p1 h_p0 r_p1) (cwV 1 hts (gV tw_1453 tw_1455 ts_70 tw_15 tw_1456) rfl rfl rfl (by decide +kernel) ⟨Nat.le_of_ble_eq_true rfl, Nat.le_of_ble_eq_true rfl⟩) (tg_preV hw hK hSD hA (ci := 10) (q := (RX10, TX10, 49)) rfl h_p0 rfl) rfl rfl hl.1 rfl (lv_room (Nat.le_of_ble_eq_true rfl)) dX10_parcel_78 ⟨Nat.le_of_ble_eq_true rfl, Nat.le_of_ble_eq_true rfl⟩) hw hA (fun v_8  H locs hp_v_8 hw => ?_)
        have r_v_8 : RI v_8 (-2147483648) 2147483647 := hp_v_8.1
        subst hQ
        exact W.iret (v := v_8) hx hb hr (fun t ht hW => ⟨⟨v_8, ws, rfl, ⟨⟨r_v_8.to (by decide), (fun h0 => trivial), (fun h0 => trivial)⟩, hw.1, hw.2.2.2.2.1⟩, by rw [ht]; exact hw.2.1, va_K.moved hW.alike hK, hw.2.2.1⟩, hw.2.2.2.1.F ht⟩) hw.2.2.2.1.2.2 dX10_parcel_81
      · refine lv_tableIn (tgt := 82) (off := 63) hx hb dX10_parcel_19 (by omega) (by omega) (by rw [h_19]; rfl) (by decide) ?_
        have r_p2 : RI p2 3 3 := ⟨by omega, by omega⟩
        refine lv_aload_n hx hb dX10_parcel_82 rfl (lv_at hl 0 rfl) ?_
        refine tg_get (ci := 10) (ts := ty_MODEL) (C := RX10) (T := TX10) (N := 49) hx hb hts inX10 hown hK hw h_p0 rfl rfl 14 (by decide) (hts _ tw_1151) (fun _ h9 => h9) (ft := vR 34) rfl dX10_parcel_83 (fun u_9 hv_u_9 m_u_9 => ?_)
        obtain ⟨vu_9, rfl, h_vu_9⟩ := hv_u_9
        refine lv_bipush (v := 92) hx hb dX10_parcel_86 (by decide) ?_
        refine lv_iload_n hx hb dX10_parcel_88 rfl (lv_at hl 1 rfl) ?_
        refine lv_iadd hx hb dX10_parcel_89 (lv_topi (fun v_10 e_v_10 => ?_))
        obtain ⟨t_v_10, r_v_10⟩ := tq_add (lo := 92) (hi := 97) rl_92 r_p1 (by decide +kernel) e_v_10
        have t_v_10 : v_10.toInt = 92 + p1.toInt := t_v_10
        refine tg_iald (lo := (-2147483648)) (hi := 2147483647) hx hb hK hw h_vu_9 rfl 92 97 r_v_10 (by decide) (by decide +kernel) dX10_parcel_90 (fun v_11 r_v_11 m_v_11 o_v_11 => ?_)
        subst hQ
        exact W.iret (v := v_11) hx hb hr (fun t ht hW => ⟨⟨v_11, ws, rfl, ⟨⟨r_v_11.to (by decide), (fun h0 => trivial), (fun h0 => trivial)⟩, hw.1, hw.2.2.2.2.1⟩, by rw [ht]; exact hw.2.1, va_K.moved hW.alike hK, hw.2.2.1⟩, hw.2.2.2.1.F ht⟩) hw.2.2.2.1.2.2 dX10_parcel_91
      · refine lv_tableIn (tgt := 92) (off := 73) hx hb dX10_parcel_19 (by omega) (by omega) (by rw [h_19]; rfl) (by decide) ?_
        have r_p2 : RI p2 4 4 := ⟨by omega, by omega⟩
        refine lv_aload_n hx hb dX10_parcel_92 rfl (lv_at hl 0 rfl) ?_
        refine lv_iload_n hx hb dX10_parcel_93 rfl (lv_at hl 1 rfl) ?_
        refine tk_ir (va_runV (As := [.int p1]) (rest := []) ⟨hx, hb, hml, hown, hts⟩ (c_X10_isOpen l D cy z H.size Ps ws hw.1 p0 p1 h_p0 (r_p1.to (by decide))) (cwV 1 hts (gV tw_1457 tw_1459 ts_71 tw_15 tw_1460) rfl rfl rfl (by decide +kernel) ⟨Nat.le_of_ble_eq_true rfl, Nat.le_of_ble_eq_true rfl⟩) (tg_preV hw hK hSD hA (ci := 10) (q := (RX10, TX10, 49)) rfl h_p0 rfl) rfl rfl hl.1 rfl (lv_room (Nat.le_of_ble_eq_true rfl)) dX10_parcel_94 ⟨Nat.le_of_ble_eq_true rfl, Nat.le_of_ble_eq_true rfl⟩) hw hA (fun v_12  H locs hp_v_12 hw => ?_)
        have r_v_12 : RI v_12 0 1 := hp_v_12.1
        refine lv_if_eq (tgt := 104) hx hb dX10_parcel_97 (by decide) (fun c_97 => ?_) (fun c_97 => ?_)
        · have r_v_12 : RI v_12 0 0 := rc_eq1 r_v_12 rl_0 (ti_eq c_97) (by decide)
          refine lv_iconst (v := 0) hx hb dX10_parcel_104 (by decide) ?_
          subst hQ
          exact W.iret (v := 0) hx hb hr (fun t ht hW => ⟨⟨0, ws, rfl, ⟨⟨rl_0.to (by decide), (fun h0 => trivial), (fun _ => trivial)⟩, hw.1, hw.2.2.2.2.1⟩, by rw [ht]; exact hw.2.1, va_K.moved hW.alike hK, hw.2.2.1⟩, hw.2.2.2.1.F ht⟩) hw.2.2.2.1.2.2 dX10_parcel_105
        · have r_v_12 : RI v_12 1 1 := rc_neL r_v_12 rl_0 (ti_ne c_97) (by decide)
          refine lv_iconst (v := 1) hx hb dX10_parcel_100 (by decide) ?_
          refine lv_goto (tgt := 105) hx hb dX10_parcel_101 (by decide) ?_
          subst hQ
          exact W.iret (v := 1) hx hb hr (fun t ht hW => ⟨⟨1, ws, rfl, ⟨⟨rl_1.to (by decide), (fun _ => trivial), (fun h0 => trivial)⟩, hw.1, hw.2.2.2.2.1⟩, by rw [ht]; exact hw.2.1, va_K.moved hW.alike hK, hw.2.2.1⟩, hw.2.2.2.1.F ht⟩) hw.2.2.2.1.2.2 dX10_parcel_105
      · refine lv_tableIn (tgt := 106) (off := 87) hx hb dX10_parcel_19 (by omega) (by omega) (by rw [h_19]; rfl) (by decide) ?_
        have r_p2 : RI p2 5 5 := ⟨by omega, by omega⟩
        refine lv_aload_n hx hb dX10_parcel_106 rfl (lv_at hl 0 rfl) ?_
        refine tg_get (ci := 10) (ts := ty_MODEL) (C := RX10) (T := TX10) (N := 49) hx hb hts inX10 hown hK hw h_p0 rfl rfl 14 (by decide) (hts _ tw_1151) (fun _ h9 => h9) (ft := vR 34) rfl dX10_parcel_107 (fun u_13 hv_u_13 m_u_13 => ?_)
        obtain ⟨vu_13, rfl, h_vu_13⟩ := hv_u_13
        refine lv_bipush (v := 98) hx hb dX10_parcel_110 (by decide) ?_
        refine lv_iload_n hx hb dX10_parcel_112 rfl (lv_at hl 1 rfl) ?_
        refine lv_iadd hx hb dX10_parcel_113 (lv_topi (fun v_14 e_v_14 => ?_))
        obtain ⟨t_v_14, r_v_14⟩ := tq_add (lo := 98) (hi := 103) rl_98 r_p1 (by decide +kernel) e_v_14
        have t_v_14 : v_14.toInt = 98 + p1.toInt := t_v_14
        refine tg_iald (lo := (-2147483648)) (hi := 2147483647) hx hb hK hw h_vu_13 rfl 98 103 r_v_14 (by decide) (by decide +kernel) dX10_parcel_114 (fun v_15 r_v_15 m_v_15 o_v_15 => ?_)
        subst hQ
        exact W.iret (v := v_15) hx hb hr (fun t ht hW => ⟨⟨v_15, ws, rfl, ⟨⟨r_v_15.to (by decide), (fun h0 => trivial), (fun h0 => trivial)⟩, hw.1, hw.2.2.2.2.1⟩, by rw [ht]; exact hw.2.1, va_K.moved hW.alike hK, hw.2.2.1⟩, hw.2.2.2.1.F ht⟩) hw.2.2.2.1.2.2 dX10_parcel_115
      · refine lv_tableIn (tgt := 116) (off := 97) hx hb dX10_parcel_19 (by omega) (by omega) (by rw [h_19]; rfl) (by decide) ?_
        have r_p2 : RI p2 6 6 := ⟨by omega, by omega⟩
        refine lv_aload_n hx hb dX10_parcel_116 rfl (lv_at hl 0 rfl) ?_
        refine lv_iload_n hx hb dX10_parcel_117 rfl (lv_at hl 1 rfl) ?_
        refine tk_ir (va_runV (As := [.int p1]) (rest := []) ⟨hx, hb, hml, hown, hts⟩ (c_X10_sittersOf l D cy z H.size Ps ws hw.1 p0 p1 h_p0 (r_p1.to (by decide))) (cwV 1 hts (gV tw_1461 tw_1463 ts_72 tw_15 tw_1464) rfl rfl rfl (by decide +kernel) ⟨Nat.le_of_ble_eq_true rfl, Nat.le_of_ble_eq_true rfl⟩) (tg_preV hw hK hSD hA (ci := 10) (q := (RX10, TX10, 49)) rfl h_p0 rfl) rfl rfl hl.1 rfl (lv_room (Nat.le_of_ble_eq_true rfl)) dX10_parcel_118 ⟨Nat.le_of_ble_eq_true rfl, Nat.le_of_ble_eq_true rfl⟩) hw hA (fun v_16  H locs hp_v_16 hw => ?_)
        have r_v_16 : RI v_16 (-2147483648) 2147483647 := hp_v_16.1
        subst hQ
        exact W.iret (v := v_16) hx hb hr (fun t ht hW => ⟨⟨v_16, ws, rfl, ⟨⟨r_v_16.to (by decide), (fun h0 => trivial), (fun h0 => trivial)⟩, hw.1, hw.2.2.2.2.1⟩, by rw [ht]; exact hw.2.1, va_K.moved hW.alike hK, hw.2.2.1⟩, hw.2.2.2.1.F ht⟩) hw.2.2.2.1.2.2 dX10_parcel_121
  · have r_v_2 : RI v_2 0 0 := rc_eq1 r_v_2 rl_0 (ti_eq c_10) (by decide)
    refine lv_aload_n hx hb dX10_parcel_13 rfl (lv_at hl 0 rfl) ?_
    refine tk_i (va_runV (As := []) (rest := []) ⟨hx, hb, hml, hown, hts⟩ (c_X10_refuse l D cy z H.size Ps ws hw.1 p0 h_p0) (cwV 0 hts (gV tw_1445 tw_1447 ts_68 tw_15 tw_1448) rfl rfl rfl (by decide +kernel) ⟨Nat.le_of_ble_eq_true rfl, Nat.le_of_ble_eq_true rfl⟩) (tg_preV hw hK hSD hA (ci := 10) (q := (RX10, TX10, 49)) rfl h_p0 rfl) rfl rfl hl.1 rfl (lv_room (Nat.le_of_ble_eq_true rfl)) dX10_parcel_14 ⟨Nat.le_of_ble_eq_true rfl, Nat.le_of_ble_eq_true rfl⟩) hw hA ⟨by decide, by decide⟩ (fun v_17 ws H locs hp_v_17 hw hF9 => ?_)
    have r_v_17 : RI v_17 0 0 := hp_v_17.1
    subst hQ
    exact W.iret (v := v_17) hx hb hr (fun t ht hW => ⟨⟨v_17, ws, rfl, ⟨⟨r_v_17.to (by decide), (fun h0 => trivial), (fun _ => trivial)⟩, hw.1, hw.2.2.2.2.1⟩, by rw [ht]; exact hw.2.1, va_K.moved hW.alike hK, hw.2.2.1⟩, hw.2.2.2.1.F ht⟩) hw.2.2.2.1.2.2 dX10_parcel_17
abbrev wr_X10_person : List (Nat × Nat) := [(10, 0)]
abbrev wa_X10_person : List Nat := []
set_option maxHeartbeats 4000000 in
set_option maxRecDepth 100000 in
theorem c_X10_person (l : Launch) (D : va_G) (cy : Nat → ClassId) (z : Nat → Nat) (sz : Nat) (Ps : PSI) (w0 : va_W) (hT : HT cy GG Ps w0) (p0 : Nat) (p1 : Int32) (p2 : Int32) (h_p0 : (p0, 55) ∈ Ps) (r_p1 : RI p1 (-2147483648) 2147483647) (r_p2 : RI p2 (-2147483648) 2147483647) : Met l yX10_person (Cond.code yX10_person cX10_person 3 (some .int) :: gT) ({ frames := 3, cells := 0, slots := 0, locals := 600 } : Room) (va_Pc [.ref p0, .int p1, .int p2] (PRE D cy z w0 sz)) (va_Qi (fun (r : Int32) (u : va_W) => (RI r (-2147483648) 2147483647 ∧ (r = 0 → True) ∧ (¬ r = 0 → True)) ∧ HT cy GG Ps u ∧ FR wr_X10_person wa_X10_person Ps w0 u) (BB D cy (va_A w0 sz) (fun (u : va_W) => u)) (va_A w0 sz)) 0 0 (va_A w0 sz) := by
  refine Met.ofW (cc := cX10_person) (maxL := 3) (ret := (some .int)) (by decide) rfl ?_
  intro p e s m args below meth c s₁ B hml hv
  obtain ⟨rfl, hsz, hP, hK, hD0, hSD⟩ := hv
  have hx := B.exec
  have hb := B.bytes
  have hr := B.returns
  have hlocks := B.notSynchronized
  have hts : ∀ w ∈ gT, w.before _ s = true := fun w h => atoms_spec (ws := Cond.code yX10_person cX10_person 3 (some .int) :: gT) B.pre w (List.mem_cons_of_mem _ h)
  have hown : s.vm.findClass RX10 = some m.cls := findClass_of_methodNamed B.named
  subst hsz
  have hD := hD0.self (sz := s.heap.size)
  generalize hAe : va_A w0 s.heap.size = A at hD hSD ⊢
  have hA : ∀ q : Nat, s.heap.size ≤ q → A q := fun q h => by rw [← hAe]; exact Or.inr h
  have hl := lv_entry ([.ref p0, .int p1, .int p2]) (n := 3) (Nat.le_of_ble_eq_true rfl)
  rw [lg_entry_eq]
  generalize (lg_sl ([.ref p0, .int p1, .int p2]) ++ List.replicate (3 - (lg_sl ([.ref p0, .int p1, .int p2])).length) Slot.unset).toArray = ls at hl ⊢
  have hl : lv_has ls 3 [(0, .ref p0), (1, .int p1), (2, .int p2)] := hl
  refine nameQ (fun Q hQ => ?_)
  have hw : WD D cy GG A s wr_X10_person wa_X10_person Ps w0 Ps w0 s.heap [] := ⟨hT, hP, hD, va_S.rf, FR.rf, hT.1, [], (List.append_nil _).symm⟩
  refine lv_aload_n hx hb dX10_person_0 rfl (lv_at hl 0 rfl) ?_
  refine lv_iconst (v := 0) hx hb dX10_person_1 (by decide) ?_
  refine tg_put (ci := 10) (ts := ty_MODEL) (v := .int 0) (ty := .int) (C := RX10) (T := TX10) (N := 49) hx hb hts inX10 tyX10 tyX10_ok nmX10 hown hK hw h_p0 rfl rfl 0 (by decide) (hts _ tw_1137) (fun _ h9 => h9) rfl (by decide +kernel) rfl rfl (ft := vI (-2147483648) 2147483647) rfl ⟨_, rfl, (rl_0.to (by decide))⟩ (by decide) dX10_person_2 (fun ws H locs hw n_k_1 hF9 => ?_)
  refine lv_aload_n hx hb dX10_person_5 rfl (lv_at hl 0 rfl) ?_
  refine lv_iload_n hx hb dX10_person_6 rfl (lv_at hl 1 rfl) ?_
  refine tk_ir (va_runV (As := [.int p1]) (rest := []) ⟨hx, hb, hml, hown, hts⟩ (c_X10_isPerson l D cy z H.size Ps ws hw.1 p0 p1 h_p0 r_p1) (cwV 1 hts (gV tw_1469 tw_1471 ts_73 tw_15 tw_1472) rfl rfl rfl (by decide +kernel) ⟨Nat.le_of_ble_eq_true rfl, Nat.le_of_ble_eq_true rfl⟩) (tg_preV hw hK hSD hA (ci := 10) (q := (RX10, TX10, 49)) rfl h_p0 rfl) rfl rfl hl.1 rfl (lv_room (Nat.le_of_ble_eq_true rfl)) dX10_person_7 ⟨Nat.le_of_ble_eq_true rfl, Nat.le_of_ble_eq_true rfl⟩) hw hA (fun v_2  H locs hp_v_2 hw => ?_)
  have r_v_2 : RI v_2 0 1 := hp_v_2.1
  refine lv_if_ne (tgt := 18) hx hb dX10_person_10 (by decide) (fun c_10 => ?_) (fun c_10 => ?_)
  · have r_v_2 : RI v_2 1 1 := rc_neL r_v_2 rl_0 (ti_ne c_10) (by decide)
    have r_p1 : RI p1 0 7 := ((hp_v_2.2.2 c_10).1)
    refine lv_iload_n hx hb dX10_person_18 rfl (lv_at hl 2 rfl) ?_
    have w_19 := r_p2
    by_cases cl_19 : p2.toInt < 0 ∨ 4 < p2.toInt
    · refine lv_tableOut (tgt := 103) hx hb dX10_person_19 cl_19 (by decide) ?_
      refine lv_aload_n hx hb dX10_person_103 rfl (lv_at hl 0 rfl) ?_
      refine tk_i (va_runV (As := []) (rest := []) ⟨hx, hb, hml, hown, hts⟩ (c_X10_refuse l D cy z H.size Ps ws hw.1 p0 h_p0) (cwV 0 hts (gV tw_1445 tw_1447 ts_68 tw_15 tw_1448) rfl rfl rfl (by decide +kernel) ⟨Nat.le_of_ble_eq_true rfl, Nat.le_of_ble_eq_true rfl⟩) (tg_preV hw hK hSD hA (ci := 10) (q := (RX10, TX10, 49)) rfl h_p0 rfl) rfl rfl hl.1 rfl (lv_room (Nat.le_of_ble_eq_true rfl)) dX10_person_104 ⟨Nat.le_of_ble_eq_true rfl, Nat.le_of_ble_eq_true rfl⟩) hw hA ⟨by decide, by decide⟩ (fun v_3 ws H locs hp_v_3 hw hF9 => ?_)
      have r_v_3 : RI v_3 0 0 := hp_v_3.1
      subst hQ
      exact W.iret (v := v_3) hx hb hr (fun t ht hW => ⟨⟨v_3, ws, rfl, ⟨⟨r_v_3.to (by decide), (fun h0 => trivial), (fun _ => trivial)⟩, hw.1, hw.2.2.2.2.1⟩, by rw [ht]; exact hw.2.1, va_K.moved hW.alike hK, hw.2.2.1⟩, hw.2.2.2.1.F ht⟩) hw.2.2.2.1.2.2 dX10_person_107
    · have e_19 : p2.toInt = 0 ∨ p2.toInt = 1 ∨ p2.toInt = 2 ∨ p2.toInt = 3 ∨ p2.toInt = 4 := by omega
      rcases e_19 with h_19 | h_19 | h_19 | h_19 | h_19
      · refine lv_tableIn (tgt := 52) (off := 33) hx hb dX10_person_19 (by omega) (by omega) (by rw [h_19]; rfl) (by decide) ?_
        have r_p2 : RI p2 0 0 := ⟨by omega, by omega⟩
        refine lv_aload_n hx hb dX10_person_52 rfl (lv_at hl 0 rfl) ?_
        refine tg_get (ci := 10) (ts := ty_MODEL) (C := RX10) (T := TX10) (N := 49) hx hb hts inX10 hown hK hw h_p0 rfl rfl 14 (by decide) (hts _ tw_1151) (fun _ h9 => h9) (ft := vR 34) rfl dX10_person_53 (fun u_4 hv_u_4 m_u_4 => ?_)
        obtain ⟨vu_4, rfl, h_vu_4⟩ := hv_u_4
        refine lv_bipush (v := 104) hx hb dX10_person_56 (by decide) ?_
        refine lv_iload_n hx hb dX10_person_58 rfl (lv_at hl 1 rfl) ?_
        refine lv_iadd hx hb dX10_person_59 (lv_topi (fun v_5 e_v_5 => ?_))
        obtain ⟨t_v_5, r_v_5⟩ := tq_add (lo := 104) (hi := 111) rl_104 r_p1 (by decide +kernel) e_v_5
        have t_v_5 : v_5.toInt = 104 + p1.toInt := t_v_5
        refine tg_iald (lo := 0) (hi := 5) hx hb hK hw h_vu_4 rfl 104 111 r_v_5 (by decide) (by decide +kernel) dX10_person_60 (fun v_6 r_v_6 m_v_6 o_v_6 => ?_)
        subst hQ
        exact W.iret (v := v_6) hx hb hr (fun t ht hW => ⟨⟨v_6, ws, rfl, ⟨⟨r_v_6.to (by decide), (fun h0 => trivial), (fun h0 => trivial)⟩, hw.1, hw.2.2.2.2.1⟩, by rw [ht]; exact hw.2.1, va_K.moved hW.alike hK, hw.2.2.1⟩, hw.2.2.2.1.F ht⟩) hw.2.2.2.1.2.2 dX10_person_61
      · refine lv_tableIn (tgt := 62) (off := 43) hx hb dX10_person_19 (by omega) (by omega) (by rw [h_19]; rfl) (by decide) ?_
        have r_p2 : RI p2 1 1 := ⟨by omega, by omega⟩
        refine lv_aload_n hx hb dX10_person_62 rfl (lv_at hl 0 rfl) ?_
        refine tg_get (ci := 10) (ts := ty_MODEL) (C := RX10) (T := TX10) (N := 49) hx hb hts inX10 hown hK hw h_p0 rfl rfl 14 (by decide) (hts _ tw_1151) (fun _ h9 => h9) (ft := vR 34) rfl dX10_person_63 (fun u_7 hv_u_7 m_u_7 => ?_)
        obtain ⟨vu_7, rfl, h_vu_7⟩ := hv_u_7
        refine lv_bipush (v := 32) hx hb dX10_person_66 (by decide) ?_
        refine lv_iload_n hx hb dX10_person_68 rfl (lv_at hl 1 rfl) ?_
        refine lv_iadd hx hb dX10_person_69 (lv_topi (fun v_8 e_v_8 => ?_))
        obtain ⟨t_v_8, r_v_8⟩ := tq_add (lo := 32) (hi := 39) rl_32 r_p1 (by decide +kernel) e_v_8
        have t_v_8 : v_8.toInt = 32 + p1.toInt := t_v_8
        refine tg_iald (lo := (-2147483648)) (hi := 2147483647) hx hb hK hw h_vu_7 rfl 32 39 r_v_8 (by decide) (by decide +kernel) dX10_person_70 (fun v_9 r_v_9 m_v_9 o_v_9 => ?_)
        subst hQ
        exact W.iret (v := v_9) hx hb hr (fun t ht hW => ⟨⟨v_9, ws, rfl, ⟨⟨r_v_9.to (by decide), (fun h0 => trivial), (fun h0 => trivial)⟩, hw.1, hw.2.2.2.2.1⟩, by rw [ht]; exact hw.2.1, va_K.moved hW.alike hK, hw.2.2.1⟩, hw.2.2.2.1.F ht⟩) hw.2.2.2.1.2.2 dX10_person_71
      · refine lv_tableIn (tgt := 72) (off := 53) hx hb dX10_person_19 (by omega) (by omega) (by rw [h_19]; rfl) (by decide) ?_
        have r_p2 : RI p2 2 2 := ⟨by omega, by omega⟩
        refine lv_aload_n hx hb dX10_person_72 rfl (lv_at hl 0 rfl) ?_
        refine tg_get (ci := 10) (ts := ty_MODEL) (C := RX10) (T := TX10) (N := 49) hx hb hts inX10 hown hK hw h_p0 rfl rfl 14 (by decide) (hts _ tw_1151) (fun _ h9 => h9) (ft := vR 34) rfl dX10_person_73 (fun u_10 hv_u_10 m_u_10 => ?_)
        obtain ⟨vu_10, rfl, h_vu_10⟩ := hv_u_10
        refine lv_bipush (v := 112) hx hb dX10_person_76 (by decide) ?_
        refine lv_iload_n hx hb dX10_person_78 rfl (lv_at hl 1 rfl) ?_
        refine lv_iadd hx hb dX10_person_79 (lv_topi (fun v_11 e_v_11 => ?_))
        obtain ⟨t_v_11, r_v_11⟩ := tq_add (lo := 112) (hi := 119) rl_112 r_p1 (by decide +kernel) e_v_11
        have t_v_11 : v_11.toInt = 112 + p1.toInt := t_v_11
        refine tg_iald (lo := (-1)) (hi := 5) hx hb hK hw h_vu_10 rfl 112 119 r_v_11 (by decide) (by decide +kernel) dX10_person_80 (fun v_12 r_v_12 m_v_12 o_v_12 => ?_)
        subst hQ
        exact W.iret (v := v_12) hx hb hr (fun t ht hW => ⟨⟨v_12, ws, rfl, ⟨⟨r_v_12.to (by decide), (fun h0 => trivial), (fun h0 => trivial)⟩, hw.1, hw.2.2.2.2.1⟩, by rw [ht]; exact hw.2.1, va_K.moved hW.alike hK, hw.2.2.1⟩, hw.2.2.2.1.F ht⟩) hw.2.2.2.1.2.2 dX10_person_81
      · refine lv_tableIn (tgt := 82) (off := 63) hx hb dX10_person_19 (by omega) (by omega) (by rw [h_19]; rfl) (by decide) ?_
        have r_p2 : RI p2 3 3 := ⟨by omega, by omega⟩
        refine lv_aload_n hx hb dX10_person_82 rfl (lv_at hl 0 rfl) ?_
        refine tg_get (ci := 10) (ts := ty_MODEL) (C := RX10) (T := TX10) (N := 49) hx hb hts inX10 hown hK hw h_p0 rfl rfl 14 (by decide) (hts _ tw_1151) (fun _ h9 => h9) (ft := vR 34) rfl dX10_person_83 (fun u_13 hv_u_13 m_u_13 => ?_)
        obtain ⟨vu_13, rfl, h_vu_13⟩ := hv_u_13
        refine lv_bipush (v := 120) hx hb dX10_person_86 (by decide) ?_
        refine lv_iload_n hx hb dX10_person_88 rfl (lv_at hl 1 rfl) ?_
        refine lv_iadd hx hb dX10_person_89 (lv_topi (fun v_14 e_v_14 => ?_))
        obtain ⟨t_v_14, r_v_14⟩ := tq_add (lo := 120) (hi := 127) rl_120 r_p1 (by decide +kernel) e_v_14
        have t_v_14 : v_14.toInt = 120 + p1.toInt := t_v_14
        refine tg_iald (lo := (-2147483648)) (hi := 2147483647) hx hb hK hw h_vu_13 rfl 120 127 r_v_14 (by decide) (by decide +kernel) dX10_person_90 (fun v_15 r_v_15 m_v_15 o_v_15 => ?_)
        subst hQ
        exact W.iret (v := v_15) hx hb hr (fun t ht hW => ⟨⟨v_15, ws, rfl, ⟨⟨r_v_15.to (by decide), (fun h0 => trivial), (fun h0 => trivial)⟩, hw.1, hw.2.2.2.2.1⟩, by rw [ht]; exact hw.2.1, va_K.moved hW.alike hK, hw.2.2.1⟩, hw.2.2.2.1.F ht⟩) hw.2.2.2.1.2.2 dX10_person_91
      · refine lv_tableIn (tgt := 92) (off := 73) hx hb dX10_person_19 (by omega) (by omega) (by rw [h_19]; rfl) (by decide) ?_
        have r_p2 : RI p2 4 4 := ⟨by omega, by omega⟩
        refine lv_aload_n hx hb dX10_person_92 rfl (lv_at hl 0 rfl) ?_
        refine tg_get (ci := 10) (ts := ty_MODEL) (C := RX10) (T := TX10) (N := 49) hx hb hts inX10 hown hK hw h_p0 rfl rfl 14 (by decide) (hts _ tw_1151) (fun _ h9 => h9) (ft := vR 34) rfl dX10_person_93 (fun u_16 hv_u_16 m_u_16 => ?_)
        obtain ⟨vu_16, rfl, h_vu_16⟩ := hv_u_16
        refine lv_sipush (v := 128) hx hb dX10_person_96 (by decide) ?_
        refine lv_iload_n hx hb dX10_person_99 rfl (lv_at hl 1 rfl) ?_
        refine lv_iadd hx hb dX10_person_100 (lv_topi (fun v_17 e_v_17 => ?_))
        obtain ⟨t_v_17, r_v_17⟩ := tq_add (lo := 128) (hi := 135) rl_128 r_p1 (by decide +kernel) e_v_17
        have t_v_17 : v_17.toInt = 128 + p1.toInt := t_v_17
        refine tg_iald (lo := (-2147483648)) (hi := 2147483647) hx hb hK hw h_vu_16 rfl 128 135 r_v_17 (by decide) (by decide +kernel) dX10_person_101 (fun v_18 r_v_18 m_v_18 o_v_18 => ?_)
        subst hQ
        exact W.iret (v := v_18) hx hb hr (fun t ht hW => ⟨⟨v_18, ws, rfl, ⟨⟨r_v_18.to (by decide), (fun h0 => trivial), (fun h0 => trivial)⟩, hw.1, hw.2.2.2.2.1⟩, by rw [ht]; exact hw.2.1, va_K.moved hW.alike hK, hw.2.2.1⟩, hw.2.2.2.1.F ht⟩) hw.2.2.2.1.2.2 dX10_person_102
  · have r_v_2 : RI v_2 0 0 := rc_eq1 r_v_2 rl_0 (ti_eq c_10) (by decide)
    refine lv_aload_n hx hb dX10_person_13 rfl (lv_at hl 0 rfl) ?_
    refine tk_i (va_runV (As := []) (rest := []) ⟨hx, hb, hml, hown, hts⟩ (c_X10_refuse l D cy z H.size Ps ws hw.1 p0 h_p0) (cwV 0 hts (gV tw_1445 tw_1447 ts_68 tw_15 tw_1448) rfl rfl rfl (by decide +kernel) ⟨Nat.le_of_ble_eq_true rfl, Nat.le_of_ble_eq_true rfl⟩) (tg_preV hw hK hSD hA (ci := 10) (q := (RX10, TX10, 49)) rfl h_p0 rfl) rfl rfl hl.1 rfl (lv_room (Nat.le_of_ble_eq_true rfl)) dX10_person_14 ⟨Nat.le_of_ble_eq_true rfl, Nat.le_of_ble_eq_true rfl⟩) hw hA ⟨by decide, by decide⟩ (fun v_19 ws H locs hp_v_19 hw hF9 => ?_)
    have r_v_19 : RI v_19 0 0 := hp_v_19.1
    subst hQ
    exact W.iret (v := v_19) hx hb hr (fun t ht hW => ⟨⟨v_19, ws, rfl, ⟨⟨r_v_19.to (by decide), (fun h0 => trivial), (fun _ => trivial)⟩, hw.1, hw.2.2.2.2.1⟩, by rw [ht]; exact hw.2.1, va_K.moved hW.alike hK, hw.2.2.1⟩, hw.2.2.2.1.F ht⟩) hw.2.2.2.1.2.2 dX10_person_17
abbrev wr_X10_quarrels : List (Nat × Nat) := [(10, 0)]
abbrev wa_X10_quarrels : List Nat := []
set_option maxHeartbeats 4000000 in
set_option maxRecDepth 100000 in
theorem c_X10_quarrels (l : Launch) (D : va_G) (cy : Nat → ClassId) (z : Nat → Nat) (sz : Nat) (Ps : PSI) (w0 : va_W) (hT : HT cy GG Ps w0) (p0 : Nat) (p1 : Int32) (h_p0 : (p0, 55) ∈ Ps) (r_p1 : RI p1 (-2147483648) 2147483647) : Met l yX10_quarrels (Cond.code yX10_quarrels cX10_quarrels 2 (some .int) :: gT) ({ frames := 3, cells := 0, slots := 0, locals := 600 } : Room) (va_Pc [.ref p0, .int p1] (PRE D cy z w0 sz)) (va_Qi (fun (r : Int32) (u : va_W) => (RI r (-2147483648) 2147483647 ∧ (r = 0 → True) ∧ (¬ r = 0 → True)) ∧ HT cy GG Ps u ∧ FR wr_X10_quarrels wa_X10_quarrels Ps w0 u) (BB D cy (va_A w0 sz) (fun (u : va_W) => u)) (va_A w0 sz)) 0 0 (va_A w0 sz) := by
  refine Met.ofW (cc := cX10_quarrels) (maxL := 2) (ret := (some .int)) (by decide) rfl ?_
  intro p e s m args below meth c s₁ B hml hv
  obtain ⟨rfl, hsz, hP, hK, hD0, hSD⟩ := hv
  have hx := B.exec
  have hb := B.bytes
  have hr := B.returns
  have hlocks := B.notSynchronized
  have hts : ∀ w ∈ gT, w.before _ s = true := fun w h => atoms_spec (ws := Cond.code yX10_quarrels cX10_quarrels 2 (some .int) :: gT) B.pre w (List.mem_cons_of_mem _ h)
  have hown : s.vm.findClass RX10 = some m.cls := findClass_of_methodNamed B.named
  subst hsz
  have hD := hD0.self (sz := s.heap.size)
  generalize hAe : va_A w0 s.heap.size = A at hD hSD ⊢
  have hA : ∀ q : Nat, s.heap.size ≤ q → A q := fun q h => by rw [← hAe]; exact Or.inr h
  have hl := lv_entry ([.ref p0, .int p1]) (n := 2) (Nat.le_of_ble_eq_true rfl)
  rw [lg_entry_eq]
  generalize (lg_sl ([.ref p0, .int p1]) ++ List.replicate (2 - (lg_sl ([.ref p0, .int p1])).length) Slot.unset).toArray = ls at hl ⊢
  have hl : lv_has ls 2 [(0, .ref p0), (1, .int p1)] := hl
  refine nameQ (fun Q hQ => ?_)
  have hw : WD D cy GG A s wr_X10_quarrels wa_X10_quarrels Ps w0 Ps w0 s.heap [] := ⟨hT, hP, hD, va_S.rf, FR.rf, hT.1, [], (List.append_nil _).symm⟩
  refine lv_aload_n hx hb dX10_quarrels_0 rfl (lv_at hl 0 rfl) ?_
  refine lv_iconst (v := 0) hx hb dX10_quarrels_1 (by decide) ?_
  refine tg_put (ci := 10) (ts := ty_MODEL) (v := .int 0) (ty := .int) (C := RX10) (T := TX10) (N := 49) hx hb hts inX10 tyX10 tyX10_ok nmX10 hown hK hw h_p0 rfl rfl 0 (by decide) (hts _ tw_1137) (fun _ h9 => h9) rfl (by decide +kernel) rfl rfl (ft := vI (-2147483648) 2147483647) rfl ⟨_, rfl, (rl_0.to (by decide))⟩ (by decide) dX10_quarrels_2 (fun ws H locs hw n_k_1 hF9 => ?_)
  refine lv_aload_n hx hb dX10_quarrels_5 rfl (lv_at hl 0 rfl) ?_
  refine lv_iload_n hx hb dX10_quarrels_6 rfl (lv_at hl 1 rfl) ?_
  refine tk_ir (va_runV (As := [.int p1]) (rest := []) ⟨hx, hb, hml, hown, hts⟩ (c_X10_isIdea l D cy z H.size Ps ws hw.1 p0 p1 h_p0 r_p1) (cwV 1 hts (gV tw_1433 tw_1435 ts_66 tw_15 tw_1436) rfl rfl rfl (by decide +kernel) ⟨Nat.le_of_ble_eq_true rfl, Nat.le_of_ble_eq_true rfl⟩) (tg_preV hw hK hSD hA (ci := 10) (q := (RX10, TX10, 49)) rfl h_p0 rfl) rfl rfl hl.1 rfl (lv_room (Nat.le_of_ble_eq_true rfl)) dX10_quarrels_7 ⟨Nat.le_of_ble_eq_true rfl, Nat.le_of_ble_eq_true rfl⟩) hw hA (fun v_2  H locs hp_v_2 hw => ?_)
  have r_v_2 : RI v_2 0 1 := hp_v_2.1
  refine lv_if_eq (tgt := 25) hx hb dX10_quarrels_10 (by decide) (fun c_10 => ?_) (fun c_10 => ?_)
  · have r_v_2 : RI v_2 0 0 := rc_eq1 r_v_2 rl_0 (ti_eq c_10) (by decide)
    refine lv_iconst (v := (-1)) hx hb dX10_quarrels_25 (by decide) ?_
    subst hQ
    exact W.iret (v := (-1)) hx hb hr (fun t ht hW => ⟨⟨(-1), ws, rfl, ⟨⟨rl_m1.to (by decide), (fun _ => trivial), (fun h0 => trivial)⟩, hw.1, hw.2.2.2.2.1⟩, by rw [ht]; exact hw.2.1, va_K.moved hW.alike hK, hw.2.2.1⟩, hw.2.2.2.1.F ht⟩) hw.2.2.2.1.2.2 dX10_quarrels_26
  · have r_v_2 : RI v_2 1 1 := rc_neL r_v_2 rl_0 (ti_ne c_10) (by decide)
    have r_p1 : RI p1 0 5 := ((hp_v_2.2.2 c_10).1)
    refine lv_aload_n hx hb dX10_quarrels_13 rfl (lv_at hl 0 rfl) ?_
    refine tg_get (ci := 10) (ts := ty_MODEL) (C := RX10) (T := TX10) (N := 49) hx hb hts inX10 hown hK hw h_p0 rfl rfl 14 (by decide) (hts _ tw_1151) (fun _ h9 => h9) (ft := vR 34) rfl dX10_quarrels_14 (fun u_3 hv_u_3 m_u_3 => ?_)
    obtain ⟨vu_3, rfl, h_vu_3⟩ := hv_u_3
    refine lv_bipush (v := 12) hx hb dX10_quarrels_17 (by decide) ?_
    refine lv_iload_n hx hb dX10_quarrels_19 rfl (lv_at hl 1 rfl) ?_
    refine lv_iadd hx hb dX10_quarrels_20 (lv_topi (fun v_4 e_v_4 => ?_))
    obtain ⟨t_v_4, r_v_4⟩ := tq_add (lo := 12) (hi := 17) rl_12 r_p1 (by decide +kernel) e_v_4
    have t_v_4 : v_4.toInt = 12 + p1.toInt := t_v_4
    refine tg_iald (lo := (-2147483648)) (hi := 2147483647) hx hb hK hw h_vu_3 rfl 12 17 r_v_4 (by decide) (by decide +kernel) dX10_quarrels_21 (fun v_5 r_v_5 m_v_5 o_v_5 => ?_)
    refine lv_goto (tgt := 26) hx hb dX10_quarrels_22 (by decide) ?_
    subst hQ
    exact W.iret (v := v_5) hx hb hr (fun t ht hW => ⟨⟨v_5, ws, rfl, ⟨⟨r_v_5.to (by decide), (fun h0 => trivial), (fun h0 => trivial)⟩, hw.1, hw.2.2.2.2.1⟩, by rw [ht]; exact hw.2.1, va_K.moved hW.alike hK, hw.2.2.1⟩, hw.2.2.2.1.F ht⟩) hw.2.2.2.1.2.2 dX10_quarrels_26
abbrev wr_X10_rested : List (Nat × Nat) := [(10, 0)]
abbrev wa_X10_rested : List Nat := []
set_option maxHeartbeats 4000000 in
set_option maxRecDepth 100000 in
theorem c_X10_rested (l : Launch) (D : va_G) (cy : Nat → ClassId) (z : Nat → Nat) (sz : Nat) (Ps : PSI) (w0 : va_W) (hT : HT cy GG Ps w0) (p0 : Nat) (p1 : Int32) (h_p0 : (p0, 55) ∈ Ps) (r_p1 : RI p1 (-2147483648) 2147483647) : Met l yX10_rested (Cond.code yX10_rested cX10_rested 2 (some .int) :: gT) ({ frames := 2, cells := 0, slots := 0, locals := 400 } : Room) (va_Pc [.ref p0, .int p1] (PRE D cy z w0 sz)) (va_Qi (fun (r : Int32) (u : va_W) => (RI r (-2147483648) 2147483647 ∧ (r = 0 → True) ∧ (¬ r = 0 → True)) ∧ HT cy GG Ps u ∧ FR wr_X10_rested wa_X10_rested Ps w0 u) (BB D cy (va_A w0 sz) (fun (u : va_W) => u)) (va_A w0 sz)) 0 0 (va_A w0 sz) := by
  refine Met.ofW (cc := cX10_rested) (maxL := 2) (ret := (some .int)) (by decide) rfl ?_
  intro p e s m args below meth c s₁ B hml hv
  obtain ⟨rfl, hsz, hP, hK, hD0, hSD⟩ := hv
  have hx := B.exec
  have hb := B.bytes
  have hr := B.returns
  have hlocks := B.notSynchronized
  have hts : ∀ w ∈ gT, w.before _ s = true := fun w h => atoms_spec (ws := Cond.code yX10_rested cX10_rested 2 (some .int) :: gT) B.pre w (List.mem_cons_of_mem _ h)
  have hown : s.vm.findClass RX10 = some m.cls := findClass_of_methodNamed B.named
  subst hsz
  have hD := hD0.self (sz := s.heap.size)
  generalize hAe : va_A w0 s.heap.size = A at hD hSD ⊢
  have hA : ∀ q : Nat, s.heap.size ≤ q → A q := fun q h => by rw [← hAe]; exact Or.inr h
  have hl := lv_entry ([.ref p0, .int p1]) (n := 2) (Nat.le_of_ble_eq_true rfl)
  rw [lg_entry_eq]
  generalize (lg_sl ([.ref p0, .int p1]) ++ List.replicate (2 - (lg_sl ([.ref p0, .int p1])).length) Slot.unset).toArray = ls at hl ⊢
  have hl : lv_has ls 2 [(0, .ref p0), (1, .int p1)] := hl
  refine nameQ (fun Q hQ => ?_)
  have hw : WD D cy GG A s wr_X10_rested wa_X10_rested Ps w0 Ps w0 s.heap [] := ⟨hT, hP, hD, va_S.rf, FR.rf, hT.1, [], (List.append_nil _).symm⟩
  refine lv_aload_n hx hb dX10_rested_0 rfl (lv_at hl 0 rfl) ?_
  refine lv_iconst (v := 0) hx hb dX10_rested_1 (by decide) ?_
  refine tg_put (ci := 10) (ts := ty_MODEL) (v := .int 0) (ty := .int) (C := RX10) (T := TX10) (N := 49) hx hb hts inX10 tyX10 tyX10_ok nmX10 hown hK hw h_p0 rfl rfl 0 (by decide) (hts _ tw_1137) (fun _ h9 => h9) rfl (by decide +kernel) rfl rfl (ft := vI (-2147483648) 2147483647) rfl ⟨_, rfl, (rl_0.to (by decide))⟩ (by decide) dX10_rested_2 (fun ws H locs hw n_k_1 hF9 => ?_)
  refine lv_iload_n hx hb dX10_rested_5 rfl (lv_at hl 1 rfl) ?_
  refine lv_iconst (v := 0) hx hb dX10_rested_6 (by decide) ?_
  refine lv_aload_n hx hb dX10_rested_7 rfl (lv_at hl 0 rfl) ?_
  refine tg_get (ci := 10) (ts := ty_MODEL) (C := RX10) (T := TX10) (N := 49) hx hb hts inX10 hown hK hw h_p0 rfl rfl 36 (by decide) (hts _ tw_1173) (fun _ h9 => h9) (ft := vI 0 8) rfl dX10_rested_8 (fun u_2 hv_u_2 m_u_2 => ?_)
  obtain ⟨vu_2, rfl, r_vu_2⟩ := hv_u_2
  refine lv_iconst (v := 1) hx hb dX10_rested_11 (by decide) ?_
  refine lv_isub hx hb dX10_rested_12 (lv_topi (fun v_3 e_v_3 => ?_))
  obtain ⟨t_v_3, r_v_3⟩ := tq_sub (lo := (-1)) (hi := 7) r_vu_2 rl_1 (by decide +kernel) e_v_3
  have t_v_3 : v_3.toInt = vu_2.toInt - 1 := t_v_3
  refine tk_ir (va_runS (As := [.int p1, .int 0, .int v_3]) (rest := []) ⟨hx, hb, hml, hown, hts⟩ (c_X10_isIn__4 l D cy z H.size Ps ws hw.1 p1 0 v_3 r_p1 rl_0 r_v_3) (va_cwS 3 hts (gS tw_1359 tw_1360 tw_15 tw_1361) rfl rfl rfl (by decide +kernel) ⟨Nat.le_of_ble_eq_true rfl, Nat.le_of_ble_eq_true rfl⟩) (tg_preS hw hK hSD hA) rfl rfl hl.1 rfl (lv_room (Nat.le_of_ble_eq_true rfl)) dX10_rested_13 ⟨Nat.le_of_ble_eq_true rfl, Nat.le_of_ble_eq_true rfl⟩) hw hA (fun v_4  H locs hp_v_4 hw => ?_)
  have r_v_4 : RI v_4 0 1 := hp_v_4.1
  refine lv_if_eq (tgt := 28) hx hb dX10_rested_16 (by decide) (fun c_16 => ?_) (fun c_16 => ?_)
  · have r_v_4 : RI v_4 0 0 := rc_eq1 r_v_4 rl_0 (ti_eq c_16) (by decide)
    refine lv_iconst (v := (-1)) hx hb dX10_rested_28 (by decide) ?_
    subst hQ
    exact W.iret (v := (-1)) hx hb hr (fun t ht hW => ⟨⟨(-1), ws, rfl, ⟨⟨rl_m1.to (by decide), (fun _ => trivial), (fun h0 => trivial)⟩, hw.1, hw.2.2.2.2.1⟩, by rw [ht]; exact hw.2.1, va_K.moved hW.alike hK, hw.2.2.1⟩, hw.2.2.2.1.F ht⟩) hw.2.2.2.1.2.2 dX10_rested_29
  · have r_v_4 : RI v_4 1 1 := rc_neL r_v_4 rl_0 (ti_ne c_16) (by decide)
    have r_p1 : RI p1 0 7 := ((hp_v_4.2.2 c_16).1)
    have r_v_3 : RI v_3 0 7 := ((hp_v_4.2.2 c_16).2.1)
    refine lv_aload_n hx hb dX10_rested_19 rfl (lv_at hl 0 rfl) ?_
    refine tg_get (ci := 10) (ts := ty_MODEL) (C := RX10) (T := TX10) (N := 49) hx hb hts inX10 hown hK hw h_p0 rfl rfl 35 (by decide) (hts _ tw_1172) (fun _ h9 => h9) (ft := vR 50) rfl dX10_rested_20 (fun u_5 hv_u_5 m_u_5 => ?_)
    obtain ⟨vu_5, rfl, h_vu_5⟩ := hv_u_5
    refine lv_iload_n hx hb dX10_rested_23 rfl (lv_at hl 1 rfl) ?_
    refine tg_iald (lo := (-2147483648)) (hi := 2147483647) hx hb hK hw h_vu_5 rfl 0 7 r_p1 (by decide) (by exact fun _ _ _ => ⟨Int.le_refl _, Int.le_refl _⟩) dX10_rested_24 (fun v_6 r_v_6 m_v_6 o_v_6 => ?_)
    refine lv_goto (tgt := 29) hx hb dX10_rested_25 (by decide) ?_
    subst hQ
    exact W.iret (v := v_6) hx hb hr (fun t ht hW => ⟨⟨v_6, ws, rfl, ⟨⟨r_v_6.to (by decide), (fun h0 => trivial), (fun h0 => trivial)⟩, hw.1, hw.2.2.2.2.1⟩, by rw [ht]; exact hw.2.1, va_K.moved hW.alike hK, hw.2.2.1⟩, hw.2.2.2.1.F ht⟩) hw.2.2.2.1.2.2 dX10_rested_29
abbrev wr_X10_roomOf : List (Nat × Nat) := [(10, 0)]
abbrev wa_X10_roomOf : List Nat := []
set_option maxHeartbeats 4000000 in
set_option maxRecDepth 100000 in
theorem c_X10_roomOf (l : Launch) (D : va_G) (cy : Nat → ClassId) (z : Nat → Nat) (sz : Nat) (Ps : PSI) (w0 : va_W) (hT : HT cy GG Ps w0) (p0 : Nat) (p1 : Int32) (h_p0 : (p0, 55) ∈ Ps) (r_p1 : RI p1 (-2147483648) 2147483647) : Met l yX10_roomOf (Cond.code yX10_roomOf cX10_roomOf 2 (some .int) :: gT) ({ frames := 2, cells := 0, slots := 0, locals := 400 } : Room) (va_Pc [.ref p0, .int p1] (PRE D cy z w0 sz)) (va_Qi (fun (r : Int32) (u : va_W) => (RI r (-2147483648) 2147483647 ∧ (r = 0 → True) ∧ (¬ r = 0 → True)) ∧ HT cy GG Ps u ∧ FR wr_X10_roomOf wa_X10_roomOf Ps w0 u) (BB D cy (va_A w0 sz) (fun (u : va_W) => u)) (va_A w0 sz)) 0 0 (va_A w0 sz) := by
  refine Met.ofW (cc := cX10_roomOf) (maxL := 2) (ret := (some .int)) (by decide) rfl ?_
  intro p e s m args below meth c s₁ B hml hv
  obtain ⟨rfl, hsz, hP, hK, hD0, hSD⟩ := hv
  have hx := B.exec
  have hb := B.bytes
  have hr := B.returns
  have hlocks := B.notSynchronized
  have hts : ∀ w ∈ gT, w.before _ s = true := fun w h => atoms_spec (ws := Cond.code yX10_roomOf cX10_roomOf 2 (some .int) :: gT) B.pre w (List.mem_cons_of_mem _ h)
  have hown : s.vm.findClass RX10 = some m.cls := findClass_of_methodNamed B.named
  subst hsz
  have hD := hD0.self (sz := s.heap.size)
  generalize hAe : va_A w0 s.heap.size = A at hD hSD ⊢
  have hA : ∀ q : Nat, s.heap.size ≤ q → A q := fun q h => by rw [← hAe]; exact Or.inr h
  have hl := lv_entry ([.ref p0, .int p1]) (n := 2) (Nat.le_of_ble_eq_true rfl)
  rw [lg_entry_eq]
  generalize (lg_sl ([.ref p0, .int p1]) ++ List.replicate (2 - (lg_sl ([.ref p0, .int p1])).length) Slot.unset).toArray = ls at hl ⊢
  have hl : lv_has ls 2 [(0, .ref p0), (1, .int p1)] := hl
  refine nameQ (fun Q hQ => ?_)
  have hw : WD D cy GG A s wr_X10_roomOf wa_X10_roomOf Ps w0 Ps w0 s.heap [] := ⟨hT, hP, hD, va_S.rf, FR.rf, hT.1, [], (List.append_nil _).symm⟩
  refine lv_aload_n hx hb dX10_roomOf_0 rfl (lv_at hl 0 rfl) ?_
  refine lv_iconst (v := 0) hx hb dX10_roomOf_1 (by decide) ?_
  refine tg_put (ci := 10) (ts := ty_MODEL) (v := .int 0) (ty := .int) (C := RX10) (T := TX10) (N := 49) hx hb hts inX10 tyX10 tyX10_ok nmX10 hown hK hw h_p0 rfl rfl 0 (by decide) (hts _ tw_1137) (fun _ h9 => h9) rfl (by decide +kernel) rfl rfl (ft := vI (-2147483648) 2147483647) rfl ⟨_, rfl, (rl_0.to (by decide))⟩ (by decide) dX10_roomOf_2 (fun ws H locs hw n_k_1 hF9 => ?_)
  refine lv_aload_n hx hb dX10_roomOf_5 rfl (lv_at hl 0 rfl) ?_
  refine tg_get (ci := 10) (ts := ty_MODEL) (C := RX10) (T := TX10) (N := 49) hx hb hts inX10 hown hK hw h_p0 rfl rfl 34 (by decide) (hts _ tw_1171) (fun _ h9 => h9) (ft := vI 0 1) rfl dX10_roomOf_6 (fun u_2 hv_u_2 m_u_2 => ?_)
  obtain ⟨vu_2, rfl, r_vu_2⟩ := hv_u_2
  refine lv_if_eq (tgt := 35) hx hb dX10_roomOf_9 (by decide) (fun c_9 => ?_) (fun c_9 => ?_)
  · have r_vu_2 : RI vu_2 0 0 := rc_eq1 r_vu_2 rl_0 (ti_eq c_9) (by decide)
    refine lv_iconst (v := (-1)) hx hb dX10_roomOf_35 (by decide) ?_
    subst hQ
    exact W.iret (v := (-1)) hx hb hr (fun t ht hW => ⟨⟨(-1), ws, rfl, ⟨⟨rl_m1.to (by decide), (fun _ => trivial), (fun h0 => trivial)⟩, hw.1, hw.2.2.2.2.1⟩, by rw [ht]; exact hw.2.1, va_K.moved hW.alike hK, hw.2.2.1⟩, hw.2.2.2.1.F ht⟩) hw.2.2.2.1.2.2 dX10_roomOf_36
  · have r_vu_2 : RI vu_2 1 1 := rc_neL r_vu_2 rl_0 (ti_ne c_9) (by decide)
    refine lv_iload_n hx hb dX10_roomOf_12 rfl (lv_at hl 1 rfl) ?_
    refine lv_iconst (v := 0) hx hb dX10_roomOf_13 (by decide) ?_
    refine lv_aload_n hx hb dX10_roomOf_14 rfl (lv_at hl 0 rfl) ?_
    refine tg_get (ci := 10) (ts := ty_MODEL) (C := RX10) (T := TX10) (N := 49) hx hb hts inX10 hown hK hw h_p0 rfl rfl 33 (by decide) (hts _ tw_1170) (fun _ h9 => h9) (ft := vI 0 6) rfl dX10_roomOf_15 (fun u_3 hv_u_3 m_u_3 => ?_)
    obtain ⟨vu_3, rfl, r_vu_3⟩ := hv_u_3
    refine lv_iconst (v := 1) hx hb dX10_roomOf_18 (by decide) ?_
    refine lv_isub hx hb dX10_roomOf_19 (lv_topi (fun v_4 e_v_4 => ?_))
    obtain ⟨t_v_4, r_v_4⟩ := tq_sub (lo := (-1)) (hi := 5) r_vu_3 rl_1 (by decide +kernel) e_v_4
    have t_v_4 : v_4.toInt = vu_3.toInt - 1 := t_v_4
    refine tk_ir (va_runS (As := [.int p1, .int 0, .int v_4]) (rest := []) ⟨hx, hb, hml, hown, hts⟩ (c_X10_isIn__1 l D cy z H.size Ps ws hw.1 p1 0 v_4 r_p1 rl_0 r_v_4) (va_cwS 3 hts (gS tw_1359 tw_1360 tw_15 tw_1361) rfl rfl rfl (by decide +kernel) ⟨Nat.le_of_ble_eq_true rfl, Nat.le_of_ble_eq_true rfl⟩) (tg_preS hw hK hSD hA) rfl rfl hl.1 rfl (lv_room (Nat.le_of_ble_eq_true rfl)) dX10_roomOf_20 ⟨Nat.le_of_ble_eq_true rfl, Nat.le_of_ble_eq_true rfl⟩) hw hA (fun v_5  H locs hp_v_5 hw => ?_)
    have r_v_5 : RI v_5 0 1 := hp_v_5.1
    refine lv_if_eq (tgt := 35) hx hb dX10_roomOf_23 (by decide) (fun c_23 => ?_) (fun c_23 => ?_)
    · have r_v_5 : RI v_5 0 0 := rc_eq1 r_v_5 rl_0 (ti_eq c_23) (by decide)
      refine lv_iconst (v := (-1)) hx hb dX10_roomOf_35 (by decide) ?_
      subst hQ
      exact W.iret (v := (-1)) hx hb hr (fun t ht hW => ⟨⟨(-1), ws, rfl, ⟨⟨rl_m1.to (by decide), (fun _ => trivial), (fun h0 => trivial)⟩, hw.1, hw.2.2.2.2.1⟩, by rw [ht]; exact hw.2.1, va_K.moved hW.alike hK, hw.2.2.1⟩, hw.2.2.2.1.F ht⟩) hw.2.2.2.1.2.2 dX10_roomOf_36
    · have r_v_5 : RI v_5 1 1 := rc_neL r_v_5 rl_0 (ti_ne c_23) (by decide)
      have r_p1 : RI p1 0 5 := ((hp_v_5.2.2 c_23).1)
      have r_v_4 : RI v_4 0 5 := ((hp_v_5.2.2 c_23).2.1)
      refine lv_aload_n hx hb dX10_roomOf_26 rfl (lv_at hl 0 rfl) ?_
      refine tg_get (ci := 10) (ts := ty_MODEL) (C := RX10) (T := TX10) (N := 49) hx hb hts inX10 hown hK hw h_p0 rfl rfl 32 (by decide) (hts _ tw_1169) (fun _ h9 => h9) (ft := vR 49) rfl dX10_roomOf_27 (fun u_6 hv_u_6 m_u_6 => ?_)
      obtain ⟨vu_6, rfl, h_vu_6⟩ := hv_u_6
      refine lv_iload_n hx hb dX10_roomOf_30 rfl (lv_at hl 1 rfl) ?_
      refine tg_iald (lo := (-2147483648)) (hi := 2147483647) hx hb hK hw h_vu_6 rfl 0 5 r_p1 (by decide) (by exact fun _ _ _ => ⟨Int.le_refl _, Int.le_refl _⟩) dX10_roomOf_31 (fun v_7 r_v_7 m_v_7 o_v_7 => ?_)
      refine lv_goto (tgt := 36) hx hb dX10_roomOf_32 (by decide) ?_
      subst hQ
      exact W.iret (v := v_7) hx hb hr (fun t ht hW => ⟨⟨v_7, ws, rfl, ⟨⟨r_v_7.to (by decide), (fun h0 => trivial), (fun h0 => trivial)⟩, hw.1, hw.2.2.2.2.1⟩, by rw [ht]; exact hw.2.1, va_K.moved hW.alike hK, hw.2.2.1⟩, hw.2.2.2.1.F ht⟩) hw.2.2.2.1.2.2 dX10_roomOf_36
abbrev wr_X10_why__3 : List (Nat × Nat) := []
abbrev wa_X10_why__3 : List Nat := []
set_option maxHeartbeats 4000000 in
set_option maxRecDepth 100000 in
theorem c_X10_why__3 (l : Launch) (D : va_G) (cy : Nat → ClassId) (z : Nat → Nat) (sz : Nat) (Ps : PSI) (w0 : va_W) (hT : HT cy GG Ps w0) (p0 : Nat) (p1 : Int32) (p2 : Int32) (p3 : Int32) (h_p0 : (p0, 55) ∈ Ps) (r_p1 : RI p1 0 0) (r_p2 : RI p2 0 7) (r_p3 : RI p3 0 5) : Met l yX10_why (Cond.code yX10_why cX10_why 4 (some .int) :: gT) ({ frames := 0, cells := 0, slots := 0, locals := 200 } : Room) (va_Pc [.ref p0, .int p1, .int p2, .int p3] (PRE D cy z w0 sz)) (va_Qi (fun (r : Int32) (u : Unit) => RI r 0 1 ∧ (r = 0 → True) ∧ (¬ r = 0 → True)) (BB D cy (va_A w0 sz) (fun (u : Unit) => w0)) (va_A w0 sz)) 0 0 (va_A w0 sz) := by
  refine Met.ofW (cc := cX10_why) (maxL := 4) (ret := (some .int)) (by decide) rfl ?_
  intro p e s m args below meth c s₁ B hml hv
  obtain ⟨rfl, hsz, hP, hK, hD0, hSD⟩ := hv
  have hx := B.exec
  have hb := B.bytes
  have hr := B.returns
  have hlocks := B.notSynchronized
  have hts : ∀ w ∈ gT, w.before _ s = true := fun w h => atoms_spec (ws := Cond.code yX10_why cX10_why 4 (some .int) :: gT) B.pre w (List.mem_cons_of_mem _ h)
  have hown : s.vm.findClass RX10 = some m.cls := findClass_of_methodNamed B.named
  subst hsz
  have hD := hD0.self (sz := s.heap.size)
  generalize hAe : va_A w0 s.heap.size = A at hD hSD ⊢
  have hA : ∀ q : Nat, s.heap.size ≤ q → A q := fun q h => by rw [← hAe]; exact Or.inr h
  have hl := lv_entry ([.ref p0, .int p1, .int p2, .int p3]) (n := 4) (Nat.le_of_ble_eq_true rfl)
  rw [lg_entry_eq]
  generalize (lg_sl ([.ref p0, .int p1, .int p2, .int p3]) ++ List.replicate (4 - (lg_sl ([.ref p0, .int p1, .int p2, .int p3])).length) Slot.unset).toArray = ls at hl ⊢
  have hl : lv_has ls 4 [(0, .ref p0), (1, .int p1), (2, .int p2), (3, .int p3)] := hl
  refine nameQ (fun Q hQ => ?_)
  have hw : WD D cy GG A s wr_X10_why__3 wa_X10_why__3 Ps w0 Ps w0 s.heap [] := ⟨hT, hP, hD, va_S.rf, FR.rf, hT.1, [], (List.append_nil _).symm⟩
  refine lv_iload_n hx hb dX10_why_0 rfl (lv_at hl 1 rfl) ?_
  have w_1 := r_p1
  by_cases cl_1 : p1.toInt < 0 ∨ 4 < p1.toInt
  · refine lv_tableOut (tgt := 146) hx hb dX10_why_1 cl_1 (by decide) ?_
    exact absurd cl_1 (by unfold RI at w_1; omega)
  · have e_1 : p1.toInt = 0 ∨ p1.toInt = 1 ∨ p1.toInt = 2 ∨ p1.toInt = 3 ∨ p1.toInt = 4 := by omega
    rcases e_1 with h_1 | h_1 | h_1 | h_1 | h_1
    · refine lv_tableIn (tgt := 36) (off := 35) hx hb dX10_why_1 (by omega) (by omega) (by rw [h_1]; rfl) (by decide) ?_
      have r_p1 : RI p1 0 0 := ⟨by omega, by omega⟩
      refine lv_aload_n hx hb dX10_why_36 rfl (lv_at hl 0 rfl) ?_
      refine tg_get (ci := 10) (ts := ty_MODEL) (C := RX10) (T := TX10) (N := 49) hx hb hts inX10 hown hK hw h_p0 rfl rfl 14 (by decide) (hts _ tw_1151) (fun _ h9 => h9) (ft := vR 34) rfl dX10_why_37 (fun u_1 hv_u_1 m_u_1 => ?_)
      obtain ⟨vu_1, rfl, h_vu_1⟩ := hv_u_1
      refine lv_bipush (v := 112) hx hb dX10_why_40 (by decide) ?_
      refine lv_iload_n hx hb dX10_why_42 rfl (lv_at hl 2 rfl) ?_
      refine lv_iadd hx hb dX10_why_43 (lv_topi (fun v_2 e_v_2 => ?_))
      obtain ⟨t_v_2, r_v_2⟩ := tq_add (lo := 112) (hi := 119) rl_112 r_p2 (by decide +kernel) e_v_2
      have t_v_2 : v_2.toInt = 112 + p2.toInt := t_v_2
      refine tg_iald (lo := (-1)) (hi := 5) hx hb hK hw h_vu_1 rfl 112 119 r_v_2 (by decide) (by decide +kernel) dX10_why_44 (fun v_3 r_v_3 m_v_3 o_v_3 => ?_)
      refine lv_iload_n hx hb dX10_why_45 rfl (lv_at hl 3 rfl) ?_
      refine lv_icmp_ne (tgt := 53) hx hb dX10_why_46 (by decide) (fun c_46 => ?_) (fun c_46 => ?_)
      · refine lv_iconst (v := 0) hx hb dX10_why_53 (by decide) ?_
        subst hQ
        exact W.iret (v := 0) hx hb hr (fun t ht hW => ⟨⟨0, (), rfl, ⟨rl_0.to (by decide), (fun h0 => trivial), (fun _ => trivial)⟩, by rw [ht]; exact hw.2.1, va_K.moved hW.alike hK, hw.2.2.1⟩, hw.2.2.2.1.F ht⟩) hw.2.2.2.1.2.2 dX10_why_54
      · have r_v_3 : RI v_3 0 5 := rc_eq1 r_v_3 r_p3 (ti_eq c_46) (by decide)
        refine lv_iconst (v := 1) hx hb dX10_why_49 (by decide) ?_
        refine lv_goto (tgt := 54) hx hb dX10_why_50 (by decide) ?_
        subst hQ
        exact W.iret (v := 1) hx hb hr (fun t ht hW => ⟨⟨1, (), rfl, ⟨rl_1.to (by decide), (fun _ => trivial), (fun h0 => trivial)⟩, by rw [ht]; exact hw.2.1, va_K.moved hW.alike hK, hw.2.2.1⟩, hw.2.2.2.1.F ht⟩) hw.2.2.2.1.2.2 dX10_why_54
    · exact absurd h_1 (by unfold RI at w_1; omega)
    · exact absurd h_1 (by unfold RI at w_1; omega)
    · exact absurd h_1 (by unfold RI at w_1; omega)
    · exact absurd h_1 (by unfold RI at w_1; omega)
abbrev wr_X10_live__3 : List (Nat × Nat) := []
abbrev wa_X10_live__3 : List Nat := [34]
set_option maxHeartbeats 4000000 in
set_option maxRecDepth 100000 in
theorem c_X10_live__3 (l : Launch) (D : va_G) (cy : Nat → ClassId) (z : Nat → Nat) (sz : Nat) (Ps : PSI) (w0 : va_W) (hT : HT cy GG Ps w0) (p0 : Nat) (p1 : Int32) (p2 : Int32) (p3 : Int32) (h_p0 : (p0, 55) ∈ Ps) (r_p1 : RI p1 0 0) (r_p2 : RI p2 0 7) (r_p3 : RI p3 0 5) : Met l yX10_live (Cond.code yX10_live cX10_live 4 none :: gT) ({ frames := 0, cells := 0, slots := 0, locals := 200 } : Room) (va_Pc [.ref p0, .int p1, .int p2, .int p3] (PRE D cy z w0 sz)) (va_Qv (fun (u : va_W) => (True) ∧ HT cy GG Ps u ∧ FR wr_X10_live__3 wa_X10_live__3 Ps w0 u) (BB D cy (va_A w0 sz) (fun (u : va_W) => u)) (va_A w0 sz)) 0 0 (va_A w0 sz) := by
  refine Met.ofW (cc := cX10_live) (maxL := 4) (ret := none) (by decide) rfl ?_
  intro p e s m args below meth c s₁ B hml hv
  obtain ⟨rfl, hsz, hP, hK, hD0, hSD⟩ := hv
  have hx := B.exec
  have hb := B.bytes
  have hr := B.returns
  have hlocks := B.notSynchronized
  have hts : ∀ w ∈ gT, w.before _ s = true := fun w h => atoms_spec (ws := Cond.code yX10_live cX10_live 4 none :: gT) B.pre w (List.mem_cons_of_mem _ h)
  have hown : s.vm.findClass RX10 = some m.cls := findClass_of_methodNamed B.named
  subst hsz
  have hD := hD0.self (sz := s.heap.size)
  generalize hAe : va_A w0 s.heap.size = A at hD hSD ⊢
  have hA : ∀ q : Nat, s.heap.size ≤ q → A q := fun q h => by rw [← hAe]; exact Or.inr h
  have hl := lv_entry ([.ref p0, .int p1, .int p2, .int p3]) (n := 4) (Nat.le_of_ble_eq_true rfl)
  rw [lg_entry_eq]
  generalize (lg_sl ([.ref p0, .int p1, .int p2, .int p3]) ++ List.replicate (4 - (lg_sl ([.ref p0, .int p1, .int p2, .int p3])).length) Slot.unset).toArray = ls at hl ⊢
  have hl : lv_has ls 4 [(0, .ref p0), (1, .int p1), (2, .int p2), (3, .int p3)] := hl
  refine nameQ (fun Q hQ => ?_)
  have hw : WD D cy GG A s wr_X10_live__3 wa_X10_live__3 Ps w0 Ps w0 s.heap [] := ⟨hT, hP, hD, va_S.rf, FR.rf, hT.1, [], (List.append_nil _).symm⟩
  refine lv_iload_n hx hb dX10_live_0 rfl (lv_at hl 1 rfl) ?_
  have w_1 := r_p1
  by_cases cl_1 : p1.toInt < 0 ∨ 4 < p1.toInt
  · refine lv_tableOut (tgt := 90) hx hb dX10_live_1 cl_1 (by decide) ?_
    exact absurd cl_1 (by unfold RI at w_1; omega)
  · have e_1 : p1.toInt = 0 ∨ p1.toInt = 1 ∨ p1.toInt = 2 ∨ p1.toInt = 3 ∨ p1.toInt = 4 := by omega
    rcases e_1 with h_1 | h_1 | h_1 | h_1 | h_1
    · refine lv_tableIn (tgt := 36) (off := 35) hx hb dX10_live_1 (by omega) (by omega) (by rw [h_1]; rfl) (by decide) ?_
      have r_p1 : RI p1 0 0 := ⟨by omega, by omega⟩
      refine lv_aload_n hx hb dX10_live_36 rfl (lv_at hl 0 rfl) ?_
      refine tg_get (ci := 10) (ts := ty_MODEL) (C := RX10) (T := TX10) (N := 49) hx hb hts inX10 hown hK hw h_p0 rfl rfl 14 (by decide) (hts _ tw_1151) (fun _ h9 => h9) (ft := vR 34) rfl dX10_live_37 (fun u_1 hv_u_1 m_u_1 => ?_)
      obtain ⟨vu_1, rfl, h_vu_1⟩ := hv_u_1
      refine lv_bipush (v := 112) hx hb dX10_live_40 (by decide) ?_
      refine lv_iload_n hx hb dX10_live_42 rfl (lv_at hl 2 rfl) ?_
      refine lv_iadd hx hb dX10_live_43 (lv_topi (fun v_2 e_v_2 => ?_))
      obtain ⟨t_v_2, r_v_2⟩ := tq_add (lo := 112) (hi := 119) rl_112 r_p2 (by decide +kernel) e_v_2
      have t_v_2 : v_2.toInt = 112 + p2.toInt := t_v_2
      refine lv_iload_n hx hb dX10_live_44 rfl (lv_at hl 3 rfl) ?_
      refine tg_iast hx hb hK hw h_vu_1 rfl 112 119 r_v_2 (by decide) r_p3 (by decide +kernel) (RN_upd (by decide) (by decide)) (by decide) dX10_live_45 (fun ws H locs hw hF9 hU9 => ?_)
      subst hQ
      exact W.vret hx hb hr (fun t ht hW => ⟨⟨ws, rfl, ⟨trivial, hw.1, hw.2.2.2.2.1⟩, by rw [ht]; exact hw.2.1, va_K.moved hW.alike hK, hw.2.2.1⟩, hw.2.2.2.1.F ht⟩) hw.2.2.2.1.2.2 dX10_live_46
    · exact absurd h_1 (by unfold RI at w_1; omega)
    · exact absurd h_1 (by unfold RI at w_1; omega)
    · exact absurd h_1 (by unfold RI at w_1; omega)
    · exact absurd h_1 (by unfold RI at w_1; omega)
abbrev wr_X10_act__3 : List (Nat × Nat) := [(10, 25)]
abbrev wa_X10_act__3 : List Nat := [34, 37]
set_option maxHeartbeats 4000000 in
set_option maxRecDepth 100000 in
theorem c_X10_act__3 (l : Launch) (D : va_G) (cy : Nat → ClassId) (z : Nat → Nat) (sz : Nat) (Ps : PSI) (w0 : va_W) (hT : HT cy GG Ps w0) (p0 : Nat) (p1 : Int32) (p2 : Int32) (p3 : Int32) (h_p0 : (p0, 55) ∈ Ps) (r_p1 : RI p1 0 0) (r_p2 : RI p2 0 7) (r_p3 : RI p3 0 5) : Met l yX10_act (Cond.code yX10_act cX10_act 5 (some .int) :: gT) ({ frames := 2, cells := 0, slots := 0, locals := 400 } : Room) (va_Pc [.ref p0, .int p1, .int p2, .int p3] (PRE D cy z w0 sz)) (va_Qi (fun (r : Int32) (u : va_W) => (RI r 0 1 ∧ (r = 0 → (∃ v9 : Int32, FLD u p0 10 25 (.int v9) ∧ RI v9 1 8) ∧ True) ∧ (¬ r = 0 → True)) ∧ HT cy GG Ps u ∧ FR wr_X10_act__3 wa_X10_act__3 Ps w0 u) (BB D cy (va_A w0 sz) (fun (u : va_W) => u)) (va_A w0 sz)) 0 0 (va_A w0 sz) := by
  refine Met.ofW (cc := cX10_act) (maxL := 5) (ret := (some .int)) (by decide) rfl ?_
  intro p e s m args below meth c s₁ B hml hv
  obtain ⟨rfl, hsz, hP, hK, hD0, hSD⟩ := hv
  have hx := B.exec
  have hb := B.bytes
  have hr := B.returns
  have hlocks := B.notSynchronized
  have hts : ∀ w ∈ gT, w.before _ s = true := fun w h => atoms_spec (ws := Cond.code yX10_act cX10_act 5 (some .int) :: gT) B.pre w (List.mem_cons_of_mem _ h)
  have hown : s.vm.findClass RX10 = some m.cls := findClass_of_methodNamed B.named
  subst hsz
  have hD := hD0.self (sz := s.heap.size)
  generalize hAe : va_A w0 s.heap.size = A at hD hSD ⊢
  have hA : ∀ q : Nat, s.heap.size ≤ q → A q := fun q h => by rw [← hAe]; exact Or.inr h
  have hl := lv_entry ([.ref p0, .int p1, .int p2, .int p3]) (n := 5) (Nat.le_of_ble_eq_true rfl)
  rw [lg_entry_eq]
  generalize (lg_sl ([.ref p0, .int p1, .int p2, .int p3]) ++ List.replicate (5 - (lg_sl ([.ref p0, .int p1, .int p2, .int p3])).length) Slot.unset).toArray = ls at hl ⊢
  have hl : lv_has ls 5 [(0, .ref p0), (1, .int p1), (2, .int p2), (3, .int p3)] := hl
  refine nameQ (fun Q hQ => ?_)
  have hw : WD D cy GG A s wr_X10_act__3 wa_X10_act__3 Ps w0 Ps w0 s.heap [] := ⟨hT, hP, hD, va_S.rf, FR.rf, hT.1, [], (List.append_nil _).symm⟩
  refine lv_aload_n hx hb dX10_act_0 rfl (lv_at hl 0 rfl) ?_
  refine lv_iload_n hx hb dX10_act_1 rfl (lv_at hl 1 rfl) ?_
  refine lv_iload_n hx hb dX10_act_2 rfl (lv_at hl 2 rfl) ?_
  refine lv_iload_n hx hb dX10_act_3 rfl (lv_at hl 3 rfl) ?_
  refine tk_ir (va_runV (As := [.int p1, .int p2, .int p3]) (rest := []) ⟨hx, hb, hml, hown, hts⟩ (c_X10_why__3 l D cy z s.heap.size Ps w0 hw.1 p0 p1 p2 p3 h_p0 r_p1 r_p2 r_p3) (cwV 3 hts (gV tw_1501 tw_1503 ts_77 tw_15 tw_1504) rfl rfl rfl (by decide +kernel) ⟨Nat.le_of_ble_eq_true rfl, Nat.le_of_ble_eq_true rfl⟩) (tg_preV hw hK hSD hA (ci := 10) (q := (RX10, TX10, 49)) rfl h_p0 rfl) rfl rfl hl.1 rfl (lv_room (Nat.le_of_ble_eq_true rfl)) dX10_act_4 ⟨Nat.le_of_ble_eq_true rfl, Nat.le_of_ble_eq_true rfl⟩) hw hA (fun v_1  H locs hp_v_1 hw => ?_)
  have r_v_1 : RI v_1 0 1 := hp_v_1.1
  refine lv_istore (lv' := [(4, .int v_1), (0, .ref p0), (1, .int p1), (2, .int p2), (3, .int p3)]) hx hb dX10_act_7 hl (by decide) rfl (fun ls hl => ?_)
  refine lv_iload hx hb dX10_act_9 (lv_at hl 0 rfl) ?_
  refine lv_if_eq (tgt := 17) hx hb dX10_act_11 (by decide) (fun c_11 => ?_) (fun c_11 => ?_)
  · have r_v_1 : RI v_1 0 0 := rc_eq1 r_v_1 rl_0 (ti_eq c_11) (by decide)
    refine lv_aload_n hx hb dX10_act_17 rfl (lv_at hl 1 rfl) ?_
    refine tk_v (va_runV (As := []) (rest := []) ⟨hx, hb, hml, hown, hts⟩ (c_X10_snap l D cy z H.size Ps w0 hw.1 p0 h_p0) (cwV 0 hts (gV tw_1505 tw_1507 ts_78 tw_15 tw_1508) rfl rfl rfl (by decide +kernel) ⟨Nat.le_of_ble_eq_true rfl, Nat.le_of_ble_eq_true rfl⟩) (tg_preV hw hK hSD hA (ci := 10) (q := (RX10, TX10, 49)) rfl h_p0 rfl) rfl rfl hl.1 rfl (lv_room (Nat.le_of_ble_eq_true rfl)) dX10_act_18 ⟨Nat.le_of_ble_eq_true rfl, Nat.le_of_ble_eq_true rfl⟩) hw hA ⟨by decide, by decide⟩ (fun ws H locs hp_v_2 hw hF9 => ?_)
    obtain ⟨v_3, m_v_3, r_v_3⟩ := (hp_v_2.1)
    refine lv_aload_n hx hb dX10_act_21 rfl (lv_at hl 1 rfl) ?_
    refine lv_iload_n hx hb dX10_act_22 rfl (lv_at hl 2 rfl) ?_
    refine lv_iload_n hx hb dX10_act_23 rfl (lv_at hl 3 rfl) ?_
    refine lv_iload_n hx hb dX10_act_24 rfl (lv_at hl 4 rfl) ?_
    refine tk_v (va_runV (As := [.int p1, .int p2, .int p3]) (rest := []) ⟨hx, hb, hml, hown, hts⟩ (c_X10_live__3 l D cy z H.size Ps ws hw.1 p0 p1 p2 p3 h_p0 r_p1 r_p2 r_p3) (cwV 3 hts (gV tw_1509 tw_1511 ts_79 tw_15 tw_1512) rfl rfl rfl (by decide +kernel) ⟨Nat.le_of_ble_eq_true rfl, Nat.le_of_ble_eq_true rfl⟩) (tg_preV hw hK hSD hA (ci := 10) (q := (RX10, TX10, 49)) rfl h_p0 rfl) rfl rfl hl.1 rfl (lv_room (Nat.le_of_ble_eq_true rfl)) dX10_act_25 ⟨Nat.le_of_ble_eq_true rfl, Nat.le_of_ble_eq_true rfl⟩) hw hA ⟨by decide, by decide⟩ (fun ws H locs hp_v_4 hw hF9 => ?_)
    have m_v_3 := FLD.over hF9 m_v_3 (by decide)
    refine lv_iconst (v := 0) hx hb dX10_act_28 (by decide) ?_
    subst hQ
    exact W.iret (v := 0) hx hb hr (fun t ht hW => ⟨⟨0, ws, rfl, ⟨⟨rl_0.to (by decide), (fun h0 => ⟨⟨_, m_v_3, r_v_3⟩, trivial⟩), (fun _ => trivial)⟩, hw.1, hw.2.2.2.2.1⟩, by rw [ht]; exact hw.2.1, va_K.moved hW.alike hK, hw.2.2.1⟩, hw.2.2.2.1.F ht⟩) hw.2.2.2.1.2.2 dX10_act_29
  · have r_v_1 : RI v_1 1 1 := rc_neL r_v_1 rl_0 (ti_ne c_11) (by decide)
    refine lv_iload hx hb dX10_act_14 (lv_at hl 0 rfl) ?_
    subst hQ
    exact W.iret (v := v_1) hx hb hr (fun t ht hW => ⟨⟨v_1, w0, rfl, ⟨⟨r_v_1.to (by decide), (fun h0 => absurd (ti_eq h0) (by have h8 := r_v_1; unfold RI at h8; rw [Int32.toInt_zero]; omega)), (fun h0 => trivial)⟩, hw.1, hw.2.2.2.2.1⟩, by rw [ht]; exact hw.2.1, va_K.moved hW.alike hK, hw.2.2.1⟩, hw.2.2.2.1.F ht⟩) hw.2.2.2.1.2.2 dX10_act_16
abbrev wr_X10_sit : List (Nat × Nat) := [(10, 0), (10, 25)]
abbrev wa_X10_sit : List Nat := [34, 37]
set_option maxHeartbeats 4000000 in
set_option maxRecDepth 100000 in
theorem c_X10_sit (l : Launch) (D : va_G) (cy : Nat → ClassId) (z : Nat → Nat) (sz : Nat) (Ps : PSI) (w0 : va_W) (hT : HT cy GG Ps w0) (p0 : Nat) (p1 : Int32) (p2 : Int32) (h_p0 : (p0, 55) ∈ Ps) (r_p1 : RI p1 (-2147483648) 2147483647) (r_p2 : RI p2 (-2147483648) 2147483647) : Met l yX10_sit (Cond.code yX10_sit cX10_sit 3 (some .int) :: gT) ({ frames := 3, cells := 0, slots := 0, locals := 600 } : Room) (va_Pc [.ref p0, .int p1, .int p2] (PRE D cy z w0 sz)) (va_Qi (fun (r : Int32) (u : va_W) => (RI r (-1) 1 ∧ (r = 0 → True) ∧ (¬ r = 0 → True)) ∧ HT cy GG Ps u ∧ FR wr_X10_sit wa_X10_sit Ps w0 u) (BB D cy (va_A w0 sz) (fun (u : va_W) => u)) (va_A w0 sz)) 0 0 (va_A w0 sz) := by
  refine Met.ofW (cc := cX10_sit) (maxL := 3) (ret := (some .int)) (by decide) rfl ?_
  intro p e s m args below meth c s₁ B hml hv
  obtain ⟨rfl, hsz, hP, hK, hD0, hSD⟩ := hv
  have hx := B.exec
  have hb := B.bytes
  have hr := B.returns
  have hlocks := B.notSynchronized
  have hts : ∀ w ∈ gT, w.before _ s = true := fun w h => atoms_spec (ws := Cond.code yX10_sit cX10_sit 3 (some .int) :: gT) B.pre w (List.mem_cons_of_mem _ h)
  have hown : s.vm.findClass RX10 = some m.cls := findClass_of_methodNamed B.named
  subst hsz
  have hD := hD0.self (sz := s.heap.size)
  generalize hAe : va_A w0 s.heap.size = A at hD hSD ⊢
  have hA : ∀ q : Nat, s.heap.size ≤ q → A q := fun q h => by rw [← hAe]; exact Or.inr h
  have hl := lv_entry ([.ref p0, .int p1, .int p2]) (n := 3) (Nat.le_of_ble_eq_true rfl)
  rw [lg_entry_eq]
  generalize (lg_sl ([.ref p0, .int p1, .int p2]) ++ List.replicate (3 - (lg_sl ([.ref p0, .int p1, .int p2])).length) Slot.unset).toArray = ls at hl ⊢
  have hl : lv_has ls 3 [(0, .ref p0), (1, .int p1), (2, .int p2)] := hl
  refine nameQ (fun Q hQ => ?_)
  have hw : WD D cy GG A s wr_X10_sit wa_X10_sit Ps w0 Ps w0 s.heap [] := ⟨hT, hP, hD, va_S.rf, FR.rf, hT.1, [], (List.append_nil _).symm⟩
  refine lv_aload_n hx hb dX10_sit_0 rfl (lv_at hl 0 rfl) ?_
  refine lv_iconst (v := 0) hx hb dX10_sit_1 (by decide) ?_
  refine tg_put (ci := 10) (ts := ty_MODEL) (v := .int 0) (ty := .int) (C := RX10) (T := TX10) (N := 49) hx hb hts inX10 tyX10 tyX10_ok nmX10 hown hK hw h_p0 rfl rfl 0 (by decide) (hts _ tw_1137) (fun _ h9 => h9) rfl (by decide +kernel) rfl rfl (ft := vI (-2147483648) 2147483647) rfl ⟨_, rfl, (rl_0.to (by decide))⟩ (by decide) dX10_sit_2 (fun ws H locs hw n_k_1 hF9 => ?_)
  refine lv_aload_n hx hb dX10_sit_5 rfl (lv_at hl 0 rfl) ?_
  refine lv_iload_n hx hb dX10_sit_6 rfl (lv_at hl 1 rfl) ?_
  refine tk_ir (va_runV (As := [.int p1]) (rest := []) ⟨hx, hb, hml, hown, hts⟩ (c_X10_isPerson l D cy z H.size Ps ws hw.1 p0 p1 h_p0 r_p1) (cwV 1 hts (gV tw_1469 tw_1471 ts_73 tw_15 tw_1472) rfl rfl rfl (by decide +kernel) ⟨Nat.le_of_ble_eq_true rfl, Nat.le_of_ble_eq_true rfl⟩) (tg_preV hw hK hSD hA (ci := 10) (q := (RX10, TX10, 49)) rfl h_p0 rfl) rfl rfl hl.1 rfl (lv_room (Nat.le_of_ble_eq_true rfl)) dX10_sit_7 ⟨Nat.le_of_ble_eq_true rfl, Nat.le_of_ble_eq_true rfl⟩) hw hA (fun v_2  H locs hp_v_2 hw => ?_)
  have r_v_2 : RI v_2 0 1 := hp_v_2.1
  refine lv_if_eq (tgt := 31) hx hb dX10_sit_10 (by decide) (fun c_10 => ?_) (fun c_10 => ?_)
  · have r_v_2 : RI v_2 0 0 := rc_eq1 r_v_2 rl_0 (ti_eq c_10) (by decide)
    refine lv_iconst (v := (-1)) hx hb dX10_sit_31 (by decide) ?_
    subst hQ
    exact W.iret (v := (-1)) hx hb hr (fun t ht hW => ⟨⟨(-1), ws, rfl, ⟨⟨rl_m1.to (by decide), (fun _ => trivial), (fun h0 => trivial)⟩, hw.1, hw.2.2.2.2.1⟩, by rw [ht]; exact hw.2.1, va_K.moved hW.alike hK, hw.2.2.1⟩, hw.2.2.2.1.F ht⟩) hw.2.2.2.1.2.2 dX10_sit_32
  · have r_v_2 : RI v_2 1 1 := rc_neL r_v_2 rl_0 (ti_ne c_10) (by decide)
    have r_p1 : RI p1 0 7 := ((hp_v_2.2.2 c_10).1)
    refine lv_aload_n hx hb dX10_sit_13 rfl (lv_at hl 0 rfl) ?_
    refine lv_iload_n hx hb dX10_sit_14 rfl (lv_at hl 2 rfl) ?_
    refine tk_ir (va_runV (As := [.int p2]) (rest := []) ⟨hx, hb, hml, hown, hts⟩ (c_X10_isParcel l D cy z H.size Ps ws hw.1 p0 p2 h_p0 r_p2) (cwV 1 hts (gV tw_1429 tw_1431 ts_65 tw_15 tw_1432) rfl rfl rfl (by decide +kernel) ⟨Nat.le_of_ble_eq_true rfl, Nat.le_of_ble_eq_true rfl⟩) (tg_preV hw hK hSD hA (ci := 10) (q := (RX10, TX10, 49)) rfl h_p0 rfl) rfl rfl hl.1 rfl (lv_room (Nat.le_of_ble_eq_true rfl)) dX10_sit_15 ⟨Nat.le_of_ble_eq_true rfl, Nat.le_of_ble_eq_true rfl⟩) hw hA (fun v_3  H locs hp_v_3 hw => ?_)
    have r_v_3 : RI v_3 0 1 := hp_v_3.1
    refine lv_if_eq (tgt := 31) hx hb dX10_sit_18 (by decide) (fun c_18 => ?_) (fun c_18 => ?_)
    · have r_v_3 : RI v_3 0 0 := rc_eq1 r_v_3 rl_0 (ti_eq c_18) (by decide)
      refine lv_iconst (v := (-1)) hx hb dX10_sit_31 (by decide) ?_
      subst hQ
      exact W.iret (v := (-1)) hx hb hr (fun t ht hW => ⟨⟨(-1), ws, rfl, ⟨⟨rl_m1.to (by decide), (fun _ => trivial), (fun h0 => trivial)⟩, hw.1, hw.2.2.2.2.1⟩, by rw [ht]; exact hw.2.1, va_K.moved hW.alike hK, hw.2.2.1⟩, hw.2.2.2.1.F ht⟩) hw.2.2.2.1.2.2 dX10_sit_32
    · have r_v_3 : RI v_3 1 1 := rc_neL r_v_3 rl_0 (ti_ne c_18) (by decide)
      have r_p2 : RI p2 0 5 := ((hp_v_3.2.2 c_18).1)
      refine lv_aload_n hx hb dX10_sit_21 rfl (lv_at hl 0 rfl) ?_
      refine lv_iconst (v := 0) hx hb dX10_sit_22 (by decide) ?_
      refine lv_iload_n hx hb dX10_sit_23 rfl (lv_at hl 1 rfl) ?_
      refine lv_iload_n hx hb dX10_sit_24 rfl (lv_at hl 2 rfl) ?_
      refine tk_i (va_runV (As := [.int 0, .int p1, .int p2]) (rest := []) ⟨hx, hb, hml, hown, hts⟩ (c_X10_act__3 l D cy z H.size Ps ws hw.1 p0 0 p1 p2 h_p0 rl_0 r_p1 r_p2) (cwV 3 hts (gV tw_1497 tw_1499 ts_76 tw_15 tw_1500) rfl rfl rfl (by decide +kernel) ⟨Nat.le_of_ble_eq_true rfl, Nat.le_of_ble_eq_true rfl⟩) (tg_preV hw hK hSD hA (ci := 10) (q := (RX10, TX10, 49)) rfl h_p0 rfl) rfl rfl hl.1 rfl (lv_room (Nat.le_of_ble_eq_true rfl)) dX10_sit_25 ⟨Nat.le_of_ble_eq_true rfl, Nat.le_of_ble_eq_true rfl⟩) hw hA ⟨by decide, by decide⟩ (fun v_4 ws H locs hp_v_4 hw hF9 => ?_)
      have n_k_1 := FLD.over hF9 n_k_1 (by decide)
      have r_v_4 : RI v_4 0 1 := hp_v_4.1
      by_cases c9_v_4 : v_4 = 0
      · have r_v_4 : RI v_4 0 0 := by rw [c9_v_4]; exact rl_0
        obtain ⟨v_5, m_v_5, r_v_5⟩ := ((hp_v_4.2.1 c9_v_4).1)
        refine lv_goto (tgt := 32) hx hb dX10_sit_28 (by decide) ?_
        subst hQ
        exact W.iret (v := v_4) hx hb hr (fun t ht hW => ⟨⟨v_4, ws, rfl, ⟨⟨r_v_4.to (by decide), (fun h0 => trivial), (fun _ => trivial)⟩, hw.1, hw.2.2.2.2.1⟩, by rw [ht]; exact hw.2.1, va_K.moved hW.alike hK, hw.2.2.1⟩, hw.2.2.2.1.F ht⟩) hw.2.2.2.1.2.2 dX10_sit_32
      · have r_v_4 : RI v_4 1 1 := rc_neL r_v_4 rl_0 (ti_ne c9_v_4) (by decide)
        refine lv_goto (tgt := 32) hx hb dX10_sit_28 (by decide) ?_
        subst hQ
        exact W.iret (v := v_4) hx hb hr (fun t ht hW => ⟨⟨v_4, ws, rfl, ⟨⟨r_v_4.to (by decide), (fun _ => trivial), (fun h0 => trivial)⟩, hw.1, hw.2.2.2.2.1⟩, by rw [ht]; exact hw.2.1, va_K.moved hW.alike hK, hw.2.2.1⟩, hw.2.2.2.1.F ht⟩) hw.2.2.2.1.2.2 dX10_sit_32
abbrev wr_X10_sitting : List (Nat × Nat) := [(10, 0)]
abbrev wa_X10_sitting : List Nat := []
set_option maxHeartbeats 4000000 in
set_option maxRecDepth 100000 in
theorem c_X10_sitting (l : Launch) (D : va_G) (cy : Nat → ClassId) (z : Nat → Nat) (sz : Nat) (Ps : PSI) (w0 : va_W) (hT : HT cy GG Ps w0) (p0 : Nat) (h_p0 : (p0, 55) ∈ Ps) : Met l yX10_sitting (Cond.code yX10_sitting cX10_sitting 1 (some .int) :: gT) ({ frames := 0, cells := 0, slots := 0, locals := 200 } : Room) (va_Pc [.ref p0] (PRE D cy z w0 sz)) (va_Qi (fun (r : Int32) (u : va_W) => (RI r (-2147483648) 2147483647 ∧ (r = 0 → True) ∧ (¬ r = 0 → True)) ∧ HT cy GG Ps u ∧ FR wr_X10_sitting wa_X10_sitting Ps w0 u) (BB D cy (va_A w0 sz) (fun (u : va_W) => u)) (va_A w0 sz)) 0 0 (va_A w0 sz) := by
  refine Met.ofW (cc := cX10_sitting) (maxL := 1) (ret := (some .int)) (by decide) rfl ?_
  intro p e s m args below meth c s₁ B hml hv
  obtain ⟨rfl, hsz, hP, hK, hD0, hSD⟩ := hv
  have hx := B.exec
  have hb := B.bytes
  have hr := B.returns
  have hlocks := B.notSynchronized
  have hts : ∀ w ∈ gT, w.before _ s = true := fun w h => atoms_spec (ws := Cond.code yX10_sitting cX10_sitting 1 (some .int) :: gT) B.pre w (List.mem_cons_of_mem _ h)
  have hown : s.vm.findClass RX10 = some m.cls := findClass_of_methodNamed B.named
  subst hsz
  have hD := hD0.self (sz := s.heap.size)
  generalize hAe : va_A w0 s.heap.size = A at hD hSD ⊢
  have hA : ∀ q : Nat, s.heap.size ≤ q → A q := fun q h => by rw [← hAe]; exact Or.inr h
  have hl := lv_entry ([.ref p0]) (n := 1) (Nat.le_of_ble_eq_true rfl)
  rw [lg_entry_eq]
  generalize (lg_sl ([.ref p0]) ++ List.replicate (1 - (lg_sl ([.ref p0])).length) Slot.unset).toArray = ls at hl ⊢
  have hl : lv_has ls 1 [(0, .ref p0)] := hl
  refine nameQ (fun Q hQ => ?_)
  have hw : WD D cy GG A s wr_X10_sitting wa_X10_sitting Ps w0 Ps w0 s.heap [] := ⟨hT, hP, hD, va_S.rf, FR.rf, hT.1, [], (List.append_nil _).symm⟩
  refine lv_aload_n hx hb dX10_sitting_0 rfl (lv_at hl 0 rfl) ?_
  refine lv_iconst (v := 0) hx hb dX10_sitting_1 (by decide) ?_
  refine tg_put (ci := 10) (ts := ty_MODEL) (v := .int 0) (ty := .int) (C := RX10) (T := TX10) (N := 49) hx hb hts inX10 tyX10 tyX10_ok nmX10 hown hK hw h_p0 rfl rfl 0 (by decide) (hts _ tw_1137) (fun _ h9 => h9) rfl (by decide +kernel) rfl rfl (ft := vI (-2147483648) 2147483647) rfl ⟨_, rfl, (rl_0.to (by decide))⟩ (by decide) dX10_sitting_2 (fun ws H locs hw n_k_1 hF9 => ?_)
  refine lv_aload_n hx hb dX10_sitting_5 rfl (lv_at hl 0 rfl) ?_
  refine tg_get (ci := 10) (ts := ty_MODEL) (C := RX10) (T := TX10) (N := 49) hx hb hts inX10 hown hK hw h_p0 rfl rfl 27 (by decide) (hts _ tw_1164) (fun _ h9 => h9) (ft := vI (-2147483648) 2147483647) rfl dX10_sitting_6 (fun u_2 hv_u_2 m_u_2 => ?_)
  obtain ⟨vu_2, rfl, r_vu_2⟩ := hv_u_2
  subst hQ
  exact W.iret (v := vu_2) hx hb hr (fun t ht hW => ⟨⟨vu_2, ws, rfl, ⟨⟨r_vu_2.to (by decide), (fun h0 => trivial), (fun h0 => trivial)⟩, hw.1, hw.2.2.2.2.1⟩, by rw [ht]; exact hw.2.1, va_K.moved hW.alike hK, hw.2.2.1⟩, hw.2.2.2.1.F ht⟩) hw.2.2.2.1.2.2 dX10_sitting_9
abbrev wr_X10_why__4 : List (Nat × Nat) := []
abbrev wa_X10_why__4 : List Nat := []
set_option maxHeartbeats 4000000 in
set_option maxRecDepth 100000 in
theorem c_X10_why__4 (l : Launch) (D : va_G) (cy : Nat → ClassId) (z : Nat → Nat) (sz : Nat) (Ps : PSI) (w0 : va_W) (hT : HT cy GG Ps w0) (p0 : Nat) (p1 : Int32) (p2 : Int32) (p3 : Int32) (h_p0 : (p0, 55) ∈ Ps) (r_p1 : RI p1 1 1) (r_p2 : RI p2 0 7) (r_p3 : RI p3 0 0) : Met l yX10_why (Cond.code yX10_why cX10_why 4 (some .int) :: gT) ({ frames := 0, cells := 0, slots := 0, locals := 200 } : Room) (va_Pc [.ref p0, .int p1, .int p2, .int p3] (PRE D cy z w0 sz)) (va_Qi (fun (r : Int32) (u : Unit) => RI r 0 1 ∧ (r = 0 → True) ∧ (¬ r = 0 → True)) (BB D cy (va_A w0 sz) (fun (u : Unit) => w0)) (va_A w0 sz)) 0 0 (va_A w0 sz) := by
  refine Met.ofW (cc := cX10_why) (maxL := 4) (ret := (some .int)) (by decide) rfl ?_
  intro p e s m args below meth c s₁ B hml hv
  obtain ⟨rfl, hsz, hP, hK, hD0, hSD⟩ := hv
  have hx := B.exec
  have hb := B.bytes
  have hr := B.returns
  have hlocks := B.notSynchronized
  have hts : ∀ w ∈ gT, w.before _ s = true := fun w h => atoms_spec (ws := Cond.code yX10_why cX10_why 4 (some .int) :: gT) B.pre w (List.mem_cons_of_mem _ h)
  have hown : s.vm.findClass RX10 = some m.cls := findClass_of_methodNamed B.named
  subst hsz
  have hD := hD0.self (sz := s.heap.size)
  generalize hAe : va_A w0 s.heap.size = A at hD hSD ⊢
  have hA : ∀ q : Nat, s.heap.size ≤ q → A q := fun q h => by rw [← hAe]; exact Or.inr h
  have hl := lv_entry ([.ref p0, .int p1, .int p2, .int p3]) (n := 4) (Nat.le_of_ble_eq_true rfl)
  rw [lg_entry_eq]
  generalize (lg_sl ([.ref p0, .int p1, .int p2, .int p3]) ++ List.replicate (4 - (lg_sl ([.ref p0, .int p1, .int p2, .int p3])).length) Slot.unset).toArray = ls at hl ⊢
  have hl : lv_has ls 4 [(0, .ref p0), (1, .int p1), (2, .int p2), (3, .int p3)] := hl
  refine nameQ (fun Q hQ => ?_)
  have hw : WD D cy GG A s wr_X10_why__4 wa_X10_why__4 Ps w0 Ps w0 s.heap [] := ⟨hT, hP, hD, va_S.rf, FR.rf, hT.1, [], (List.append_nil _).symm⟩
  refine lv_iload_n hx hb dX10_why_0 rfl (lv_at hl 1 rfl) ?_
  have w_1 := r_p1
  by_cases cl_1 : p1.toInt < 0 ∨ 4 < p1.toInt
  · refine lv_tableOut (tgt := 146) hx hb dX10_why_1 cl_1 (by decide) ?_
    exact absurd cl_1 (by unfold RI at w_1; omega)
  · have e_1 : p1.toInt = 0 ∨ p1.toInt = 1 ∨ p1.toInt = 2 ∨ p1.toInt = 3 ∨ p1.toInt = 4 := by omega
    rcases e_1 with h_1 | h_1 | h_1 | h_1 | h_1
    · exact absurd h_1 (by unfold RI at w_1; omega)
    · refine lv_tableIn (tgt := 55) (off := 54) hx hb dX10_why_1 (by omega) (by omega) (by rw [h_1]; rfl) (by decide) ?_
      have r_p1 : RI p1 1 1 := ⟨by omega, by omega⟩
      refine lv_aload_n hx hb dX10_why_55 rfl (lv_at hl 0 rfl) ?_
      refine tg_get (ci := 10) (ts := ty_MODEL) (C := RX10) (T := TX10) (N := 49) hx hb hts inX10 hown hK hw h_p0 rfl rfl 14 (by decide) (hts _ tw_1151) (fun _ h9 => h9) (ft := vR 34) rfl dX10_why_56 (fun u_1 hv_u_1 m_u_1 => ?_)
      obtain ⟨vu_1, rfl, h_vu_1⟩ := hv_u_1
      refine lv_bipush (v := 112) hx hb dX10_why_59 (by decide) ?_
      refine lv_iload_n hx hb dX10_why_61 rfl (lv_at hl 2 rfl) ?_
      refine lv_iadd hx hb dX10_why_62 (lv_topi (fun v_2 e_v_2 => ?_))
      obtain ⟨t_v_2, r_v_2⟩ := tq_add (lo := 112) (hi := 119) rl_112 r_p2 (by decide +kernel) e_v_2
      have t_v_2 : v_2.toInt = 112 + p2.toInt := t_v_2
      refine tg_iald (lo := (-1)) (hi := 5) hx hb hK hw h_vu_1 rfl 112 119 r_v_2 (by decide) (by decide +kernel) dX10_why_63 (fun v_3 r_v_3 m_v_3 o_v_3 => ?_)
      refine lv_iconst (v := (-1)) hx hb dX10_why_64 (by decide) ?_
      refine lv_icmp_ne (tgt := 72) hx hb dX10_why_65 (by decide) (fun c_65 => ?_) (fun c_65 => ?_)
      · have r_v_3 : RI v_3 0 5 := rc_neL r_v_3 rl_m1 (ti_ne c_65) (by decide)
        refine lv_iconst (v := 0) hx hb dX10_why_72 (by decide) ?_
        subst hQ
        exact W.iret (v := 0) hx hb hr (fun t ht hW => ⟨⟨0, (), rfl, ⟨rl_0.to (by decide), (fun h0 => trivial), (fun _ => trivial)⟩, by rw [ht]; exact hw.2.1, va_K.moved hW.alike hK, hw.2.2.1⟩, hw.2.2.2.1.F ht⟩) hw.2.2.2.1.2.2 dX10_why_73
      · have r_v_3 : RI v_3 (-1) (-1) := rc_eq1 r_v_3 rl_m1 (ti_eq c_65) (by decide)
        refine lv_iconst (v := 1) hx hb dX10_why_68 (by decide) ?_
        refine lv_goto (tgt := 73) hx hb dX10_why_69 (by decide) ?_
        subst hQ
        exact W.iret (v := 1) hx hb hr (fun t ht hW => ⟨⟨1, (), rfl, ⟨rl_1.to (by decide), (fun _ => trivial), (fun h0 => trivial)⟩, by rw [ht]; exact hw.2.1, va_K.moved hW.alike hK, hw.2.2.1⟩, hw.2.2.2.1.F ht⟩) hw.2.2.2.1.2.2 dX10_why_73
    · exact absurd h_1 (by unfold RI at w_1; omega)
    · exact absurd h_1 (by unfold RI at w_1; omega)
    · exact absurd h_1 (by unfold RI at w_1; omega)
abbrev wr_X10_live__4 : List (Nat × Nat) := []
abbrev wa_X10_live__4 : List Nat := [34]
set_option maxHeartbeats 4000000 in
set_option maxRecDepth 100000 in
theorem c_X10_live__4 (l : Launch) (D : va_G) (cy : Nat → ClassId) (z : Nat → Nat) (sz : Nat) (Ps : PSI) (w0 : va_W) (hT : HT cy GG Ps w0) (p0 : Nat) (p1 : Int32) (p2 : Int32) (p3 : Int32) (h_p0 : (p0, 55) ∈ Ps) (r_p1 : RI p1 1 1) (r_p2 : RI p2 0 7) (r_p3 : RI p3 0 0) : Met l yX10_live (Cond.code yX10_live cX10_live 4 none :: gT) ({ frames := 0, cells := 0, slots := 0, locals := 200 } : Room) (va_Pc [.ref p0, .int p1, .int p2, .int p3] (PRE D cy z w0 sz)) (va_Qv (fun (u : va_W) => (True) ∧ HT cy GG Ps u ∧ FR wr_X10_live__4 wa_X10_live__4 Ps w0 u) (BB D cy (va_A w0 sz) (fun (u : va_W) => u)) (va_A w0 sz)) 0 0 (va_A w0 sz) := by
  refine Met.ofW (cc := cX10_live) (maxL := 4) (ret := none) (by decide) rfl ?_
  intro p e s m args below meth c s₁ B hml hv
  obtain ⟨rfl, hsz, hP, hK, hD0, hSD⟩ := hv
  have hx := B.exec
  have hb := B.bytes
  have hr := B.returns
  have hlocks := B.notSynchronized
  have hts : ∀ w ∈ gT, w.before _ s = true := fun w h => atoms_spec (ws := Cond.code yX10_live cX10_live 4 none :: gT) B.pre w (List.mem_cons_of_mem _ h)
  have hown : s.vm.findClass RX10 = some m.cls := findClass_of_methodNamed B.named
  subst hsz
  have hD := hD0.self (sz := s.heap.size)
  generalize hAe : va_A w0 s.heap.size = A at hD hSD ⊢
  have hA : ∀ q : Nat, s.heap.size ≤ q → A q := fun q h => by rw [← hAe]; exact Or.inr h
  have hl := lv_entry ([.ref p0, .int p1, .int p2, .int p3]) (n := 4) (Nat.le_of_ble_eq_true rfl)
  rw [lg_entry_eq]
  generalize (lg_sl ([.ref p0, .int p1, .int p2, .int p3]) ++ List.replicate (4 - (lg_sl ([.ref p0, .int p1, .int p2, .int p3])).length) Slot.unset).toArray = ls at hl ⊢
  have hl : lv_has ls 4 [(0, .ref p0), (1, .int p1), (2, .int p2), (3, .int p3)] := hl
  refine nameQ (fun Q hQ => ?_)
  have hw : WD D cy GG A s wr_X10_live__4 wa_X10_live__4 Ps w0 Ps w0 s.heap [] := ⟨hT, hP, hD, va_S.rf, FR.rf, hT.1, [], (List.append_nil _).symm⟩
  refine lv_iload_n hx hb dX10_live_0 rfl (lv_at hl 1 rfl) ?_
  have w_1 := r_p1
  by_cases cl_1 : p1.toInt < 0 ∨ 4 < p1.toInt
  · refine lv_tableOut (tgt := 90) hx hb dX10_live_1 cl_1 (by decide) ?_
    exact absurd cl_1 (by unfold RI at w_1; omega)
  · have e_1 : p1.toInt = 0 ∨ p1.toInt = 1 ∨ p1.toInt = 2 ∨ p1.toInt = 3 ∨ p1.toInt = 4 := by omega
    rcases e_1 with h_1 | h_1 | h_1 | h_1 | h_1
    · exact absurd h_1 (by unfold RI at w_1; omega)
    · refine lv_tableIn (tgt := 47) (off := 46) hx hb dX10_live_1 (by omega) (by omega) (by rw [h_1]; rfl) (by decide) ?_
      have r_p1 : RI p1 1 1 := ⟨by omega, by omega⟩
      refine lv_aload_n hx hb dX10_live_47 rfl (lv_at hl 0 rfl) ?_
      refine tg_get (ci := 10) (ts := ty_MODEL) (C := RX10) (T := TX10) (N := 49) hx hb hts inX10 hown hK hw h_p0 rfl rfl 14 (by decide) (hts _ tw_1151) (fun _ h9 => h9) (ft := vR 34) rfl dX10_live_48 (fun u_1 hv_u_1 m_u_1 => ?_)
      obtain ⟨vu_1, rfl, h_vu_1⟩ := hv_u_1
      refine lv_bipush (v := 112) hx hb dX10_live_51 (by decide) ?_
      refine lv_iload_n hx hb dX10_live_53 rfl (lv_at hl 2 rfl) ?_
      refine lv_iadd hx hb dX10_live_54 (lv_topi (fun v_2 e_v_2 => ?_))
      obtain ⟨t_v_2, r_v_2⟩ := tq_add (lo := 112) (hi := 119) rl_112 r_p2 (by decide +kernel) e_v_2
      have t_v_2 : v_2.toInt = 112 + p2.toInt := t_v_2
      refine lv_iconst (v := (-1)) hx hb dX10_live_55 (by decide) ?_
      refine tg_iast hx hb hK hw h_vu_1 rfl 112 119 r_v_2 (by decide) rl_m1 (by decide +kernel) (RN_upd (by decide) (by decide)) (by decide) dX10_live_56 (fun ws H locs hw hF9 hU9 => ?_)
      subst hQ
      exact W.vret hx hb hr (fun t ht hW => ⟨⟨ws, rfl, ⟨trivial, hw.1, hw.2.2.2.2.1⟩, by rw [ht]; exact hw.2.1, va_K.moved hW.alike hK, hw.2.2.1⟩, hw.2.2.2.1.F ht⟩) hw.2.2.2.1.2.2 dX10_live_57
    · exact absurd h_1 (by unfold RI at w_1; omega)
    · exact absurd h_1 (by unfold RI at w_1; omega)
    · exact absurd h_1 (by unfold RI at w_1; omega)
abbrev wr_X10_act__4 : List (Nat × Nat) := [(10, 25)]
abbrev wa_X10_act__4 : List Nat := [34, 37]
set_option maxHeartbeats 4000000 in
set_option maxRecDepth 100000 in
theorem c_X10_act__4 (l : Launch) (D : va_G) (cy : Nat → ClassId) (z : Nat → Nat) (sz : Nat) (Ps : PSI) (w0 : va_W) (hT : HT cy GG Ps w0) (p0 : Nat) (p1 : Int32) (p2 : Int32) (p3 : Int32) (h_p0 : (p0, 55) ∈ Ps) (r_p1 : RI p1 1 1) (r_p2 : RI p2 0 7) (r_p3 : RI p3 0 0) : Met l yX10_act (Cond.code yX10_act cX10_act 5 (some .int) :: gT) ({ frames := 2, cells := 0, slots := 0, locals := 400 } : Room) (va_Pc [.ref p0, .int p1, .int p2, .int p3] (PRE D cy z w0 sz)) (va_Qi (fun (r : Int32) (u : va_W) => (RI r 0 1 ∧ (r = 0 → (∃ v9 : Int32, FLD u p0 10 25 (.int v9) ∧ RI v9 1 8) ∧ True) ∧ (¬ r = 0 → True)) ∧ HT cy GG Ps u ∧ FR wr_X10_act__4 wa_X10_act__4 Ps w0 u) (BB D cy (va_A w0 sz) (fun (u : va_W) => u)) (va_A w0 sz)) 0 0 (va_A w0 sz) := by
  refine Met.ofW (cc := cX10_act) (maxL := 5) (ret := (some .int)) (by decide) rfl ?_
  intro p e s m args below meth c s₁ B hml hv
  obtain ⟨rfl, hsz, hP, hK, hD0, hSD⟩ := hv
  have hx := B.exec
  have hb := B.bytes
  have hr := B.returns
  have hlocks := B.notSynchronized
  have hts : ∀ w ∈ gT, w.before _ s = true := fun w h => atoms_spec (ws := Cond.code yX10_act cX10_act 5 (some .int) :: gT) B.pre w (List.mem_cons_of_mem _ h)
  have hown : s.vm.findClass RX10 = some m.cls := findClass_of_methodNamed B.named
  subst hsz
  have hD := hD0.self (sz := s.heap.size)
  generalize hAe : va_A w0 s.heap.size = A at hD hSD ⊢
  have hA : ∀ q : Nat, s.heap.size ≤ q → A q := fun q h => by rw [← hAe]; exact Or.inr h
  have hl := lv_entry ([.ref p0, .int p1, .int p2, .int p3]) (n := 5) (Nat.le_of_ble_eq_true rfl)
  rw [lg_entry_eq]
  generalize (lg_sl ([.ref p0, .int p1, .int p2, .int p3]) ++ List.replicate (5 - (lg_sl ([.ref p0, .int p1, .int p2, .int p3])).length) Slot.unset).toArray = ls at hl ⊢
  have hl : lv_has ls 5 [(0, .ref p0), (1, .int p1), (2, .int p2), (3, .int p3)] := hl
  refine nameQ (fun Q hQ => ?_)
  have hw : WD D cy GG A s wr_X10_act__4 wa_X10_act__4 Ps w0 Ps w0 s.heap [] := ⟨hT, hP, hD, va_S.rf, FR.rf, hT.1, [], (List.append_nil _).symm⟩
  refine lv_aload_n hx hb dX10_act_0 rfl (lv_at hl 0 rfl) ?_
  refine lv_iload_n hx hb dX10_act_1 rfl (lv_at hl 1 rfl) ?_
  refine lv_iload_n hx hb dX10_act_2 rfl (lv_at hl 2 rfl) ?_
  refine lv_iload_n hx hb dX10_act_3 rfl (lv_at hl 3 rfl) ?_
  refine tk_ir (va_runV (As := [.int p1, .int p2, .int p3]) (rest := []) ⟨hx, hb, hml, hown, hts⟩ (c_X10_why__4 l D cy z s.heap.size Ps w0 hw.1 p0 p1 p2 p3 h_p0 r_p1 r_p2 r_p3) (cwV 3 hts (gV tw_1501 tw_1503 ts_77 tw_15 tw_1504) rfl rfl rfl (by decide +kernel) ⟨Nat.le_of_ble_eq_true rfl, Nat.le_of_ble_eq_true rfl⟩) (tg_preV hw hK hSD hA (ci := 10) (q := (RX10, TX10, 49)) rfl h_p0 rfl) rfl rfl hl.1 rfl (lv_room (Nat.le_of_ble_eq_true rfl)) dX10_act_4 ⟨Nat.le_of_ble_eq_true rfl, Nat.le_of_ble_eq_true rfl⟩) hw hA (fun v_1  H locs hp_v_1 hw => ?_)
  have r_v_1 : RI v_1 0 1 := hp_v_1.1
  refine lv_istore (lv' := [(4, .int v_1), (0, .ref p0), (1, .int p1), (2, .int p2), (3, .int p3)]) hx hb dX10_act_7 hl (by decide) rfl (fun ls hl => ?_)
  refine lv_iload hx hb dX10_act_9 (lv_at hl 0 rfl) ?_
  refine lv_if_eq (tgt := 17) hx hb dX10_act_11 (by decide) (fun c_11 => ?_) (fun c_11 => ?_)
  · have r_v_1 : RI v_1 0 0 := rc_eq1 r_v_1 rl_0 (ti_eq c_11) (by decide)
    refine lv_aload_n hx hb dX10_act_17 rfl (lv_at hl 1 rfl) ?_
    refine tk_v (va_runV (As := []) (rest := []) ⟨hx, hb, hml, hown, hts⟩ (c_X10_snap l D cy z H.size Ps w0 hw.1 p0 h_p0) (cwV 0 hts (gV tw_1505 tw_1507 ts_78 tw_15 tw_1508) rfl rfl rfl (by decide +kernel) ⟨Nat.le_of_ble_eq_true rfl, Nat.le_of_ble_eq_true rfl⟩) (tg_preV hw hK hSD hA (ci := 10) (q := (RX10, TX10, 49)) rfl h_p0 rfl) rfl rfl hl.1 rfl (lv_room (Nat.le_of_ble_eq_true rfl)) dX10_act_18 ⟨Nat.le_of_ble_eq_true rfl, Nat.le_of_ble_eq_true rfl⟩) hw hA ⟨by decide, by decide⟩ (fun ws H locs hp_v_2 hw hF9 => ?_)
    obtain ⟨v_3, m_v_3, r_v_3⟩ := (hp_v_2.1)
    refine lv_aload_n hx hb dX10_act_21 rfl (lv_at hl 1 rfl) ?_
    refine lv_iload_n hx hb dX10_act_22 rfl (lv_at hl 2 rfl) ?_
    refine lv_iload_n hx hb dX10_act_23 rfl (lv_at hl 3 rfl) ?_
    refine lv_iload_n hx hb dX10_act_24 rfl (lv_at hl 4 rfl) ?_
    refine tk_v (va_runV (As := [.int p1, .int p2, .int p3]) (rest := []) ⟨hx, hb, hml, hown, hts⟩ (c_X10_live__4 l D cy z H.size Ps ws hw.1 p0 p1 p2 p3 h_p0 r_p1 r_p2 r_p3) (cwV 3 hts (gV tw_1509 tw_1511 ts_79 tw_15 tw_1512) rfl rfl rfl (by decide +kernel) ⟨Nat.le_of_ble_eq_true rfl, Nat.le_of_ble_eq_true rfl⟩) (tg_preV hw hK hSD hA (ci := 10) (q := (RX10, TX10, 49)) rfl h_p0 rfl) rfl rfl hl.1 rfl (lv_room (Nat.le_of_ble_eq_true rfl)) dX10_act_25 ⟨Nat.le_of_ble_eq_true rfl, Nat.le_of_ble_eq_true rfl⟩) hw hA ⟨by decide, by decide⟩ (fun ws H locs hp_v_4 hw hF9 => ?_)
    have m_v_3 := FLD.over hF9 m_v_3 (by decide)
    refine lv_iconst (v := 0) hx hb dX10_act_28 (by decide) ?_
    subst hQ
    exact W.iret (v := 0) hx hb hr (fun t ht hW => ⟨⟨0, ws, rfl, ⟨⟨rl_0.to (by decide), (fun h0 => ⟨⟨_, m_v_3, r_v_3⟩, trivial⟩), (fun _ => trivial)⟩, hw.1, hw.2.2.2.2.1⟩, by rw [ht]; exact hw.2.1, va_K.moved hW.alike hK, hw.2.2.1⟩, hw.2.2.2.1.F ht⟩) hw.2.2.2.1.2.2 dX10_act_29
  · have r_v_1 : RI v_1 1 1 := rc_neL r_v_1 rl_0 (ti_ne c_11) (by decide)
    refine lv_iload hx hb dX10_act_14 (lv_at hl 0 rfl) ?_
    subst hQ
    exact W.iret (v := v_1) hx hb hr (fun t ht hW => ⟨⟨v_1, w0, rfl, ⟨⟨r_v_1.to (by decide), (fun h0 => absurd (ti_eq h0) (by have h8 := r_v_1; unfold RI at h8; rw [Int32.toInt_zero]; omega)), (fun h0 => trivial)⟩, hw.1, hw.2.2.2.2.1⟩, by rw [ht]; exact hw.2.1, va_K.moved hW.alike hK, hw.2.2.1⟩, hw.2.2.2.1.F ht⟩) hw.2.2.2.1.2.2 dX10_act_16
abbrev wr_X10_stand : List (Nat × Nat) := [(10, 0), (10, 25)]
abbrev wa_X10_stand : List Nat := [34, 37]
set_option maxHeartbeats 4000000 in
set_option maxRecDepth 100000 in
theorem c_X10_stand (l : Launch) (D : va_G) (cy : Nat → ClassId) (z : Nat → Nat) (sz : Nat) (Ps : PSI) (w0 : va_W) (hT : HT cy GG Ps w0) (p0 : Nat) (p1 : Int32) (h_p0 : (p0, 55) ∈ Ps) (r_p1 : RI p1 (-2147483648) 2147483647) : Met l yX10_stand (Cond.code yX10_stand cX10_stand 2 (some .int) :: gT) ({ frames := 3, cells := 0, slots := 0, locals := 600 } : Room) (va_Pc [.ref p0, .int p1] (PRE D cy z w0 sz)) (va_Qi (fun (r : Int32) (u : va_W) => (RI r (-1) 1 ∧ (r = 0 → True) ∧ (¬ r = 0 → True)) ∧ HT cy GG Ps u ∧ FR wr_X10_stand wa_X10_stand Ps w0 u) (BB D cy (va_A w0 sz) (fun (u : va_W) => u)) (va_A w0 sz)) 0 0 (va_A w0 sz) := by
  refine Met.ofW (cc := cX10_stand) (maxL := 2) (ret := (some .int)) (by decide) rfl ?_
  intro p e s m args below meth c s₁ B hml hv
  obtain ⟨rfl, hsz, hP, hK, hD0, hSD⟩ := hv
  have hx := B.exec
  have hb := B.bytes
  have hr := B.returns
  have hlocks := B.notSynchronized
  have hts : ∀ w ∈ gT, w.before _ s = true := fun w h => atoms_spec (ws := Cond.code yX10_stand cX10_stand 2 (some .int) :: gT) B.pre w (List.mem_cons_of_mem _ h)
  have hown : s.vm.findClass RX10 = some m.cls := findClass_of_methodNamed B.named
  subst hsz
  have hD := hD0.self (sz := s.heap.size)
  generalize hAe : va_A w0 s.heap.size = A at hD hSD ⊢
  have hA : ∀ q : Nat, s.heap.size ≤ q → A q := fun q h => by rw [← hAe]; exact Or.inr h
  have hl := lv_entry ([.ref p0, .int p1]) (n := 2) (Nat.le_of_ble_eq_true rfl)
  rw [lg_entry_eq]
  generalize (lg_sl ([.ref p0, .int p1]) ++ List.replicate (2 - (lg_sl ([.ref p0, .int p1])).length) Slot.unset).toArray = ls at hl ⊢
  have hl : lv_has ls 2 [(0, .ref p0), (1, .int p1)] := hl
  refine nameQ (fun Q hQ => ?_)
  have hw : WD D cy GG A s wr_X10_stand wa_X10_stand Ps w0 Ps w0 s.heap [] := ⟨hT, hP, hD, va_S.rf, FR.rf, hT.1, [], (List.append_nil _).symm⟩
  refine lv_aload_n hx hb dX10_stand_0 rfl (lv_at hl 0 rfl) ?_
  refine lv_iconst (v := 0) hx hb dX10_stand_1 (by decide) ?_
  refine tg_put (ci := 10) (ts := ty_MODEL) (v := .int 0) (ty := .int) (C := RX10) (T := TX10) (N := 49) hx hb hts inX10 tyX10 tyX10_ok nmX10 hown hK hw h_p0 rfl rfl 0 (by decide) (hts _ tw_1137) (fun _ h9 => h9) rfl (by decide +kernel) rfl rfl (ft := vI (-2147483648) 2147483647) rfl ⟨_, rfl, (rl_0.to (by decide))⟩ (by decide) dX10_stand_2 (fun ws H locs hw n_k_1 hF9 => ?_)
  refine lv_aload_n hx hb dX10_stand_5 rfl (lv_at hl 0 rfl) ?_
  refine lv_iload_n hx hb dX10_stand_6 rfl (lv_at hl 1 rfl) ?_
  refine tk_ir (va_runV (As := [.int p1]) (rest := []) ⟨hx, hb, hml, hown, hts⟩ (c_X10_isPerson l D cy z H.size Ps ws hw.1 p0 p1 h_p0 r_p1) (cwV 1 hts (gV tw_1469 tw_1471 ts_73 tw_15 tw_1472) rfl rfl rfl (by decide +kernel) ⟨Nat.le_of_ble_eq_true rfl, Nat.le_of_ble_eq_true rfl⟩) (tg_preV hw hK hSD hA (ci := 10) (q := (RX10, TX10, 49)) rfl h_p0 rfl) rfl rfl hl.1 rfl (lv_room (Nat.le_of_ble_eq_true rfl)) dX10_stand_7 ⟨Nat.le_of_ble_eq_true rfl, Nat.le_of_ble_eq_true rfl⟩) hw hA (fun v_2  H locs hp_v_2 hw => ?_)
  have r_v_2 : RI v_2 0 1 := hp_v_2.1
  refine lv_if_eq (tgt := 23) hx hb dX10_stand_10 (by decide) (fun c_10 => ?_) (fun c_10 => ?_)
  · have r_v_2 : RI v_2 0 0 := rc_eq1 r_v_2 rl_0 (ti_eq c_10) (by decide)
    refine lv_iconst (v := (-1)) hx hb dX10_stand_23 (by decide) ?_
    subst hQ
    exact W.iret (v := (-1)) hx hb hr (fun t ht hW => ⟨⟨(-1), ws, rfl, ⟨⟨rl_m1.to (by decide), (fun _ => trivial), (fun h0 => trivial)⟩, hw.1, hw.2.2.2.2.1⟩, by rw [ht]; exact hw.2.1, va_K.moved hW.alike hK, hw.2.2.1⟩, hw.2.2.2.1.F ht⟩) hw.2.2.2.1.2.2 dX10_stand_24
  · have r_v_2 : RI v_2 1 1 := rc_neL r_v_2 rl_0 (ti_ne c_10) (by decide)
    have r_p1 : RI p1 0 7 := ((hp_v_2.2.2 c_10).1)
    refine lv_aload_n hx hb dX10_stand_13 rfl (lv_at hl 0 rfl) ?_
    refine lv_iconst (v := 1) hx hb dX10_stand_14 (by decide) ?_
    refine lv_iload_n hx hb dX10_stand_15 rfl (lv_at hl 1 rfl) ?_
    refine lv_iconst (v := 0) hx hb dX10_stand_16 (by decide) ?_
    refine tk_i (va_runV (As := [.int 1, .int p1, .int 0]) (rest := []) ⟨hx, hb, hml, hown, hts⟩ (c_X10_act__4 l D cy z H.size Ps ws hw.1 p0 1 p1 0 h_p0 rl_1 r_p1 rl_0) (cwV 3 hts (gV tw_1497 tw_1499 ts_76 tw_15 tw_1500) rfl rfl rfl (by decide +kernel) ⟨Nat.le_of_ble_eq_true rfl, Nat.le_of_ble_eq_true rfl⟩) (tg_preV hw hK hSD hA (ci := 10) (q := (RX10, TX10, 49)) rfl h_p0 rfl) rfl rfl hl.1 rfl (lv_room (Nat.le_of_ble_eq_true rfl)) dX10_stand_17 ⟨Nat.le_of_ble_eq_true rfl, Nat.le_of_ble_eq_true rfl⟩) hw hA ⟨by decide, by decide⟩ (fun v_3 ws H locs hp_v_3 hw hF9 => ?_)
    have n_k_1 := FLD.over hF9 n_k_1 (by decide)
    have r_v_3 : RI v_3 0 1 := hp_v_3.1
    by_cases c9_v_3 : v_3 = 0
    · have r_v_3 : RI v_3 0 0 := by rw [c9_v_3]; exact rl_0
      obtain ⟨v_4, m_v_4, r_v_4⟩ := ((hp_v_3.2.1 c9_v_3).1)
      refine lv_goto (tgt := 24) hx hb dX10_stand_20 (by decide) ?_
      subst hQ
      exact W.iret (v := v_3) hx hb hr (fun t ht hW => ⟨⟨v_3, ws, rfl, ⟨⟨r_v_3.to (by decide), (fun h0 => trivial), (fun _ => trivial)⟩, hw.1, hw.2.2.2.2.1⟩, by rw [ht]; exact hw.2.1, va_K.moved hW.alike hK, hw.2.2.1⟩, hw.2.2.2.1.F ht⟩) hw.2.2.2.1.2.2 dX10_stand_24
    · have r_v_3 : RI v_3 1 1 := rc_neL r_v_3 rl_0 (ti_ne c9_v_3) (by decide)
      refine lv_goto (tgt := 24) hx hb dX10_stand_20 (by decide) ?_
      subst hQ
      exact W.iret (v := v_3) hx hb hr (fun t ht hW => ⟨⟨v_3, ws, rfl, ⟨⟨r_v_3.to (by decide), (fun _ => trivial), (fun h0 => trivial)⟩, hw.1, hw.2.2.2.2.1⟩, by rw [ht]; exact hw.2.1, va_K.moved hW.alike hK, hw.2.2.1⟩, hw.2.2.2.1.F ht⟩) hw.2.2.2.1.2.2 dX10_stand_24
abbrev wr_X10_startSo : List (Nat × Nat) := []
abbrev wa_X10_startSo : List Nat := [34]
set_option maxHeartbeats 4000000 in
set_option maxRecDepth 100000 in
theorem c_X10_startSo (l : Launch) (D : va_G) (cy : Nat → ClassId) (z : Nat → Nat) (sz : Nat) (Ps : PSI) (w0 : va_W) (hT : HT cy GG Ps w0) (p0 : Nat) (h_p0 : (p0, 55) ∈ Ps) : Met l yX10_startSo (Cond.code yX10_startSo cX10_startSo 2 none :: gT) ({ frames := 0, cells := 0, slots := 0, locals := 200 } : Room) (va_Pc [.ref p0] (PRE D cy z w0 sz)) (va_Qv (fun (u : va_W) => (True) ∧ HT cy GG Ps u ∧ FR wr_X10_startSo wa_X10_startSo Ps w0 u) (BB D cy (va_A w0 sz) (fun (u : va_W) => u)) (va_A w0 sz)) 0 0 (va_A w0 sz) := by
  refine Met.ofW (cc := cX10_startSo) (maxL := 2) (ret := none) (by decide) rfl ?_
  intro p e s m args below meth c s₁ B hml hv
  obtain ⟨rfl, hsz, hP, hK, hD0, hSD⟩ := hv
  have hx := B.exec
  have hb := B.bytes
  have hr := B.returns
  have hlocks := B.notSynchronized
  have hts : ∀ w ∈ gT, w.before _ s = true := fun w h => atoms_spec (ws := Cond.code yX10_startSo cX10_startSo 2 none :: gT) B.pre w (List.mem_cons_of_mem _ h)
  have hown : s.vm.findClass RX10 = some m.cls := findClass_of_methodNamed B.named
  subst hsz
  have hD := hD0.self (sz := s.heap.size)
  generalize hAe : va_A w0 s.heap.size = A at hD hSD ⊢
  have hA : ∀ q : Nat, s.heap.size ≤ q → A q := fun q h => by rw [← hAe]; exact Or.inr h
  have hl := lv_entry ([.ref p0]) (n := 2) (Nat.le_of_ble_eq_true rfl)
  rw [lg_entry_eq]
  generalize (lg_sl ([.ref p0]) ++ List.replicate (2 - (lg_sl ([.ref p0])).length) Slot.unset).toArray = ls at hl ⊢
  have hl : lv_has ls 2 [(0, .ref p0)] := hl
  refine nameQ (fun Q hQ => ?_)
  have hw : WD D cy GG A s wr_X10_startSo wa_X10_startSo Ps w0 Ps w0 s.heap [] := ⟨hT, hP, hD, va_S.rf, FR.rf, hT.1, [], (List.append_nil _).symm⟩
  have B107 : ∀ (nf : Nat) (x1 : Int32) (ws : va_W) (H : Heap) (locs : List Loc) (ls : Array Slot), 36 - x1.toInt < (nf : Int) → RI x1 0 36 → WD D cy GG A s wr_X10_startSo wa_X10_startSo Ps w0 Ps ws H locs → lv_has ls 2 [(0, .ref p0), (1, .int x1)] → W p l e (headSpec (Cond.code yX10_startSo cX10_startSo 2 none :: gT) ({ frames := 0, cells := 0, slots := 0, locals := 200 } : Room)).room s m ([.ref p0] : List Value).toArray below meth c H locs 0 0 Q (F0 m 107 ls []) := by
    intro nf107
    induction nf107 with
    | zero =>
      intro x1 ws H locs ls hn107 r_x1 hw hl
      exact absurd hn107 (by have q0 := r_x1.1; have u0 := r_x1.2; omega)
    | succ nf107 ih107 =>
      intro x1 ws H locs ls hn107 r_x1 hw hl
      refine lv_iload_n hx hb dX10_startSo_107 rfl (lv_at hl 1 rfl) ?_
      refine lv_bipush (v := 36) hx hb dX10_startSo_108 (by decide) ?_
      refine lv_icmp_ge (tgt := 138) hx hb dX10_startSo_110 (by decide) (fun c_110 => ?_) (fun c_110 => ?_)
      · have r_x1 : RI x1 36 36 := rc_le2 rl_36 r_x1 (ti_le c_110) (by decide)
        subst hQ
        exact W.vret hx hb hr (fun t ht hW => ⟨⟨ws, rfl, ⟨trivial, hw.1, hw.2.2.2.2.1⟩, by rw [ht]; exact hw.2.1, va_K.moved hW.alike hK, hw.2.2.1⟩, hw.2.2.2.1.F ht⟩) hw.2.2.2.1.2.2 dX10_startSo_138
      · have r_x1 : RI x1 0 35 := rc_lt1 r_x1 rl_36 (ti_nle c_110) (by decide)
        refine lv_aload_n hx hb dX10_startSo_113 rfl (lv_at hl 0 rfl) ?_
        refine tg_get (ci := 10) (ts := ty_MODEL) (C := RX10) (T := TX10) (N := 49) hx hb hts inX10 hown hK hw h_p0 rfl rfl 14 (by decide) (hts _ tw_1151) (fun _ h9 => h9) (ft := vR 34) rfl dX10_startSo_114 (fun u_1 hv_u_1 m_u_1 => ?_)
        obtain ⟨vu_1, rfl, h_vu_1⟩ := hv_u_1
        refine lv_sipush (v := 136) hx hb dX10_startSo_117 (by decide) ?_
        refine lv_iload_n hx hb dX10_startSo_120 rfl (lv_at hl 1 rfl) ?_
        refine lv_iadd hx hb dX10_startSo_121 (lv_topi (fun v_2 e_v_2 => ?_))
        obtain ⟨t_v_2, r_v_2⟩ := tq_add (lo := 136) (hi := 171) rl_136 r_x1 (by decide +kernel) e_v_2
        have t_v_2 : v_2.toInt = 136 + x1.toInt := t_v_2
        refine lv_aload_n hx hb dX10_startSo_122 rfl (lv_at hl 0 rfl) ?_
        refine tg_mem (ci := 10) (C := RX10) (T := TX10) (N := 49) hx hb hts inX10 hown hK hw 14 m_u_1 rfl (by decide) (hts _ tw_1151) (fun _ h9 => h9) dX10_startSo_123 ?_
        refine lv_bipush (v := 48) hx hb dX10_startSo_126 (by decide) ?_
        refine lv_iload_n hx hb dX10_startSo_128 rfl (lv_at hl 1 rfl) ?_
        refine lv_iadd hx hb dX10_startSo_129 (lv_topi (fun v_3 e_v_3 => ?_))
        obtain ⟨t_v_3, r_v_3⟩ := tq_add (lo := 48) (hi := 83) rl_48 r_x1 (by decide +kernel) e_v_3
        have t_v_3 : v_3.toInt = 48 + x1.toInt := t_v_3
        refine tg_iald (lo := (-2147483648)) (hi := 2147483647) hx hb hK hw h_vu_1 rfl 48 83 r_v_3 (by decide) (by decide +kernel) dX10_startSo_130 (fun v_4 r_v_4 m_v_4 o_v_4 => ?_)
        refine tg_iast hx hb hK hw h_vu_1 rfl 136 171 r_v_2 (by decide) r_v_4 (by decide +kernel) (RN_upd (by decide) (by decide)) (by decide) dX10_startSo_131 (fun ws H locs hw hF9 hU9 => ?_)
        obtain ⟨v_5, e_v_5⟩ : ∃ q9 : Int32, q9 = x1 + Int32.ofInt 1 := ⟨_, rfl⟩
        obtain ⟨t_v_5, r_v_5⟩ := tq_add (lo := 1) (hi := 36) r_x1 (show RI (Int32.ofInt 1) 1 1 by unfold RI; decide +kernel) (by decide +kernel) e_v_5
        have t_v_5 : v_5.toInt = x1.toInt + 1 := t_v_5
        refine lv_iinc (v := v_5) (lv' := [(1, .int v_5), (0, .ref p0)]) hx hb dX10_startSo_132 hl (k := 1) rfl e_v_5.symm (by decide) rfl (fun ls hl => ?_)
        refine lv_goto (tgt := 107) hx hb dX10_startSo_135 (by decide) ?_
        exact ih107 v_5 ws _ _ ls (by have q0 := r_v_5.1; have u0 := r_v_5.2; have o0 := r_x1.1; have p0 := r_x1.2; omega) (r_v_5.to (by decide)) hw (lv_sub hl [1, 0] rfl)
  have B57 : ∀ (nf : Nat) (x1 : Int32) (ws : va_W) (H : Heap) (locs : List Loc) (ls : Array Slot), 8 - x1.toInt < (nf : Int) → RI x1 0 8 → WD D cy GG A s wr_X10_startSo wa_X10_startSo Ps w0 Ps ws H locs → lv_has ls 2 [(0, .ref p0), (1, .int x1)] → W p l e (headSpec (Cond.code yX10_startSo cX10_startSo 2 none :: gT) ({ frames := 0, cells := 0, slots := 0, locals := 200 } : Room)).room s m ([.ref p0] : List Value).toArray below meth c H locs 0 0 Q (F0 m 57 ls []) := by
    intro nf57
    induction nf57 with
    | zero =>
      intro x1 ws H locs ls hn57 r_x1 hw hl
      exact absurd hn57 (by have q0 := r_x1.1; have u0 := r_x1.2; omega)
    | succ nf57 ih57 =>
      intro x1 ws H locs ls hn57 r_x1 hw hl
      refine lv_iload_n hx hb dX10_startSo_57 rfl (lv_at hl 1 rfl) ?_
      refine lv_bipush (v := 8) hx hb dX10_startSo_58 (by decide) ?_
      refine lv_icmp_ge (tgt := 105) hx hb dX10_startSo_60 (by decide) (fun c_60 => ?_) (fun c_60 => ?_)
      · have r_x1 : RI x1 8 8 := rc_le2 rl_8 r_x1 (ti_le c_60) (by decide)
        refine lv_iconst (v := 0) hx hb dX10_startSo_105 (by decide) ?_
        refine lv_istore_n (lv' := [(1, .int 0), (0, .ref p0)]) hx hb dX10_startSo_106 rfl hl (by decide) rfl (fun ls hl => ?_)
        exact B107 4294967298 0 ws _ _ ls (by have q0 := rl_0.1; have u0 := rl_0.2; omega) (rl_0.to (by decide)) hw (lv_sub hl [1, 0] rfl)
      · have r_x1 : RI x1 0 7 := rc_lt1 r_x1 rl_8 (ti_nle c_60) (by decide)
        refine lv_aload_n hx hb dX10_startSo_63 rfl (lv_at hl 0 rfl) ?_
        refine tg_get (ci := 10) (ts := ty_MODEL) (C := RX10) (T := TX10) (N := 49) hx hb hts inX10 hown hK hw h_p0 rfl rfl 14 (by decide) (hts _ tw_1151) (fun _ h9 => h9) (ft := vR 34) rfl dX10_startSo_64 (fun u_6 hv_u_6 m_u_6 => ?_)
        obtain ⟨vu_6, rfl, h_vu_6⟩ := hv_u_6
        refine lv_bipush (v := 104) hx hb dX10_startSo_67 (by decide) ?_
        refine lv_iload_n hx hb dX10_startSo_69 rfl (lv_at hl 1 rfl) ?_
        refine lv_iadd hx hb dX10_startSo_70 (lv_topi (fun v_7 e_v_7 => ?_))
        obtain ⟨t_v_7, r_v_7⟩ := tq_add (lo := 104) (hi := 111) rl_104 r_x1 (by decide +kernel) e_v_7
        have t_v_7 : v_7.toInt = 104 + x1.toInt := t_v_7
        refine lv_aload_n hx hb dX10_startSo_71 rfl (lv_at hl 0 rfl) ?_
        refine tg_mem (ci := 10) (C := RX10) (T := TX10) (N := 49) hx hb hts inX10 hown hK hw 14 m_u_6 rfl (by decide) (hts _ tw_1151) (fun _ h9 => h9) dX10_startSo_72 ?_
        refine lv_bipush (v := 24) hx hb dX10_startSo_75 (by decide) ?_
        refine lv_iload_n hx hb dX10_startSo_77 rfl (lv_at hl 1 rfl) ?_
        refine lv_iadd hx hb dX10_startSo_78 (lv_topi (fun v_8 e_v_8 => ?_))
        obtain ⟨t_v_8, r_v_8⟩ := tq_add (lo := 24) (hi := 31) rl_24 r_x1 (by decide +kernel) e_v_8
        have t_v_8 : v_8.toInt = 24 + x1.toInt := t_v_8
        refine tg_iald (lo := 0) (hi := 5) hx hb hK hw h_vu_6 rfl 24 31 r_v_8 (by decide) (by decide +kernel) dX10_startSo_79 (fun v_9 r_v_9 m_v_9 o_v_9 => ?_)
        refine tg_iast hx hb hK hw h_vu_6 rfl 104 111 r_v_7 (by decide) r_v_9 (by decide +kernel) (RN_upd (by decide) (by decide)) (by decide) dX10_startSo_80 (fun ws H locs hw hF9 hU9 => ?_)
        refine lv_aload_n hx hb dX10_startSo_81 rfl (lv_at hl 0 rfl) ?_
        refine tg_get (ci := 10) (ts := ty_MODEL) (C := RX10) (T := TX10) (N := 49) hx hb hts inX10 hown hK hw h_p0 rfl rfl 14 (by decide) (hts _ tw_1151) (fun _ h9 => h9) (ft := vR 34) rfl dX10_startSo_82 (fun u_10 hv_u_10 m_u_10 => ?_)
        obtain ⟨vu_10, rfl, h_vu_10⟩ := hv_u_10
        refine lv_bipush (v := 112) hx hb dX10_startSo_85 (by decide) ?_
        refine lv_iload_n hx hb dX10_startSo_87 rfl (lv_at hl 1 rfl) ?_
        refine lv_iadd hx hb dX10_startSo_88 (lv_topi (fun v_11 e_v_11 => ?_))
        obtain ⟨t_v_11, r_v_11⟩ := tq_add (lo := 112) (hi := 119) rl_112 r_x1 (by decide +kernel) e_v_11
        have t_v_11 : v_11.toInt = 112 + x1.toInt := t_v_11
        refine lv_aload_n hx hb dX10_startSo_89 rfl (lv_at hl 0 rfl) ?_
        refine tg_mem (ci := 10) (C := RX10) (T := TX10) (N := 49) hx hb hts inX10 hown hK hw 14 m_u_10 rfl (by decide) (hts _ tw_1151) (fun _ h9 => h9) dX10_startSo_90 ?_
        refine lv_bipush (v := 40) hx hb dX10_startSo_93 (by decide) ?_
        refine lv_iload_n hx hb dX10_startSo_95 rfl (lv_at hl 1 rfl) ?_
        refine lv_iadd hx hb dX10_startSo_96 (lv_topi (fun v_12 e_v_12 => ?_))
        obtain ⟨t_v_12, r_v_12⟩ := tq_add (lo := 40) (hi := 47) rl_40 r_x1 (by decide +kernel) e_v_12
        have t_v_12 : v_12.toInt = 40 + x1.toInt := t_v_12
        refine tg_iald (lo := (-1)) (hi := 5) hx hb hK hw h_vu_10 rfl 40 47 r_v_12 (by decide) (by decide +kernel) dX10_startSo_97 (fun v_13 r_v_13 m_v_13 o_v_13 => ?_)
        refine tg_iast hx hb hK hw h_vu_10 rfl 112 119 r_v_11 (by decide) r_v_13 (by decide +kernel) (RN_upd (by decide) (by decide)) (by decide) dX10_startSo_98 (fun ws H locs hw hF9 hU9 => ?_)
        obtain ⟨v_14, e_v_14⟩ : ∃ q9 : Int32, q9 = x1 + Int32.ofInt 1 := ⟨_, rfl⟩
        obtain ⟨t_v_14, r_v_14⟩ := tq_add (lo := 1) (hi := 8) r_x1 (show RI (Int32.ofInt 1) 1 1 by unfold RI; decide +kernel) (by decide +kernel) e_v_14
        have t_v_14 : v_14.toInt = x1.toInt + 1 := t_v_14
        refine lv_iinc (v := v_14) (lv' := [(1, .int v_14), (0, .ref p0)]) hx hb dX10_startSo_99 hl (k := 1) rfl e_v_14.symm (by decide) rfl (fun ls hl => ?_)
        refine lv_goto (tgt := 57) hx hb dX10_startSo_102 (by decide) ?_
        exact ih57 v_14 ws _ _ ls (by have q0 := r_v_14.1; have u0 := r_v_14.2; have o0 := r_x1.1; have p0 := r_x1.2; omega) (r_v_14.to (by decide)) hw (lv_sub hl [1, 0] rfl)
  have B25 : ∀ (nf : Nat) (x1 : Int32) (ws : va_W) (H : Heap) (locs : List Loc) (ls : Array Slot), 6 - x1.toInt < (nf : Int) → RI x1 0 6 → WD D cy GG A s wr_X10_startSo wa_X10_startSo Ps w0 Ps ws H locs → lv_has ls 2 [(0, .ref p0), (1, .int x1)] → W p l e (headSpec (Cond.code yX10_startSo cX10_startSo 2 none :: gT) ({ frames := 0, cells := 0, slots := 0, locals := 200 } : Room)).room s m ([.ref p0] : List Value).toArray below meth c H locs 0 0 Q (F0 m 25 ls []) := by
    intro nf25
    induction nf25 with
    | zero =>
      intro x1 ws H locs ls hn25 r_x1 hw hl
      exact absurd hn25 (by have q0 := r_x1.1; have u0 := r_x1.2; omega)
    | succ nf25 ih25 =>
      intro x1 ws H locs ls hn25 r_x1 hw hl
      refine lv_iload_n hx hb dX10_startSo_25 rfl (lv_at hl 1 rfl) ?_
      refine lv_bipush (v := 6) hx hb dX10_startSo_26 (by decide) ?_
      refine lv_icmp_ge (tgt := 55) hx hb dX10_startSo_28 (by decide) (fun c_28 => ?_) (fun c_28 => ?_)
      · have r_x1 : RI x1 6 6 := rc_le2 rl_6 r_x1 (ti_le c_28) (by decide)
        refine lv_iconst (v := 0) hx hb dX10_startSo_55 (by decide) ?_
        refine lv_istore_n (lv' := [(1, .int 0), (0, .ref p0)]) hx hb dX10_startSo_56 rfl hl (by decide) rfl (fun ls hl => ?_)
        exact B57 4294967298 0 ws _ _ ls (by have q0 := rl_0.1; have u0 := rl_0.2; omega) (rl_0.to (by decide)) hw (lv_sub hl [1, 0] rfl)
      · have r_x1 : RI x1 0 5 := rc_lt1 r_x1 rl_6 (ti_nle c_28) (by decide)
        refine lv_aload_n hx hb dX10_startSo_31 rfl (lv_at hl 0 rfl) ?_
        refine tg_get (ci := 10) (ts := ty_MODEL) (C := RX10) (T := TX10) (N := 49) hx hb hts inX10 hown hK hw h_p0 rfl rfl 14 (by decide) (hts _ tw_1151) (fun _ h9 => h9) (ft := vR 34) rfl dX10_startSo_32 (fun u_15 hv_u_15 m_u_15 => ?_)
        obtain ⟨vu_15, rfl, h_vu_15⟩ := hv_u_15
        refine lv_bipush (v := 86) hx hb dX10_startSo_35 (by decide) ?_
        refine lv_iload_n hx hb dX10_startSo_37 rfl (lv_at hl 1 rfl) ?_
        refine lv_iadd hx hb dX10_startSo_38 (lv_topi (fun v_16 e_v_16 => ?_))
        obtain ⟨t_v_16, r_v_16⟩ := tq_add (lo := 86) (hi := 91) rl_86 r_x1 (by decide +kernel) e_v_16
        have t_v_16 : v_16.toInt = 86 + x1.toInt := t_v_16
        refine lv_aload_n hx hb dX10_startSo_39 rfl (lv_at hl 0 rfl) ?_
        refine tg_mem (ci := 10) (C := RX10) (T := TX10) (N := 49) hx hb hts inX10 hown hK hw 14 m_u_15 rfl (by decide) (hts _ tw_1151) (fun _ h9 => h9) dX10_startSo_40 ?_
        refine lv_bipush (v := 18) hx hb dX10_startSo_43 (by decide) ?_
        refine lv_iload_n hx hb dX10_startSo_45 rfl (lv_at hl 1 rfl) ?_
        refine lv_iadd hx hb dX10_startSo_46 (lv_topi (fun v_17 e_v_17 => ?_))
        obtain ⟨t_v_17, r_v_17⟩ := tq_add (lo := 18) (hi := 23) rl_18 r_x1 (by decide +kernel) e_v_17
        have t_v_17 : v_17.toInt = 18 + x1.toInt := t_v_17
        refine tg_iald (lo := (-2147483648)) (hi := 2147483647) hx hb hK hw h_vu_15 rfl 18 23 r_v_17 (by decide) (by decide +kernel) dX10_startSo_47 (fun v_18 r_v_18 m_v_18 o_v_18 => ?_)
        refine tg_iast hx hb hK hw h_vu_15 rfl 86 91 r_v_16 (by decide) r_v_18 (by decide +kernel) (RN_upd (by decide) (by decide)) (by decide) dX10_startSo_48 (fun ws H locs hw hF9 hU9 => ?_)
        obtain ⟨v_19, e_v_19⟩ : ∃ q9 : Int32, q9 = x1 + Int32.ofInt 1 := ⟨_, rfl⟩
        obtain ⟨t_v_19, r_v_19⟩ := tq_add (lo := 1) (hi := 6) r_x1 (show RI (Int32.ofInt 1) 1 1 by unfold RI; decide +kernel) (by decide +kernel) e_v_19
        have t_v_19 : v_19.toInt = x1.toInt + 1 := t_v_19
        refine lv_iinc (v := v_19) (lv' := [(1, .int v_19), (0, .ref p0)]) hx hb dX10_startSo_49 hl (k := 1) rfl e_v_19.symm (by decide) rfl (fun ls hl => ?_)
        refine lv_goto (tgt := 25) hx hb dX10_startSo_52 (by decide) ?_
        exact ih25 v_19 ws _ _ ls (by have q0 := r_v_19.1; have u0 := r_v_19.2; have o0 := r_x1.1; have p0 := r_x1.2; omega) (r_v_19.to (by decide)) hw (lv_sub hl [1, 0] rfl)
  have B3 : ∀ (nf : Nat) (x1 : Int32) (ws : va_W) (H : Heap) (locs : List Loc) (ls : Array Slot), 414 - x1.toInt < (nf : Int) → RI x1 84 414 → WD D cy GG A s wr_X10_startSo wa_X10_startSo Ps w0 Ps ws H locs → lv_has ls 2 [(0, .ref p0), (1, .int x1)] → W p l e (headSpec (Cond.code yX10_startSo cX10_startSo 2 none :: gT) ({ frames := 0, cells := 0, slots := 0, locals := 200 } : Room)).room s m ([.ref p0] : List Value).toArray below meth c H locs 0 0 Q (F0 m 3 ls []) := by
    intro nf3
    induction nf3 with
    | zero =>
      intro x1 ws H locs ls hn3 r_x1 hw hl
      exact absurd hn3 (by have q0 := r_x1.1; have u0 := r_x1.2; omega)
    | succ nf3 ih3 =>
      intro x1 ws H locs ls hn3 r_x1 hw hl
      refine lv_iload_n hx hb dX10_startSo_3 rfl (lv_at hl 1 rfl) ?_
      refine lv_sipush (v := 414) hx hb dX10_startSo_4 (by decide) ?_
      refine lv_icmp_ge (tgt := 23) hx hb dX10_startSo_7 (by decide) (fun c_7 => ?_) (fun c_7 => ?_)
      · have r_x1 : RI x1 414 414 := rc_le2 rl_414 r_x1 (ti_le c_7) (by decide)
        refine lv_iconst (v := 0) hx hb dX10_startSo_23 (by decide) ?_
        refine lv_istore_n (lv' := [(1, .int 0), (0, .ref p0)]) hx hb dX10_startSo_24 rfl hl (by decide) rfl (fun ls hl => ?_)
        exact B25 4294967298 0 ws _ _ ls (by have q0 := rl_0.1; have u0 := rl_0.2; omega) (rl_0.to (by decide)) hw (lv_sub hl [1, 0] rfl)
      · have r_x1 : RI x1 84 413 := rc_lt1 r_x1 rl_414 (ti_nle c_7) (by decide)
        refine lv_aload_n hx hb dX10_startSo_10 rfl (lv_at hl 0 rfl) ?_
        refine tg_get (ci := 10) (ts := ty_MODEL) (C := RX10) (T := TX10) (N := 49) hx hb hts inX10 hown hK hw h_p0 rfl rfl 14 (by decide) (hts _ tw_1151) (fun _ h9 => h9) (ft := vR 34) rfl dX10_startSo_11 (fun u_20 hv_u_20 m_u_20 => ?_)
        obtain ⟨vu_20, rfl, h_vu_20⟩ := hv_u_20
        refine lv_iload_n hx hb dX10_startSo_14 rfl (lv_at hl 1 rfl) ?_
        refine lv_iconst (v := 0) hx hb dX10_startSo_15 (by decide) ?_
        refine tg_iast hx hb hK hw h_vu_20 rfl 84 413 r_x1 (by decide) rl_0 (by decide +kernel) (RN_zero rl_0 (by decide)) (by decide) dX10_startSo_16 (fun ws H locs hw hF9 hU9 => ?_)
        obtain ⟨v_21, e_v_21⟩ : ∃ q9 : Int32, q9 = x1 + Int32.ofInt 1 := ⟨_, rfl⟩
        obtain ⟨t_v_21, r_v_21⟩ := tq_add (lo := 85) (hi := 414) r_x1 (show RI (Int32.ofInt 1) 1 1 by unfold RI; decide +kernel) (by decide +kernel) e_v_21
        have t_v_21 : v_21.toInt = x1.toInt + 1 := t_v_21
        refine lv_iinc (v := v_21) (lv' := [(1, .int v_21), (0, .ref p0)]) hx hb dX10_startSo_17 hl (k := 1) rfl e_v_21.symm (by decide) rfl (fun ls hl => ?_)
        refine lv_goto (tgt := 3) hx hb dX10_startSo_20 (by decide) ?_
        exact ih3 v_21 ws _ _ ls (by have q0 := r_v_21.1; have u0 := r_v_21.2; have o0 := r_x1.1; have p0 := r_x1.2; omega) (r_v_21.to (by decide)) hw (lv_sub hl [1, 0] rfl)
  refine lv_bipush (v := 84) hx hb dX10_startSo_0 (by decide) ?_
  refine lv_istore_n (lv' := [(1, .int 84), (0, .ref p0)]) hx hb dX10_startSo_2 rfl hl (by decide) rfl (fun ls hl => ?_)
  exact B3 4294967298 84 w0 _ _ ls (by have q0 := rl_84.1; have u0 := rl_84.2; omega) (rl_84.to (by decide)) hw (lv_sub hl [1, 0] rfl)
abbrev wr_X10_takeBack : List (Nat × Nat) := []
abbrev wa_X10_takeBack : List Nat := [34]
set_option maxHeartbeats 4000000 in
set_option maxRecDepth 100000 in
theorem c_X10_takeBack (l : Launch) (D : va_G) (cy : Nat → ClassId) (z : Nat → Nat) (sz : Nat) (Ps : PSI) (w0 : va_W) (hT : HT cy GG Ps w0) (p0 : Nat) (h_p0 : (p0, 55) ∈ Ps) : Met l yX10_takeBack (Cond.code yX10_takeBack cX10_takeBack 2 none :: gT) ({ frames := 0, cells := 0, slots := 0, locals := 200 } : Room) (va_Pc [.ref p0] (PRE D cy z w0 sz)) (va_Qv (fun (u : va_W) => (True) ∧ HT cy GG Ps u ∧ FR wr_X10_takeBack wa_X10_takeBack Ps w0 u) (BB D cy (va_A w0 sz) (fun (u : va_W) => u)) (va_A w0 sz)) 0 0 (va_A w0 sz) := by
  refine Met.ofW (cc := cX10_takeBack) (maxL := 2) (ret := none) (by decide) rfl ?_
  intro p e s m args below meth c s₁ B hml hv
  obtain ⟨rfl, hsz, hP, hK, hD0, hSD⟩ := hv
  have hx := B.exec
  have hb := B.bytes
  have hr := B.returns
  have hlocks := B.notSynchronized
  have hts : ∀ w ∈ gT, w.before _ s = true := fun w h => atoms_spec (ws := Cond.code yX10_takeBack cX10_takeBack 2 none :: gT) B.pre w (List.mem_cons_of_mem _ h)
  have hown : s.vm.findClass RX10 = some m.cls := findClass_of_methodNamed B.named
  subst hsz
  have hD := hD0.self (sz := s.heap.size)
  generalize hAe : va_A w0 s.heap.size = A at hD hSD ⊢
  have hA : ∀ q : Nat, s.heap.size ≤ q → A q := fun q h => by rw [← hAe]; exact Or.inr h
  have hl := lv_entry ([.ref p0]) (n := 2) (Nat.le_of_ble_eq_true rfl)
  rw [lg_entry_eq]
  generalize (lg_sl ([.ref p0]) ++ List.replicate (2 - (lg_sl ([.ref p0])).length) Slot.unset).toArray = ls at hl ⊢
  have hl : lv_has ls 2 [(0, .ref p0)] := hl
  refine nameQ (fun Q hQ => ?_)
  have hw : WD D cy GG A s wr_X10_takeBack wa_X10_takeBack Ps w0 Ps w0 s.heap [] := ⟨hT, hP, hD, va_S.rf, FR.rf, hT.1, [], (List.append_nil _).symm⟩
  have B2 : ∀ (nf : Nat) (x1 : Int32) (ws : va_W) (H : Heap) (locs : List Loc) (ls : Array Slot), 88 - x1.toInt < (nf : Int) → RI x1 0 88 → WD D cy GG A s wr_X10_takeBack wa_X10_takeBack Ps w0 Ps ws H locs → lv_has ls 2 [(0, .ref p0), (1, .int x1)] → W p l e (headSpec (Cond.code yX10_takeBack cX10_takeBack 2 none :: gT) ({ frames := 0, cells := 0, slots := 0, locals := 200 } : Room)).room s m ([.ref p0] : List Value).toArray below meth c H locs 0 0 Q (F0 m 2 ls []) := by
    intro nf2
    induction nf2 with
    | zero =>
      intro x1 ws H locs ls hn2 r_x1 hw hl
      exact absurd hn2 (by have q0 := r_x1.1; have u0 := r_x1.2; omega)
    | succ nf2 ih2 =>
      intro x1 ws H locs ls hn2 r_x1 hw hl
      refine lv_iload_n hx hb dX10_takeBack_2 rfl (lv_at hl 1 rfl) ?_
      refine lv_bipush (v := 88) hx hb dX10_takeBack_3 (by decide) ?_
      refine lv_icmp_ge (tgt := 29) hx hb dX10_takeBack_5 (by decide) (fun c_5 => ?_) (fun c_5 => ?_)
      · have r_x1 : RI x1 88 88 := rc_le2 rl_88 r_x1 (ti_le c_5) (by decide)
        subst hQ
        exact W.vret hx hb hr (fun t ht hW => ⟨⟨ws, rfl, ⟨trivial, hw.1, hw.2.2.2.2.1⟩, by rw [ht]; exact hw.2.1, va_K.moved hW.alike hK, hw.2.2.1⟩, hw.2.2.2.1.F ht⟩) hw.2.2.2.1.2.2 dX10_takeBack_29
      · have r_x1 : RI x1 0 87 := rc_lt1 r_x1 rl_88 (ti_nle c_5) (by decide)
        refine lv_aload_n hx hb dX10_takeBack_8 rfl (lv_at hl 0 rfl) ?_
        refine tg_get (ci := 10) (ts := ty_MODEL) (C := RX10) (T := TX10) (N := 49) hx hb hts inX10 hown hK hw h_p0 rfl rfl 14 (by decide) (hts _ tw_1151) (fun _ h9 => h9) (ft := vR 34) rfl dX10_takeBack_9 (fun u_1 hv_u_1 m_u_1 => ?_)
        obtain ⟨vu_1, rfl, h_vu_1⟩ := hv_u_1
        refine lv_bipush (v := 84) hx hb dX10_takeBack_12 (by decide) ?_
        refine lv_iload_n hx hb dX10_takeBack_14 rfl (lv_at hl 1 rfl) ?_
        refine lv_iadd hx hb dX10_takeBack_15 (lv_topi (fun v_2 e_v_2 => ?_))
        obtain ⟨t_v_2, r_v_2⟩ := tq_add (lo := 84) (hi := 171) rl_84 r_x1 (by decide +kernel) e_v_2
        have t_v_2 : v_2.toInt = 84 + x1.toInt := t_v_2
        refine lv_aload_n hx hb dX10_takeBack_16 rfl (lv_at hl 0 rfl) ?_
        refine tg_get (ci := 10) (ts := ty_MODEL) (C := RX10) (T := TX10) (N := 49) hx hb hts inX10 hown hK hw h_p0 rfl rfl 18 (by decide) (hts _ tw_1155) (fun _ h9 => h9) (ft := vR 38) rfl dX10_takeBack_17 (fun u_3 hv_u_3 m_u_3 => ?_)
        obtain ⟨vu_3, rfl, h_vu_3⟩ := hv_u_3
        refine lv_iload_n hx hb dX10_takeBack_20 rfl (lv_at hl 1 rfl) ?_
        refine tg_iald (lo := (-2147483648)) (hi := 2147483647) hx hb hK hw h_vu_3 rfl 0 87 r_x1 (by decide) (by decide +kernel) dX10_takeBack_21 (fun v_4 r_v_4 m_v_4 o_v_4 => ?_)
        have e_5 : 84 + x1.toNatClampNeg = v_2.toNatClampNeg := by have k1 := r_x1.cl (by decide); have k2 := r_v_2.cl (by decide); have b10 := r_x1.1; have b20 := r_x1.2; have b11 := r_v_2.1; have b21 := r_v_2.2; have b12 := r_v_4.1; have b22 := r_v_4.2; omega
        refine tg_iasto hx hb hK hw h_vu_1 rfl 84 171 r_v_2 (by decide) (show RI _ (canon (v_2.toNatClampNeg)).1 (canon (v_2.toNatClampNeg)).2 by rw [← e_5]; exact o_v_4) (RN_upd (by decide) (by decide)) (by decide) dX10_takeBack_22 (fun ws H locs hw hF9 hU9 => ?_)
        obtain ⟨v_6, e_v_6⟩ : ∃ q9 : Int32, q9 = x1 + Int32.ofInt 1 := ⟨_, rfl⟩
        obtain ⟨t_v_6, r_v_6⟩ := tq_add (lo := 1) (hi := 88) r_x1 (show RI (Int32.ofInt 1) 1 1 by unfold RI; decide +kernel) (by decide +kernel) e_v_6
        have t_v_6 : v_6.toInt = x1.toInt + 1 := t_v_6
        refine lv_iinc (v := v_6) (lv' := [(1, .int v_6), (0, .ref p0)]) hx hb dX10_takeBack_23 hl (k := 1) rfl e_v_6.symm (by decide) rfl (fun ls hl => ?_)
        refine lv_goto (tgt := 2) hx hb dX10_takeBack_26 (by decide) ?_
        exact ih2 v_6 ws _ _ ls (by have q0 := r_v_6.1; have u0 := r_v_6.2; have o0 := r_x1.1; have p0 := r_x1.2; omega) (r_v_6.to (by decide)) hw (lv_sub hl [1, 0] rfl)
  refine lv_iconst (v := 0) hx hb dX10_takeBack_0 (by decide) ?_
  refine lv_istore_n (lv' := [(1, .int 0), (0, .ref p0)]) hx hb dX10_takeBack_1 rfl hl (by decide) rfl (fun ls hl => ?_)
  exact B2 4294967298 0 w0 _ _ ls (by have q0 := rl_0.1; have u0 := rl_0.2; omega) (rl_0.to (by decide)) hw (lv_sub hl [1, 0] rfl)
abbrev wr_X10_stay : List (Nat × Nat) := [(10, 25)]
abbrev wa_X10_stay : List Nat := [34, 37, 38]
set_option maxHeartbeats 4000000 in
set_option maxRecDepth 100000 in
theorem c_X10_stay (l : Launch) (D : va_G) (cy : Nat → ClassId) (z : Nat → Nat) (sz : Nat) (Ps : PSI) (w0 : va_W) (hT : HT cy GG Ps w0) (p0 : Nat) (p1 : Int32) (h_p0 : (p0, 55) ∈ Ps) (r_p1 : RI p1 (-2147483648) 2147483647) : Met l yX10_stay (Cond.code yX10_stay cX10_stay 4 none :: gT) ({ frames := 2, cells := 0, slots := 0, locals := 400 } : Room) (va_Pc [.ref p0, .int p1] (PRE D cy z w0 sz)) (va_Qv (fun (u : va_W) => (True) ∧ HT cy GG Ps u ∧ FR wr_X10_stay wa_X10_stay Ps w0 u) (BB D cy (va_A w0 sz) (fun (u : va_W) => u)) (va_A w0 sz)) 0 0 (va_A w0 sz) := by
  refine Met.ofW (cc := cX10_stay) (maxL := 4) (ret := none) (by decide) rfl ?_
  intro p e s m args below meth c s₁ B hml hv
  obtain ⟨rfl, hsz, hP, hK, hD0, hSD⟩ := hv
  have hx := B.exec
  have hb := B.bytes
  have hr := B.returns
  have hlocks := B.notSynchronized
  have hts : ∀ w ∈ gT, w.before _ s = true := fun w h => atoms_spec (ws := Cond.code yX10_stay cX10_stay 4 none :: gT) B.pre w (List.mem_cons_of_mem _ h)
  have hown : s.vm.findClass RX10 = some m.cls := findClass_of_methodNamed B.named
  subst hsz
  have hD := hD0.self (sz := s.heap.size)
  generalize hAe : va_A w0 s.heap.size = A at hD hSD ⊢
  have hA : ∀ q : Nat, s.heap.size ≤ q → A q := fun q h => by rw [← hAe]; exact Or.inr h
  have hl := lv_entry ([.ref p0, .int p1]) (n := 4) (Nat.le_of_ble_eq_true rfl)
  rw [lg_entry_eq]
  generalize (lg_sl ([.ref p0, .int p1]) ++ List.replicate (4 - (lg_sl ([.ref p0, .int p1])).length) Slot.unset).toArray = ls at hl ⊢
  have hl : lv_has ls 4 [(0, .ref p0), (1, .int p1)] := hl
  refine nameQ (fun Q hQ => ?_)
  have hw : WD D cy GG A s wr_X10_stay wa_X10_stay Ps w0 Ps w0 s.heap [] := ⟨hT, hP, hD, va_S.rf, FR.rf, hT.1, [], (List.append_nil _).symm⟩
  have B2 : ∀ (nf : Nat) (x2 : Int32) (ws : va_W) (H : Heap) (locs : List Loc) (ls : Array Slot), 88 - x2.toInt < (nf : Int) → RI p1 (-2147483648) 2147483647 → RI x2 0 88 → WD D cy GG A s wr_X10_stay wa_X10_stay Ps w0 Ps ws H locs → lv_has ls 4 [(0, .ref p0), (1, .int p1), (2, .int x2)] → W p l e (headSpec (Cond.code yX10_stay cX10_stay 4 none :: gT) ({ frames := 2, cells := 0, slots := 0, locals := 400 } : Room)).room s m ([.ref p0, .int p1] : List Value).toArray below meth c H locs 0 0 Q (F0 m 2 ls []) := by
    intro nf2
    induction nf2 with
    | zero =>
      intro x2 ws H locs ls hn2 r_p1 r_x2 hw hl
      exact absurd hn2 (by have q0 := r_x2.1; have u0 := r_x2.2; omega)
    | succ nf2 ih2 =>
      intro x2 ws H locs ls hn2 r_p1 r_x2 hw hl
      refine lv_iload_n hx hb dX10_stay_2 rfl (lv_at hl 2 rfl) ?_
      refine lv_bipush (v := 88) hx hb dX10_stay_3 (by decide) ?_
      refine lv_icmp_ge (tgt := 46) hx hb dX10_stay_5 (by decide) (fun c_5 => ?_) (fun c_5 => ?_)
      · have r_x2 : RI x2 88 88 := rc_le2 rl_88 r_x2 (ti_le c_5) (by decide)
        refine lv_iload_n hx hb dX10_stay_46 rfl (lv_at hl 1 rfl) ?_
        refine lv_if_ne (tgt := 51) hx hb dX10_stay_47 (by decide) (fun c_47 => ?_) (fun c_47 => ?_)
        · refine lv_aload_n hx hb dX10_stay_51 rfl (lv_at hl 0 rfl) ?_
          refine tk_v (va_runV (As := []) (rest := []) ⟨hx, hb, hml, hown, hts⟩ (c_X10_snap l D cy z H.size Ps ws hw.1 p0 h_p0) (cwV 0 hts (gV tw_1505 tw_1507 ts_78 tw_15 tw_1508) rfl rfl rfl (by decide +kernel) ⟨Nat.le_of_ble_eq_true rfl, Nat.le_of_ble_eq_true rfl⟩) (tg_preV hw hK hSD hA (ci := 10) (q := (RX10, TX10, 49)) rfl h_p0 rfl) rfl rfl hl.1 rfl (lv_room (Nat.le_of_ble_eq_true rfl)) dX10_stay_52 ⟨Nat.le_of_ble_eq_true rfl, Nat.le_of_ble_eq_true rfl⟩) hw hA ⟨by decide, by decide⟩ (fun ws H locs hp_v_1 hw hF9 => ?_)
          obtain ⟨v_2, m_v_2, r_v_2⟩ := (hp_v_1.1)
          refine lv_aload_n hx hb dX10_stay_55 rfl (lv_at hl 0 rfl) ?_
          refine tk_v (va_runV (As := []) (rest := []) ⟨hx, hb, hml, hown, hts⟩ (c_X10_takeBack l D cy z H.size Ps ws hw.1 p0 h_p0) (cwV 0 hts (gV tw_1587 tw_1589 ts_89 tw_15 tw_1590) rfl rfl rfl (by decide +kernel) ⟨Nat.le_of_ble_eq_true rfl, Nat.le_of_ble_eq_true rfl⟩) (tg_preV hw hK hSD hA (ci := 10) (q := (RX10, TX10, 49)) rfl h_p0 rfl) rfl rfl hl.1 rfl (lv_room (Nat.le_of_ble_eq_true rfl)) dX10_stay_56 ⟨Nat.le_of_ble_eq_true rfl, Nat.le_of_ble_eq_true rfl⟩) hw hA ⟨by decide, by decide⟩ (fun ws H locs hp_v_3 hw hF9 => ?_)
          have m_v_2 := FLD.over hF9 m_v_2 (by decide)
          subst hQ
          exact W.vret hx hb hr (fun t ht hW => ⟨⟨ws, rfl, ⟨trivial, hw.1, hw.2.2.2.2.1⟩, by rw [ht]; exact hw.2.1, va_K.moved hW.alike hK, hw.2.2.1⟩, hw.2.2.2.1.F ht⟩) hw.2.2.2.1.2.2 dX10_stay_59
        · have r_p1 : RI p1 0 0 := rc_eq1 r_p1 rl_0 (ti_eq c_47) (by decide)
          subst hQ
          exact W.vret hx hb hr (fun t ht hW => ⟨⟨ws, rfl, ⟨trivial, hw.1, hw.2.2.2.2.1⟩, by rw [ht]; exact hw.2.1, va_K.moved hW.alike hK, hw.2.2.1⟩, hw.2.2.2.1.F ht⟩) hw.2.2.2.1.2.2 dX10_stay_50
      · have r_x2 : RI x2 0 87 := rc_lt1 r_x2 rl_88 (ti_nle c_5) (by decide)
        refine lv_aload_n hx hb dX10_stay_8 rfl (lv_at hl 0 rfl) ?_
        refine tg_get (ci := 10) (ts := ty_MODEL) (C := RX10) (T := TX10) (N := 49) hx hb hts inX10 hown hK hw h_p0 rfl rfl 14 (by decide) (hts _ tw_1151) (fun _ h9 => h9) (ft := vR 34) rfl dX10_stay_9 (fun u_4 hv_u_4 m_u_4 => ?_)
        obtain ⟨vu_4, rfl, h_vu_4⟩ := hv_u_4
        refine lv_bipush (v := 84) hx hb dX10_stay_12 (by decide) ?_
        refine lv_iload_n hx hb dX10_stay_14 rfl (lv_at hl 2 rfl) ?_
        refine lv_iadd hx hb dX10_stay_15 (lv_topi (fun v_5 e_v_5 => ?_))
        obtain ⟨t_v_5, r_v_5⟩ := tq_add (lo := 84) (hi := 171) rl_84 r_x2 (by decide +kernel) e_v_5
        have t_v_5 : v_5.toInt = 84 + x2.toInt := t_v_5
        refine tg_iald (lo := (-2147483648)) (hi := 2147483647) hx hb hK hw h_vu_4 rfl 84 171 r_v_5 (by decide) (by decide +kernel) dX10_stay_16 (fun v_6 r_v_6 m_v_6 o_v_6 => ?_)
        refine lv_istore_n (lv' := [(3, .int v_6), (0, .ref p0), (1, .int p1), (2, .int x2)]) hx hb dX10_stay_17 rfl hl (by decide) rfl (fun ls hl => ?_)
        refine lv_aload_n hx hb dX10_stay_18 rfl (lv_at hl 1 rfl) ?_
        refine tg_mem (ci := 10) (C := RX10) (T := TX10) (N := 49) hx hb hts inX10 hown hK hw 14 m_u_4 rfl (by decide) (hts _ tw_1151) (fun _ h9 => h9) dX10_stay_19 ?_
        refine lv_bipush (v := 84) hx hb dX10_stay_22 (by decide) ?_
        refine lv_iload_n hx hb dX10_stay_24 rfl (lv_at hl 3 rfl) ?_
        refine lv_iadd hx hb dX10_stay_25 (lv_topi (fun v_7 e_v_7 => ?_))
        obtain ⟨t_v_7, r_v_7⟩ := tq_add (lo := 84) (hi := 171) rl_84 r_x2 (by decide +kernel) e_v_7
        have t_v_7 : v_7.toInt = 84 + x2.toInt := t_v_7
        refine lv_aload_n hx hb dX10_stay_26 rfl (lv_at hl 1 rfl) ?_
        refine tg_get (ci := 10) (ts := ty_MODEL) (C := RX10) (T := TX10) (N := 49) hx hb hts inX10 hown hK hw h_p0 rfl rfl 18 (by decide) (hts _ tw_1155) (fun _ h9 => h9) (ft := vR 38) rfl dX10_stay_27 (fun u_8 hv_u_8 m_u_8 => ?_)
        obtain ⟨vu_8, rfl, h_vu_8⟩ := hv_u_8
        refine lv_iload_n hx hb dX10_stay_30 rfl (lv_at hl 3 rfl) ?_
        refine tg_iald (lo := (-2147483648)) (hi := 2147483647) hx hb hK hw h_vu_8 rfl 0 87 r_x2 (by decide) (by decide +kernel) dX10_stay_31 (fun v_9 r_v_9 m_v_9 o_v_9 => ?_)
        have e_10 : 84 + x2.toNatClampNeg = v_7.toNatClampNeg := by have k1 := r_x2.cl (by decide); have k2 := r_v_7.cl (by decide); have b10 := r_p1.1; have b20 := r_p1.2; have b11 := r_x2.1; have b21 := r_x2.2; have b12 := r_v_5.1; have b22 := r_v_5.2; have b13 := r_v_6.1; have b23 := r_v_6.2; have b14 := r_v_7.1; have b24 := r_v_7.2; have b15 := r_v_9.1; have b25 := r_v_9.2; omega
        refine tg_iasto hx hb hK hw h_vu_4 rfl 84 171 r_v_7 (by decide) (show RI _ (canon (v_7.toNatClampNeg)).1 (canon (v_7.toNatClampNeg)).2 by rw [← e_10]; exact o_v_9) (RN_upd (by decide) (by decide)) (by decide) dX10_stay_32 (fun ws H locs hw hF9 hU9 => ?_)
        refine lv_aload_n hx hb dX10_stay_33 rfl (lv_at hl 1 rfl) ?_
        refine tg_get (ci := 10) (ts := ty_MODEL) (C := RX10) (T := TX10) (N := 49) hx hb hts inX10 hown hK hw h_p0 rfl rfl 18 (by decide) (hts _ tw_1155) (fun _ h9 => h9) (ft := vR 38) rfl dX10_stay_34 (fun u_11 hv_u_11 m_u_11 => ?_)
        obtain ⟨vu_11, rfl, h_vu_11⟩ := hv_u_11
        refine lv_iload_n hx hb dX10_stay_37 rfl (lv_at hl 3 rfl) ?_
        refine lv_iload_n hx hb dX10_stay_38 rfl (lv_at hl 0 rfl) ?_
        have e_12 : v_5.toNatClampNeg = 84 + x2.toNatClampNeg := by have k1 := r_v_5.cl (by decide); have k2 := r_x2.cl (by decide); have b10 := r_p1.1; have b20 := r_p1.2; have b11 := r_x2.1; have b21 := r_x2.2; have b12 := r_v_5.1; have b22 := r_v_5.2; have b13 := r_v_6.1; have b23 := r_v_6.2; have b14 := r_v_7.1; have b24 := r_v_7.2; have b15 := r_v_9.1; have b25 := r_v_9.2; omega
        refine tg_iasto hx hb hK hw h_vu_11 rfl 0 87 r_x2 (by decide) (show RI _ (canon (84 + x2.toNatClampNeg)).1 (canon (84 + x2.toNatClampNeg)).2 by rw [← e_12]; exact o_v_6) (fun _ _ _ _ _ => trivial) (by decide) dX10_stay_39 (fun ws H locs hw hF9 hU9 => ?_)
        obtain ⟨v_13, e_v_13⟩ : ∃ q9 : Int32, q9 = x2 + Int32.ofInt 1 := ⟨_, rfl⟩
        obtain ⟨t_v_13, r_v_13⟩ := tq_add (lo := 1) (hi := 88) r_x2 (show RI (Int32.ofInt 1) 1 1 by unfold RI; decide +kernel) (by decide +kernel) e_v_13
        have t_v_13 : v_13.toInt = x2.toInt + 1 := t_v_13
        refine lv_iinc (v := v_13) (lv' := [(2, .int v_13), (3, .int v_6), (0, .ref p0), (1, .int p1)]) hx hb dX10_stay_40 hl (k := 3) rfl e_v_13.symm (by decide) rfl (fun ls hl => ?_)
        refine lv_goto (tgt := 2) hx hb dX10_stay_43 (by decide) ?_
        exact ih2 v_13 ws _ _ ls (by have q0 := r_v_13.1; have u0 := r_v_13.2; have o0 := r_x2.1; have p0 := r_x2.2; omega) r_p1 (r_v_13.to (by decide)) hw (lv_sub hl [2, 3, 0] rfl)
  refine lv_iconst (v := 0) hx hb dX10_stay_0 (by decide) ?_
  refine lv_istore_n (lv' := [(2, .int 0), (0, .ref p0), (1, .int p1)]) hx hb dX10_stay_1 rfl hl (by decide) rfl (fun ls hl => ?_)
  exact B2 4294967298 0 w0 _ _ ls (by have q0 := rl_0.1; have u0 := rl_0.2; omega) r_p1 (rl_0.to (by decide)) hw (lv_sub hl [1, 2, 0] rfl)
abbrev wr_X10_surely : List (Nat × Nat) := [(10, 0)]
abbrev wa_X10_surely : List Nat := []
set_option maxHeartbeats 4000000 in
set_option maxRecDepth 100000 in
theorem c_X10_surely (l : Launch) (D : va_G) (cy : Nat → ClassId) (z : Nat → Nat) (sz : Nat) (Ps : PSI) (w0 : va_W) (hT : HT cy GG Ps w0) (p0 : Nat) (h_p0 : (p0, 55) ∈ Ps) : Met l yX10_surely (Cond.code yX10_surely cX10_surely 1 (some .int) :: gT) ({ frames := 0, cells := 0, slots := 0, locals := 200 } : Room) (va_Pc [.ref p0] (PRE D cy z w0 sz)) (va_Qi (fun (r : Int32) (u : va_W) => (RI r (-2147483648) 2147483647 ∧ (r = 0 → True) ∧ (¬ r = 0 → True)) ∧ HT cy GG Ps u ∧ FR wr_X10_surely wa_X10_surely Ps w0 u) (BB D cy (va_A w0 sz) (fun (u : va_W) => u)) (va_A w0 sz)) 0 0 (va_A w0 sz) := by
  refine Met.ofW (cc := cX10_surely) (maxL := 1) (ret := (some .int)) (by decide) rfl ?_
  intro p e s m args below meth c s₁ B hml hv
  obtain ⟨rfl, hsz, hP, hK, hD0, hSD⟩ := hv
  have hx := B.exec
  have hb := B.bytes
  have hr := B.returns
  have hlocks := B.notSynchronized
  have hts : ∀ w ∈ gT, w.before _ s = true := fun w h => atoms_spec (ws := Cond.code yX10_surely cX10_surely 1 (some .int) :: gT) B.pre w (List.mem_cons_of_mem _ h)
  have hown : s.vm.findClass RX10 = some m.cls := findClass_of_methodNamed B.named
  subst hsz
  have hD := hD0.self (sz := s.heap.size)
  generalize hAe : va_A w0 s.heap.size = A at hD hSD ⊢
  have hA : ∀ q : Nat, s.heap.size ≤ q → A q := fun q h => by rw [← hAe]; exact Or.inr h
  have hl := lv_entry ([.ref p0]) (n := 1) (Nat.le_of_ble_eq_true rfl)
  rw [lg_entry_eq]
  generalize (lg_sl ([.ref p0]) ++ List.replicate (1 - (lg_sl ([.ref p0])).length) Slot.unset).toArray = ls at hl ⊢
  have hl : lv_has ls 1 [(0, .ref p0)] := hl
  refine nameQ (fun Q hQ => ?_)
  have hw : WD D cy GG A s wr_X10_surely wa_X10_surely Ps w0 Ps w0 s.heap [] := ⟨hT, hP, hD, va_S.rf, FR.rf, hT.1, [], (List.append_nil _).symm⟩
  refine lv_aload_n hx hb dX10_surely_0 rfl (lv_at hl 0 rfl) ?_
  refine lv_iconst (v := 0) hx hb dX10_surely_1 (by decide) ?_
  refine tg_put (ci := 10) (ts := ty_MODEL) (v := .int 0) (ty := .int) (C := RX10) (T := TX10) (N := 49) hx hb hts inX10 tyX10 tyX10_ok nmX10 hown hK hw h_p0 rfl rfl 0 (by decide) (hts _ tw_1137) (fun _ h9 => h9) rfl (by decide +kernel) rfl rfl (ft := vI (-2147483648) 2147483647) rfl ⟨_, rfl, (rl_0.to (by decide))⟩ (by decide) dX10_surely_2 (fun ws H locs hw n_k_1 hF9 => ?_)
  refine lv_aload_n hx hb dX10_surely_5 rfl (lv_at hl 0 rfl) ?_
  refine tg_get (ci := 10) (ts := ty_MODEL) (C := RX10) (T := TX10) (N := 49) hx hb hts inX10 hown hK hw h_p0 rfl rfl 29 (by decide) (hts _ tw_1166) (fun _ h9 => h9) (ft := vI (-2147483648) 2147483647) rfl dX10_surely_6 (fun u_2 hv_u_2 m_u_2 => ?_)
  obtain ⟨vu_2, rfl, r_vu_2⟩ := hv_u_2
  subst hQ
  exact W.iret (v := vu_2) hx hb hr (fun t ht hW => ⟨⟨vu_2, ws, rfl, ⟨⟨r_vu_2.to (by decide), (fun h0 => trivial), (fun h0 => trivial)⟩, hw.1, hw.2.2.2.2.1⟩, by rw [ht]; exact hw.2.1, va_K.moved hW.alike hK, hw.2.2.1⟩, hw.2.2.2.1.F ht⟩) hw.2.2.2.1.2.2 dX10_surely_9
abbrev wr_X10_take : List (Nat × Nat) := [(10, 2)]
abbrev wa_X10_take : List Nat := []
set_option maxHeartbeats 4000000 in
set_option maxRecDepth 100000 in
theorem c_X10_take (l : Launch) (D : va_G) (cy : Nat → ClassId) (z : Nat → Nat) (sz : Nat) (Ps : PSI) (w0 : va_W) (hT : HT cy GG Ps w0) (p0 : Nat) (h_p0 : (p0, 55) ∈ Ps) : Met l yX10_take (Cond.code yX10_take cX10_take 2 (some .int) :: gT) ({ frames := 0, cells := 0, slots := 0, locals := 200 } : Room) (va_Pc [.ref p0] (PRE D cy z w0 sz)) (va_Qi (fun (r : Int32) (u : va_W) => (RI r 0 940 ∧ (r = 0 → (∃ v9 : Int32, FLD u p0 10 2 (.int v9) ∧ RI v9 0 0) ∧ True) ∧ (¬ r = 0 → (∃ v9 : Int32, FLD u p0 10 2 (.int v9) ∧ RI v9 0 0) ∧ True)) ∧ HT cy GG Ps u ∧ FR wr_X10_take wa_X10_take Ps w0 u) (BB D cy (va_A w0 sz) (fun (u : va_W) => u)) (va_A w0 sz)) 0 0 (va_A w0 sz) := by
  refine Met.ofW (cc := cX10_take) (maxL := 2) (ret := (some .int)) (by decide) rfl ?_
  intro p e s m args below meth c s₁ B hml hv
  obtain ⟨rfl, hsz, hP, hK, hD0, hSD⟩ := hv
  have hx := B.exec
  have hb := B.bytes
  have hr := B.returns
  have hlocks := B.notSynchronized
  have hts : ∀ w ∈ gT, w.before _ s = true := fun w h => atoms_spec (ws := Cond.code yX10_take cX10_take 2 (some .int) :: gT) B.pre w (List.mem_cons_of_mem _ h)
  have hown : s.vm.findClass RX10 = some m.cls := findClass_of_methodNamed B.named
  subst hsz
  have hD := hD0.self (sz := s.heap.size)
  generalize hAe : va_A w0 s.heap.size = A at hD hSD ⊢
  have hA : ∀ q : Nat, s.heap.size ≤ q → A q := fun q h => by rw [← hAe]; exact Or.inr h
  have hl := lv_entry ([.ref p0]) (n := 2) (Nat.le_of_ble_eq_true rfl)
  rw [lg_entry_eq]
  generalize (lg_sl ([.ref p0]) ++ List.replicate (2 - (lg_sl ([.ref p0])).length) Slot.unset).toArray = ls at hl ⊢
  have hl : lv_has ls 2 [(0, .ref p0)] := hl
  refine nameQ (fun Q hQ => ?_)
  have hw : WD D cy GG A s wr_X10_take wa_X10_take Ps w0 Ps w0 s.heap [] := ⟨hT, hP, hD, va_S.rf, FR.rf, hT.1, [], (List.append_nil _).symm⟩
  refine lv_aload_n hx hb dX10_take_0 rfl (lv_at hl 0 rfl) ?_
  refine tg_get (ci := 10) (ts := ty_MODEL) (C := RX10) (T := TX10) (N := 49) hx hb hts inX10 hown hK hw h_p0 rfl rfl 2 (by decide) (hts _ tw_1139) (fun _ h9 => h9) (ft := vI 0 940) rfl dX10_take_1 (fun u_1 hv_u_1 m_u_1 => ?_)
  obtain ⟨vu_1, rfl, r_vu_1⟩ := hv_u_1
  refine lv_istore_n (lv' := [(1, .int vu_1), (0, .ref p0)]) hx hb dX10_take_4 rfl hl (by decide) rfl (fun ls hl => ?_)
  refine lv_aload_n hx hb dX10_take_5 rfl (lv_at hl 1 rfl) ?_
  refine lv_iconst (v := 0) hx hb dX10_take_6 (by decide) ?_
  refine tg_put (ci := 10) (ts := ty_MODEL) (v := .int 0) (ty := .int) (C := RX10) (T := TX10) (N := 49) hx hb hts inX10 tyX10 tyX10_ok nmX10 hown hK hw h_p0 rfl rfl 2 (by decide) (hts _ tw_1139) (fun _ h9 => h9) rfl (by decide +kernel) rfl rfl (ft := vI 0 940) rfl ⟨_, rfl, (rl_0.to (by decide))⟩ (by decide) dX10_take_7 (fun ws H locs hw n_k_2 hF9 => ?_)
  refine lv_iload_n hx hb dX10_take_10 rfl (lv_at hl 0 rfl) ?_
  subst hQ
  exact W.iret (v := vu_1) hx hb hr (fun t ht hW => ⟨⟨vu_1, ws, rfl, ⟨⟨r_vu_1.to (by decide), (fun h0 => ⟨⟨_, n_k_2, rl_0⟩, trivial⟩), (fun h0 => ⟨⟨_, n_k_2, rl_0⟩, trivial⟩)⟩, hw.1, hw.2.2.2.2.1⟩, by rw [ht]; exact hw.2.1, va_K.moved hW.alike hK, hw.2.2.1⟩, hw.2.2.2.1.F ht⟩) hw.2.2.2.1.2.2 dX10_take_11
abbrev wr_X10_isIn__5 : List (Nat × Nat) := []
abbrev wa_X10_isIn__5 : List Nat := []
set_option maxHeartbeats 4000000 in
set_option maxRecDepth 100000 in
theorem c_X10_isIn__5 (l : Launch) (D : va_G) (cy : Nat → ClassId) (z : Nat → Nat) (sz : Nat) (Ps : PSI) (w0 : va_W) (hT : HT cy GG Ps w0) (p0 : Int32) (p1 : Int32) (p2 : Int32) (r_p0 : RI p0 (-2147483648) 2147483647) (r_p1 : RI p1 0 0) (r_p2 : RI p2 3 3) : Met l yX10_isIn (Cond.code yX10_isIn cX10_isIn 3 (some .boolean) :: gT) ({ frames := 0, cells := 0, slots := 0, locals := 200 } : Room) (va_Pc [.int p0, .int p1, .int p2] (PRE D cy z w0 sz)) (va_Qi (fun (r : Int32) (u : Unit) => RI r 0 1 ∧ (r = 0 → True) ∧ (¬ r = 0 → RI p0 0 3 ∧ True)) (BB D cy (va_A w0 sz) (fun (u : Unit) => w0)) (va_A w0 sz)) 0 0 (va_A w0 sz) := by
  refine Met.ofW (cc := cX10_isIn) (maxL := 3) (ret := (some .boolean)) (by decide) rfl ?_
  intro p e s m args below meth c s₁ B hml hv
  obtain ⟨rfl, hsz, hP, hK, hD0, hSD⟩ := hv
  have hx := B.exec
  have hb := B.bytes
  have hr := B.returns
  have hlocks := B.notSynchronized
  have hts : ∀ w ∈ gT, w.before _ s = true := fun w h => atoms_spec (ws := Cond.code yX10_isIn cX10_isIn 3 (some .boolean) :: gT) B.pre w (List.mem_cons_of_mem _ h)
  have hown : s.vm.findClass RX10 = some m.cls := findClass_of_methodNamed B.named
  subst hsz
  have hD := hD0.self (sz := s.heap.size)
  generalize hAe : va_A w0 s.heap.size = A at hD hSD ⊢
  have hA : ∀ q : Nat, s.heap.size ≤ q → A q := fun q h => by rw [← hAe]; exact Or.inr h
  have hl := lv_entry ([.int p0, .int p1, .int p2]) (n := 3) (Nat.le_of_ble_eq_true rfl)
  rw [lg_entry_eq]
  generalize (lg_sl ([.int p0, .int p1, .int p2]) ++ List.replicate (3 - (lg_sl ([.int p0, .int p1, .int p2])).length) Slot.unset).toArray = ls at hl ⊢
  have hl : lv_has ls 3 [(0, .int p0), (1, .int p1), (2, .int p2)] := hl
  refine nameQ (fun Q hQ => ?_)
  have hw : WD D cy GG A s wr_X10_isIn__5 wa_X10_isIn__5 Ps w0 Ps w0 s.heap [] := ⟨hT, hP, hD, va_S.rf, FR.rf, hT.1, [], (List.append_nil _).symm⟩
  refine lv_iload_n hx hb dX10_isIn_0 rfl (lv_at hl 0 rfl) ?_
  refine lv_iload_n hx hb dX10_isIn_1 rfl (lv_at hl 1 rfl) ?_
  refine lv_icmp_lt (tgt := 14) hx hb dX10_isIn_2 (by decide) (fun c_2 => ?_) (fun c_2 => ?_)
  · have r_p0 : RI p0 (-2147483648) (-1) := rc_lt1 r_p0 r_p1 (ti_lt c_2) (by decide)
    refine lv_iconst (v := 0) hx hb dX10_isIn_14 (by decide) ?_
    subst hQ
    exact W.zret (v := 0) hx hb hr (rfl) (fun t ht hW => ⟨⟨0, (), rfl, ⟨rl_0.to (by decide), (fun h0 => trivial), (fun h0 => absurd rfl h0)⟩, by rw [ht]; exact hw.2.1, va_K.moved hW.alike hK, hw.2.2.1⟩, hw.2.2.2.1.F ht⟩) hw.2.2.2.1.2.2 dX10_isIn_15
  · have r_p0 : RI p0 0 2147483647 := rc_le2 r_p1 r_p0 (ti_nlt c_2) (by decide)
    refine lv_iload_n hx hb dX10_isIn_5 rfl (lv_at hl 0 rfl) ?_
    refine lv_iload_n hx hb dX10_isIn_6 rfl (lv_at hl 2 rfl) ?_
    refine lv_icmp_gt (tgt := 14) hx hb dX10_isIn_7 (by decide) (fun c_7 => ?_) (fun c_7 => ?_)
    · have r_p0 : RI p0 4 2147483647 := rc_lt2 r_p2 r_p0 (ti_lt c_7) (by decide)
      refine lv_iconst (v := 0) hx hb dX10_isIn_14 (by decide) ?_
      subst hQ
      exact W.zret (v := 0) hx hb hr (rfl) (fun t ht hW => ⟨⟨0, (), rfl, ⟨rl_0.to (by decide), (fun h0 => trivial), (fun h0 => absurd rfl h0)⟩, by rw [ht]; exact hw.2.1, va_K.moved hW.alike hK, hw.2.2.1⟩, hw.2.2.2.1.F ht⟩) hw.2.2.2.1.2.2 dX10_isIn_15
    · have r_p0 : RI p0 0 3 := rc_le1 r_p0 r_p2 (ti_nlt c_7) (by decide)
      refine lv_iconst (v := 1) hx hb dX10_isIn_10 (by decide) ?_
      refine lv_goto (tgt := 15) hx hb dX10_isIn_11 (by decide) ?_
      subst hQ
      exact W.zret (v := 1) hx hb hr (rfl) (fun t ht hW => ⟨⟨1, (), rfl, ⟨rl_1.to (by decide), (fun _ => trivial), (fun h0 => ⟨r_p0, trivial⟩)⟩, by rw [ht]; exact hw.2.1, va_K.moved hW.alike hK, hw.2.2.1⟩, hw.2.2.2.1.F ht⟩) hw.2.2.2.1.2.2 dX10_isIn_15
abbrev wr_X10_told : List (Nat × Nat) := [(10, 0)]
abbrev wa_X10_told : List Nat := []
set_option maxHeartbeats 4000000 in
set_option maxRecDepth 100000 in
theorem c_X10_told (l : Launch) (D : va_G) (cy : Nat → ClassId) (z : Nat → Nat) (sz : Nat) (Ps : PSI) (w0 : va_W) (hT : HT cy GG Ps w0) (p0 : Nat) (p1 : Int32) (h_p0 : (p0, 55) ∈ Ps) (r_p1 : RI p1 (-2147483648) 2147483647) : Met l yX10_told (Cond.code yX10_told cX10_told 2 (some .int) :: gT) ({ frames := 2, cells := 0, slots := 0, locals := 400 } : Room) (va_Pc [.ref p0, .int p1] (PRE D cy z w0 sz)) (va_Qi (fun (r : Int32) (u : va_W) => (RI r (-2147483648) 2147483647 ∧ (r = 0 → True) ∧ (¬ r = 0 → True)) ∧ HT cy GG Ps u ∧ FR wr_X10_told wa_X10_told Ps w0 u) (BB D cy (va_A w0 sz) (fun (u : va_W) => u)) (va_A w0 sz)) 0 0 (va_A w0 sz) := by
  refine Met.ofW (cc := cX10_told) (maxL := 2) (ret := (some .int)) (by decide) rfl ?_
  intro p e s m args below meth c s₁ B hml hv
  obtain ⟨rfl, hsz, hP, hK, hD0, hSD⟩ := hv
  have hx := B.exec
  have hb := B.bytes
  have hr := B.returns
  have hlocks := B.notSynchronized
  have hts : ∀ w ∈ gT, w.before _ s = true := fun w h => atoms_spec (ws := Cond.code yX10_told cX10_told 2 (some .int) :: gT) B.pre w (List.mem_cons_of_mem _ h)
  have hown : s.vm.findClass RX10 = some m.cls := findClass_of_methodNamed B.named
  subst hsz
  have hD := hD0.self (sz := s.heap.size)
  generalize hAe : va_A w0 s.heap.size = A at hD hSD ⊢
  have hA : ∀ q : Nat, s.heap.size ≤ q → A q := fun q h => by rw [← hAe]; exact Or.inr h
  have hl := lv_entry ([.ref p0, .int p1]) (n := 2) (Nat.le_of_ble_eq_true rfl)
  rw [lg_entry_eq]
  generalize (lg_sl ([.ref p0, .int p1]) ++ List.replicate (2 - (lg_sl ([.ref p0, .int p1])).length) Slot.unset).toArray = ls at hl ⊢
  have hl : lv_has ls 2 [(0, .ref p0), (1, .int p1)] := hl
  refine nameQ (fun Q hQ => ?_)
  have hw : WD D cy GG A s wr_X10_told wa_X10_told Ps w0 Ps w0 s.heap [] := ⟨hT, hP, hD, va_S.rf, FR.rf, hT.1, [], (List.append_nil _).symm⟩
  refine lv_aload_n hx hb dX10_told_0 rfl (lv_at hl 0 rfl) ?_
  refine lv_iconst (v := 0) hx hb dX10_told_1 (by decide) ?_
  refine tg_put (ci := 10) (ts := ty_MODEL) (v := .int 0) (ty := .int) (C := RX10) (T := TX10) (N := 49) hx hb hts inX10 tyX10 tyX10_ok nmX10 hown hK hw h_p0 rfl rfl 0 (by decide) (hts _ tw_1137) (fun _ h9 => h9) rfl (by decide +kernel) rfl rfl (ft := vI (-2147483648) 2147483647) rfl ⟨_, rfl, (rl_0.to (by decide))⟩ (by decide) dX10_told_2 (fun ws H locs hw n_k_1 hF9 => ?_)
  refine lv_aload_n hx hb dX10_told_5 rfl (lv_at hl 0 rfl) ?_
  refine tg_get (ci := 10) (ts := ty_MODEL) (C := RX10) (T := TX10) (N := 49) hx hb hts inX10 hown hK hw h_p0 rfl rfl 43 (by decide) (hts _ tw_1180) (fun _ h9 => h9) (ft := vI 0 1) rfl dX10_told_6 (fun u_2 hv_u_2 m_u_2 => ?_)
  obtain ⟨vu_2, rfl, r_vu_2⟩ := hv_u_2
  refine lv_if_eq (tgt := 30) hx hb dX10_told_9 (by decide) (fun c_9 => ?_) (fun c_9 => ?_)
  · have r_vu_2 : RI vu_2 0 0 := rc_eq1 r_vu_2 rl_0 (ti_eq c_9) (by decide)
    refine lv_iconst (v := (-1)) hx hb dX10_told_30 (by decide) ?_
    subst hQ
    exact W.iret (v := (-1)) hx hb hr (fun t ht hW => ⟨⟨(-1), ws, rfl, ⟨⟨rl_m1.to (by decide), (fun _ => trivial), (fun h0 => trivial)⟩, hw.1, hw.2.2.2.2.1⟩, by rw [ht]; exact hw.2.1, va_K.moved hW.alike hK, hw.2.2.1⟩, hw.2.2.2.1.F ht⟩) hw.2.2.2.1.2.2 dX10_told_31
  · have r_vu_2 : RI vu_2 1 1 := rc_neL r_vu_2 rl_0 (ti_ne c_9) (by decide)
    refine lv_iload_n hx hb dX10_told_12 rfl (lv_at hl 1 rfl) ?_
    refine lv_iconst (v := 0) hx hb dX10_told_13 (by decide) ?_
    refine lv_iconst (v := 3) hx hb dX10_told_14 (by decide) ?_
    refine tk_ir (va_runS (As := [.int p1, .int 0, .int 3]) (rest := []) ⟨hx, hb, hml, hown, hts⟩ (c_X10_isIn__5 l D cy z H.size Ps ws hw.1 p1 0 3 r_p1 rl_0 rl_3) (va_cwS 3 hts (gS tw_1359 tw_1360 tw_15 tw_1361) rfl rfl rfl (by decide +kernel) ⟨Nat.le_of_ble_eq_true rfl, Nat.le_of_ble_eq_true rfl⟩) (tg_preS hw hK hSD hA) rfl rfl hl.1 rfl (lv_room (Nat.le_of_ble_eq_true rfl)) dX10_told_15 ⟨Nat.le_of_ble_eq_true rfl, Nat.le_of_ble_eq_true rfl⟩) hw hA (fun v_3  H locs hp_v_3 hw => ?_)
    have r_v_3 : RI v_3 0 1 := hp_v_3.1
    refine lv_if_eq (tgt := 30) hx hb dX10_told_18 (by decide) (fun c_18 => ?_) (fun c_18 => ?_)
    · have r_v_3 : RI v_3 0 0 := rc_eq1 r_v_3 rl_0 (ti_eq c_18) (by decide)
      refine lv_iconst (v := (-1)) hx hb dX10_told_30 (by decide) ?_
      subst hQ
      exact W.iret (v := (-1)) hx hb hr (fun t ht hW => ⟨⟨(-1), ws, rfl, ⟨⟨rl_m1.to (by decide), (fun _ => trivial), (fun h0 => trivial)⟩, hw.1, hw.2.2.2.2.1⟩, by rw [ht]; exact hw.2.1, va_K.moved hW.alike hK, hw.2.2.1⟩, hw.2.2.2.1.F ht⟩) hw.2.2.2.1.2.2 dX10_told_31
    · have r_v_3 : RI v_3 1 1 := rc_neL r_v_3 rl_0 (ti_ne c_18) (by decide)
      have r_p1 : RI p1 0 3 := ((hp_v_3.2.2 c_18).1)
      refine lv_aload_n hx hb dX10_told_21 rfl (lv_at hl 0 rfl) ?_
      refine tg_get (ci := 10) (ts := ty_MODEL) (C := RX10) (T := TX10) (N := 49) hx hb hts inX10 hown hK hw h_p0 rfl rfl 41 (by decide) (hts _ tw_1178) (fun _ h9 => h9) (ft := vR 53) rfl dX10_told_22 (fun u_4 hv_u_4 m_u_4 => ?_)
      obtain ⟨vu_4, rfl, h_vu_4⟩ := hv_u_4
      refine lv_iload_n hx hb dX10_told_25 rfl (lv_at hl 1 rfl) ?_
      refine tg_iald (lo := (-2147483648)) (hi := 2147483647) hx hb hK hw h_vu_4 rfl 0 3 r_p1 (by decide) (by exact fun _ _ _ => ⟨Int.le_refl _, Int.le_refl _⟩) dX10_told_26 (fun v_5 r_v_5 m_v_5 o_v_5 => ?_)
      refine lv_goto (tgt := 31) hx hb dX10_told_27 (by decide) ?_
      subst hQ
      exact W.iret (v := v_5) hx hb hr (fun t ht hW => ⟨⟨v_5, ws, rfl, ⟨⟨r_v_5.to (by decide), (fun h0 => trivial), (fun h0 => trivial)⟩, hw.1, hw.2.2.2.2.1⟩, by rw [ht]; exact hw.2.1, va_K.moved hW.alike hK, hw.2.2.1⟩, hw.2.2.2.1.F ht⟩) hw.2.2.2.1.2.2 dX10_told_31
abbrev wr_X10_undo : List (Nat × Nat) := [(10, 0), (10, 25)]
abbrev wa_X10_undo : List Nat := [34]
set_option maxHeartbeats 4000000 in
set_option maxRecDepth 100000 in
theorem c_X10_undo (l : Launch) (D : va_G) (cy : Nat → ClassId) (z : Nat → Nat) (sz : Nat) (Ps : PSI) (w0 : va_W) (hT : HT cy GG Ps w0) (p0 : Nat) (h_p0 : (p0, 55) ∈ Ps) : Met l yX10_undo (Cond.code yX10_undo cX10_undo 2 (some .int) :: gT) ({ frames := 0, cells := 0, slots := 0, locals := 200 } : Room) (va_Pc [.ref p0] (PRE D cy z w0 sz)) (va_Qi (fun (r : Int32) (u : va_W) => (RI r (-1) 7 ∧ (r = 0 → True) ∧ (¬ r = 0 → True)) ∧ HT cy GG Ps u ∧ FR wr_X10_undo wa_X10_undo Ps w0 u) (BB D cy (va_A w0 sz) (fun (u : va_W) => u)) (va_A w0 sz)) 0 0 (va_A w0 sz) := by
  refine Met.ofW (cc := cX10_undo) (maxL := 2) (ret := (some .int)) (by decide) rfl ?_
  intro p e s m args below meth c s₁ B hml hv
  obtain ⟨rfl, hsz, hP, hK, hD0, hSD⟩ := hv
  have hx := B.exec
  have hb := B.bytes
  have hr := B.returns
  have hlocks := B.notSynchronized
  have hts : ∀ w ∈ gT, w.before _ s = true := fun w h => atoms_spec (ws := Cond.code yX10_undo cX10_undo 2 (some .int) :: gT) B.pre w (List.mem_cons_of_mem _ h)
  have hown : s.vm.findClass RX10 = some m.cls := findClass_of_methodNamed B.named
  subst hsz
  have hD := hD0.self (sz := s.heap.size)
  generalize hAe : va_A w0 s.heap.size = A at hD hSD ⊢
  have hA : ∀ q : Nat, s.heap.size ≤ q → A q := fun q h => by rw [← hAe]; exact Or.inr h
  have hl := lv_entry ([.ref p0]) (n := 2) (Nat.le_of_ble_eq_true rfl)
  rw [lg_entry_eq]
  generalize (lg_sl ([.ref p0]) ++ List.replicate (2 - (lg_sl ([.ref p0])).length) Slot.unset).toArray = ls at hl ⊢
  have hl : lv_has ls 2 [(0, .ref p0)] := hl
  refine nameQ (fun Q hQ => ?_)
  have hw : WD D cy GG A s wr_X10_undo wa_X10_undo Ps w0 Ps w0 s.heap [] := ⟨hT, hP, hD, va_S.rf, FR.rf, hT.1, [], (List.append_nil _).symm⟩
  have B26 : ∀ (nf : Nat) (x1 : Int32) (z0_0 : Int32) (z0_25 : Int32) (ws : va_W) (H : Heap) (locs : List Loc) (ls : Array Slot), 88 - x1.toInt < (nf : Int) → RI x1 0 88 → RI z0_0 0 0 → FLD ws p0 10 0 (.int z0_0) → RI z0_25 0 7 → FLD ws p0 10 25 (.int z0_25) → WD D cy GG A s wr_X10_undo wa_X10_undo Ps w0 Ps ws H locs → lv_has ls 2 [(0, .ref p0), (1, .int x1)] → W p l e (headSpec (Cond.code yX10_undo cX10_undo 2 (some .int) :: gT) ({ frames := 0, cells := 0, slots := 0, locals := 200 } : Room)).room s m ([.ref p0] : List Value).toArray below meth c H locs 0 0 Q (F0 m 26 ls []) := by
    intro nf26
    induction nf26 with
    | zero =>
      intro x1 z0_0 z0_25 ws H locs ls hn26 r_x1 r_z0_0 m_z0_0 r_z0_25 m_z0_25 hw hl
      exact absurd hn26 (by have q0 := r_x1.1; have u0 := r_x1.2; omega)
    | succ nf26 ih26 =>
      intro x1 z0_0 z0_25 ws H locs ls hn26 r_x1 r_z0_0 m_z0_0 r_z0_25 m_z0_25 hw hl
      refine lv_iload_n hx hb dX10_undo_26 rfl (lv_at hl 1 rfl) ?_
      refine lv_bipush (v := 88) hx hb dX10_undo_27 (by decide) ?_
      refine lv_icmp_ge (tgt := 61) hx hb dX10_undo_29 (by decide) (fun c_29 => ?_) (fun c_29 => ?_)
      · have r_x1 : RI x1 88 88 := rc_le2 rl_88 r_x1 (ti_le c_29) (by decide)
        refine lv_aload_n hx hb dX10_undo_61 rfl (lv_at hl 0 rfl) ?_
        refine tg_mem (ci := 10) (C := RX10) (T := TX10) (N := 49) hx hb hts inX10 hown hK hw 25 m_z0_25 rfl (by decide) (hts _ tw_1162) (fun _ h9 => h9) dX10_undo_62 ?_
        subst hQ
        exact W.iret (v := z0_25) hx hb hr (fun t ht hW => ⟨⟨z0_25, ws, rfl, ⟨⟨r_z0_25.to (by decide), (fun h0 => trivial), (fun h0 => trivial)⟩, hw.1, hw.2.2.2.2.1⟩, by rw [ht]; exact hw.2.1, va_K.moved hW.alike hK, hw.2.2.1⟩, hw.2.2.2.1.F ht⟩) hw.2.2.2.1.2.2 dX10_undo_65
      · have r_x1 : RI x1 0 87 := rc_lt1 r_x1 rl_88 (ti_nle c_29) (by decide)
        refine lv_aload_n hx hb dX10_undo_32 rfl (lv_at hl 0 rfl) ?_
        refine tg_get (ci := 10) (ts := ty_MODEL) (C := RX10) (T := TX10) (N := 49) hx hb hts inX10 hown hK hw h_p0 rfl rfl 14 (by decide) (hts _ tw_1151) (fun _ h9 => h9) (ft := vR 34) rfl dX10_undo_33 (fun u_1 hv_u_1 m_u_1 => ?_)
        obtain ⟨vu_1, rfl, h_vu_1⟩ := hv_u_1
        refine lv_bipush (v := 84) hx hb dX10_undo_36 (by decide) ?_
        refine lv_iload_n hx hb dX10_undo_38 rfl (lv_at hl 1 rfl) ?_
        refine lv_iadd hx hb dX10_undo_39 (lv_topi (fun v_2 e_v_2 => ?_))
        obtain ⟨t_v_2, r_v_2⟩ := tq_add (lo := 84) (hi := 171) rl_84 r_x1 (by decide +kernel) e_v_2
        have t_v_2 : v_2.toInt = 84 + x1.toInt := t_v_2
        refine lv_aload_n hx hb dX10_undo_40 rfl (lv_at hl 0 rfl) ?_
        refine tg_get (ci := 10) (ts := ty_MODEL) (C := RX10) (T := TX10) (N := 49) hx hb hts inX10 hown hK hw h_p0 rfl rfl 17 (by decide) (hts _ tw_1154) (fun _ h9 => h9) (ft := vR 37) rfl dX10_undo_41 (fun u_3 hv_u_3 m_u_3 => ?_)
        obtain ⟨vu_3, rfl, h_vu_3⟩ := hv_u_3
        refine lv_bipush (v := 88) hx hb dX10_undo_44 (by decide) ?_
        refine lv_aload_n hx hb dX10_undo_46 rfl (lv_at hl 0 rfl) ?_
        refine tg_mem (ci := 10) (C := RX10) (T := TX10) (N := 49) hx hb hts inX10 hown hK hw 25 m_z0_25 rfl (by decide) (hts _ tw_1162) (fun _ h9 => h9) dX10_undo_47 ?_
        refine lv_imul hx hb dX10_undo_50 (lv_topi (fun v_4 e_v_4 => ?_))
        obtain ⟨t_v_4, r_v_4⟩ := tq_mul (lo := 0) (hi := 616) rl_88 r_z0_25 (by decide +kernel) e_v_4
        have t_v_4 : v_4.toInt = 88 * z0_25.toInt := t_v_4
        refine lv_iload_n hx hb dX10_undo_51 rfl (lv_at hl 1 rfl) ?_
        refine lv_iadd hx hb dX10_undo_52 (lv_topi (fun v_5 e_v_5 => ?_))
        obtain ⟨t_v_5, r_v_5⟩ := tq_add (lo := 0) (hi := 703) r_v_4 r_x1 (by decide +kernel) e_v_5
        refine tg_iald (lo := (-2147483648)) (hi := 2147483647) hx hb hK hw h_vu_3 rfl 0 703 r_v_5 (by decide) (by decide +kernel) dX10_undo_53 (fun v_6 r_v_6 m_v_6 o_v_6 => ?_)
        have e_7 : 84 + v_5.toNatClampNeg % 88 = v_2.toNatClampNeg := by have k1 := r_v_5.cl (by decide); have k2 := r_v_2.cl (by decide); have b10 := r_x1.1; have b20 := r_x1.2; have b11 := r_z0_0.1; have b21 := r_z0_0.2; have b12 := r_z0_25.1; have b22 := r_z0_25.2; have b13 := r_v_2.1; have b23 := r_v_2.2; have b14 := r_v_4.1; have b24 := r_v_4.2; have b15 := r_v_5.1; have b25 := r_v_5.2; have b16 := r_v_6.1; have b26 := r_v_6.2; omega
        refine tg_iasto hx hb hK hw h_vu_1 rfl 84 171 r_v_2 (by decide) (show RI _ (canon (v_2.toNatClampNeg)).1 (canon (v_2.toNatClampNeg)).2 by rw [← e_7]; exact o_v_6) (RN_upd (by decide) (by decide)) (by decide) dX10_undo_54 (fun ws H locs hw hF9 hU9 => ?_)
        have m_z0_0 := FLD.over hF9 m_z0_0 (by decide)
        have m_z0_25 := FLD.over hF9 m_z0_25 (by decide)
        obtain ⟨v_8, e_v_8⟩ : ∃ q9 : Int32, q9 = x1 + Int32.ofInt 1 := ⟨_, rfl⟩
        obtain ⟨t_v_8, r_v_8⟩ := tq_add (lo := 1) (hi := 88) r_x1 (show RI (Int32.ofInt 1) 1 1 by unfold RI; decide +kernel) (by decide +kernel) e_v_8
        have t_v_8 : v_8.toInt = x1.toInt + 1 := t_v_8
        refine lv_iinc (v := v_8) (lv' := [(1, .int v_8), (0, .ref p0)]) hx hb dX10_undo_55 hl (k := 1) rfl e_v_8.symm (by decide) rfl (fun ls hl => ?_)
        refine lv_goto (tgt := 26) hx hb dX10_undo_58 (by decide) ?_
        exact ih26 v_8 z0_0 z0_25 ws _ _ ls (by have q0 := r_v_8.1; have u0 := r_v_8.2; have o0 := r_x1.1; have p0 := r_x1.2; omega) (r_v_8.to (by decide)) r_z0_0 m_z0_0 r_z0_25 m_z0_25 hw (lv_sub hl [1, 0] rfl)
  refine lv_aload_n hx hb dX10_undo_0 rfl (lv_at hl 0 rfl) ?_
  refine lv_iconst (v := 0) hx hb dX10_undo_1 (by decide) ?_
  refine tg_put (ci := 10) (ts := ty_MODEL) (v := .int 0) (ty := .int) (C := RX10) (T := TX10) (N := 49) hx hb hts inX10 tyX10 tyX10_ok nmX10 hown hK hw h_p0 rfl rfl 0 (by decide) (hts _ tw_1137) (fun _ h9 => h9) rfl (by decide +kernel) rfl rfl (ft := vI (-2147483648) 2147483647) rfl ⟨_, rfl, (rl_0.to (by decide))⟩ (by decide) dX10_undo_2 (fun ws H locs hw n_k_9 hF9 => ?_)
  refine lv_aload_n hx hb dX10_undo_5 rfl (lv_at hl 0 rfl) ?_
  refine tg_get (ci := 10) (ts := ty_MODEL) (C := RX10) (T := TX10) (N := 49) hx hb hts inX10 hown hK hw h_p0 rfl rfl 25 (by decide) (hts _ tw_1162) (fun _ h9 => h9) (ft := vI 0 8) rfl dX10_undo_6 (fun u_10 hv_u_10 m_u_10 => ?_)
  obtain ⟨vu_10, rfl, r_vu_10⟩ := hv_u_10
  refine lv_if_ne (tgt := 14) hx hb dX10_undo_9 (by decide) (fun c_9 => ?_) (fun c_9 => ?_)
  · have r_vu_10 : RI vu_10 1 8 := rc_neL r_vu_10 rl_0 (ti_ne c_9) (by decide)
    refine lv_aload_n hx hb dX10_undo_14 rfl (lv_at hl 0 rfl) ?_
    refine lv_dup hx hb dX10_undo_15 rfl ?_
    refine tg_mem (ci := 10) (C := RX10) (T := TX10) (N := 49) hx hb hts inX10 hown hK hw 25 m_u_10 rfl (by decide) (hts _ tw_1162) (fun _ h9 => h9) dX10_undo_16 ?_
    refine lv_iconst (v := 1) hx hb dX10_undo_19 (by decide) ?_
    refine lv_isub hx hb dX10_undo_20 (lv_topi (fun v_11 e_v_11 => ?_))
    obtain ⟨t_v_11, r_v_11⟩ := tq_sub (lo := 0) (hi := 7) r_vu_10 rl_1 (by decide +kernel) e_v_11
    have t_v_11 : v_11.toInt = vu_10.toInt - 1 := t_v_11
    refine tg_put (ci := 10) (ts := ty_MODEL) (v := .int v_11) (ty := .int) (C := RX10) (T := TX10) (N := 49) hx hb hts inX10 tyX10 tyX10_ok nmX10 hown hK hw h_p0 rfl rfl 25 (by decide) (hts _ tw_1162) (fun _ h9 => h9) rfl (by decide +kernel) rfl rfl (ft := vI 0 8) rfl ⟨_, rfl, (r_v_11.to (by decide))⟩ (by decide) dX10_undo_21 (fun ws H locs hw n_k_12 hF9 => ?_)
    have n_k_9 := FLD.over hF9 n_k_9 (by decide)
    refine lv_iconst (v := 0) hx hb dX10_undo_24 (by decide) ?_
    refine lv_istore_n (lv' := [(1, .int 0), (0, .ref p0)]) hx hb dX10_undo_25 rfl hl (by decide) rfl (fun ls hl => ?_)
    exact B26 4294967298 0 0 v_11 ws _ _ ls (by have q0 := rl_0.1; have u0 := rl_0.2; omega) (rl_0.to (by decide)) rl_0 n_k_9 r_v_11 n_k_12 hw (lv_sub hl [1, 0] rfl)
  · have r_vu_10 : RI vu_10 0 0 := rc_eq1 r_vu_10 rl_0 (ti_eq c_9) (by decide)
    refine lv_iconst (v := (-1)) hx hb dX10_undo_12 (by decide) ?_
    subst hQ
    exact W.iret (v := (-1)) hx hb hr (fun t ht hW => ⟨⟨(-1), ws, rfl, ⟨⟨rl_m1.to (by decide), (fun _ => trivial), (fun h0 => trivial)⟩, hw.1, hw.2.2.2.2.1⟩, by rw [ht]; exact hw.2.1, va_K.moved hW.alike hK, hw.2.2.1⟩, hw.2.2.2.1.F ht⟩) hw.2.2.2.1.2.2 dX10_undo_13
abbrev wr_X10_when : List (Nat × Nat) := [(10, 0)]
abbrev wa_X10_when : List Nat := [34, 38, 46]
set_option maxHeartbeats 4000000 in
set_option maxRecDepth 100000 in
theorem c_X10_when (l : Launch) (D : va_G) (cy : Nat → ClassId) (z : Nat → Nat) (sz : Nat) (Ps : PSI) (w0 : va_W) (hT : HT cy GG Ps w0) (p0 : Nat) (p1 : Int32) (p2 : Int32) (h_p0 : (p0, 55) ∈ Ps) (r_p1 : RI p1 (-2147483648) 2147483647) (r_p2 : RI p2 (-2147483648) 2147483647) : Met l yX10_when (Cond.code yX10_when cX10_when 4 (some .int) :: gT) ({ frames := 5, cells := 0, slots := 0, locals := 1000 } : Room) (va_Pc [.ref p0, .int p1, .int p2] (PRE D cy z w0 sz)) (va_Qi (fun (r : Int32) (u : va_W) => (RI r (-1) 60 ∧ (r = 0 → True) ∧ (¬ r = 0 → True)) ∧ HT cy GG Ps u ∧ FR wr_X10_when wa_X10_when Ps w0 u) (BB D cy (va_A w0 sz) (fun (u : va_W) => u)) (va_A w0 sz)) 0 0 (va_A w0 sz) := by
  refine Met.ofW (cc := cX10_when) (maxL := 4) (ret := (some .int)) (by decide) rfl ?_
  intro p e s m args below meth c s₁ B hml hv
  obtain ⟨rfl, hsz, hP, hK, hD0, hSD⟩ := hv
  have hx := B.exec
  have hb := B.bytes
  have hr := B.returns
  have hlocks := B.notSynchronized
  have hts : ∀ w ∈ gT, w.before _ s = true := fun w h => atoms_spec (ws := Cond.code yX10_when cX10_when 4 (some .int) :: gT) B.pre w (List.mem_cons_of_mem _ h)
  have hown : s.vm.findClass RX10 = some m.cls := findClass_of_methodNamed B.named
  subst hsz
  have hD := hD0.self (sz := s.heap.size)
  generalize hAe : va_A w0 s.heap.size = A at hD hSD ⊢
  have hA : ∀ q : Nat, s.heap.size ≤ q → A q := fun q h => by rw [← hAe]; exact Or.inr h
  have hl := lv_entry ([.ref p0, .int p1, .int p2]) (n := 4) (Nat.le_of_ble_eq_true rfl)
  rw [lg_entry_eq]
  generalize (lg_sl ([.ref p0, .int p1, .int p2]) ++ List.replicate (4 - (lg_sl ([.ref p0, .int p1, .int p2])).length) Slot.unset).toArray = ls at hl ⊢
  have hl : lv_has ls 4 [(0, .ref p0), (1, .int p1), (2, .int p2)] := hl
  refine nameQ (fun Q hQ => ?_)
  have hw : WD D cy GG A s wr_X10_when wa_X10_when Ps w0 Ps w0 s.heap [] := ⟨hT, hP, hD, va_S.rf, FR.rf, hT.1, [], (List.append_nil _).symm⟩
  have B73 : ∀ (x3 : Int32) (z0_0 : Int32) (ws : va_W) (H : Heap) (locs : List Loc) (ls : Array Slot), RI p1 0 5 → RI p2 0 5 → RI x3 0 61 → RI z0_0 0 0 → FLD ws p0 10 0 (.int z0_0) → WD D cy GG A s wr_X10_when wa_X10_when Ps w0 Ps ws H locs → lv_has ls 4 [(0, .ref p0), (1, .int p1), (2, .int p2), (3, .int x3)] → W p l e (headSpec (Cond.code yX10_when cX10_when 4 (some .int) :: gT) ({ frames := 5, cells := 0, slots := 0, locals := 1000 } : Room)).room s m ([.ref p0, .int p1, .int p2] : List Value).toArray below meth c H locs 0 0 Q (F0 m 73 ls []) := by
    intro x3 z0_0 ws H locs ls r_p1 r_p2 r_x3 r_z0_0 m_z0_0 hw hl
    refine lv_aload_n hx hb dX10_when_73 rfl (lv_at hl 0 rfl) ?_
    refine tk_v (va_runV (As := []) (rest := []) ⟨hx, hb, hml, hown, hts⟩ (c_X10_takeBack l D cy z H.size Ps ws hw.1 p0 h_p0) (cwV 0 hts (gV tw_1587 tw_1589 ts_89 tw_15 tw_1590) rfl rfl rfl (by decide +kernel) ⟨Nat.le_of_ble_eq_true rfl, Nat.le_of_ble_eq_true rfl⟩) (tg_preV hw hK hSD hA (ci := 10) (q := (RX10, TX10, 49)) rfl h_p0 rfl) rfl rfl hl.1 rfl (lv_room (Nat.le_of_ble_eq_true rfl)) dX10_when_74 ⟨Nat.le_of_ble_eq_true rfl, Nat.le_of_ble_eq_true rfl⟩) hw hA ⟨by decide, by decide⟩ (fun ws H locs hp_v_1 hw hF9 => ?_)
    have m_z0_0 := FLD.over hF9 m_z0_0 (by decide)
    refine lv_iload_n hx hb dX10_when_77 rfl (lv_at hl 3 rfl) ?_
    refine lv_bipush (v := 60) hx hb dX10_when_78 (by decide) ?_
    refine lv_icmp_le (tgt := 87) hx hb dX10_when_80 (by decide) (fun c_80 => ?_) (fun c_80 => ?_)
    · have r_x3 : RI x3 0 60 := rc_le1 r_x3 rl_60 (ti_le c_80) (by decide)
      refine lv_iload_n hx hb dX10_when_87 rfl (lv_at hl 3 rfl) ?_
      subst hQ
      exact W.iret (v := x3) hx hb hr (fun t ht hW => ⟨⟨x3, ws, rfl, ⟨⟨r_x3.to (by decide), (fun h0 => trivial), (fun h0 => trivial)⟩, hw.1, hw.2.2.2.2.1⟩, by rw [ht]; exact hw.2.1, va_K.moved hW.alike hK, hw.2.2.1⟩, hw.2.2.2.1.F ht⟩) hw.2.2.2.1.2.2 dX10_when_88
    · have r_x3 : RI x3 61 61 := rc_lt2 rl_60 r_x3 (ti_nle c_80) (by decide)
      refine lv_iconst (v := (-1)) hx hb dX10_when_83 (by decide) ?_
      refine lv_goto (tgt := 88) hx hb dX10_when_84 (by decide) ?_
      subst hQ
      exact W.iret (v := (-1)) hx hb hr (fun t ht hW => ⟨⟨(-1), ws, rfl, ⟨⟨rl_m1.to (by decide), (fun _ => trivial), (fun h0 => trivial)⟩, hw.1, hw.2.2.2.2.1⟩, by rw [ht]; exact hw.2.1, va_K.moved hW.alike hK, hw.2.2.1⟩, hw.2.2.2.1.F ht⟩) hw.2.2.2.1.2.2 dX10_when_88
  have B29 : ∀ (nf : Nat) (x3 : Int32) (z0_0 : Int32) (ws : va_W) (H : Heap) (locs : List Loc) (ls : Array Slot), 61 - x3.toInt < (nf : Int) → RI p1 0 5 → RI p2 0 5 → RI x3 0 61 → RI z0_0 0 0 → FLD ws p0 10 0 (.int z0_0) → WD D cy GG A s wr_X10_when wa_X10_when Ps w0 Ps ws H locs → lv_has ls 4 [(0, .ref p0), (1, .int p1), (2, .int p2), (3, .int x3)] → W p l e (headSpec (Cond.code yX10_when cX10_when 4 (some .int) :: gT) ({ frames := 5, cells := 0, slots := 0, locals := 1000 } : Room)).room s m ([.ref p0, .int p1, .int p2] : List Value).toArray below meth c H locs 0 0 Q (F0 m 29 ls []) := by
    intro nf29
    induction nf29 with
    | zero =>
      intro x3 z0_0 ws H locs ls hn29 r_p1 r_p2 r_x3 r_z0_0 m_z0_0 hw hl
      exact absurd hn29 (by have q0 := r_x3.1; have u0 := r_x3.2; omega)
    | succ nf29 ih29 =>
      intro x3 z0_0 ws H locs ls hn29 r_p1 r_p2 r_x3 r_z0_0 m_z0_0 hw hl
      refine lv_iload_n hx hb dX10_when_29 rfl (lv_at hl 3 rfl) ?_
      refine lv_bipush (v := 60) hx hb dX10_when_30 (by decide) ?_
      refine lv_icmp_gt (tgt := 73) hx hb dX10_when_32 (by decide) (fun c_32 => ?_) (fun c_32 => ?_)
      · have r_x3 : RI x3 61 61 := rc_lt2 rl_60 r_x3 (ti_lt c_32) (by decide)
        exact B73 x3 z0_0 ws _ _ ls r_p1 r_p2 (r_x3.to (by decide)) r_z0_0 m_z0_0 hw hl
      · have r_x3 : RI x3 0 60 := rc_le1 r_x3 rl_60 (ti_nlt c_32) (by decide)
        refine lv_aload_n hx hb dX10_when_35 rfl (lv_at hl 0 rfl) ?_
        refine lv_iload_n hx hb dX10_when_36 rfl (lv_at hl 1 rfl) ?_
        refine tk_ir (va_runV (As := [.int p1]) (rest := []) ⟨hx, hb, hml, hown, hts⟩ (c_X10_whatIs l D cy z H.size Ps ws hw.1 p0 p1 h_p0 r_p1) (cwV 1 hts (gV tw_1449 tw_1451 ts_69 tw_15 tw_1452) rfl rfl rfl (by decide +kernel) ⟨Nat.le_of_ble_eq_true rfl, Nat.le_of_ble_eq_true rfl⟩) (tg_preV hw hK hSD hA (ci := 10) (q := (RX10, TX10, 49)) rfl h_p0 rfl) rfl rfl hl.1 rfl (lv_room (Nat.le_of_ble_eq_true rfl)) dX10_when_37 ⟨Nat.le_of_ble_eq_true rfl, Nat.le_of_ble_eq_true rfl⟩) hw hA (fun v_2  H locs hp_v_2 hw => ?_)
        have r_v_2 : RI v_2 (-1) 5 := hp_v_2.1
        by_cases c9_v_2 : v_2.toInt < 0
        · have r_v_2 : RI v_2 (-1) (-1) := by unfold RI at r_v_2 ⊢; omega
          have x_NB_p0_p1 := (hp_v_2.2.2.2.2.1 (by omega)).1
          refine lv_iload_n hx hb dX10_when_40 rfl (lv_at hl 2 rfl) ?_
          refine lv_icmp_eq (tgt := 73) hx hb dX10_when_41 (by decide) (fun c_41 => ?_) (fun c_41 => ?_)
          · have r_v_2 : RI v_2 0 (-1) := rc_eq1 r_v_2 r_p2 (ti_eq c_41) (by decide)
            have r_p2 : RI p2 0 (-1) := rc_eq2 r_v_2 r_p2 (ti_eq c_41) (by decide)
            exact (r_v_2.no (by decide)).elim
          · refine lv_aload_n hx hb dX10_when_44 rfl (lv_at hl 0 rfl) ?_
            refine tg_get (ci := 10) (ts := ty_MODEL) (C := RX10) (T := TX10) (N := 49) hx hb hts inX10 hown hK hw h_p0 rfl rfl 14 (by decide) (hts _ tw_1151) (fun _ h9 => h9) (ft := vR 34) rfl dX10_when_45 (fun u_3 hv_u_3 m_u_3 => ?_)
            obtain ⟨vu_3, rfl, h_vu_3⟩ := hv_u_3
            refine lv_bipush (v := 84) hx hb dX10_when_48 (by decide) ?_
            refine tg_iald (lo := (-2147483648)) (hi := 2147483647) hx hb hK hw h_vu_3 rfl 84 84 rl_84 (by decide) (by decide +kernel) dX10_when_50 (fun v_4 r_v_4 m_v_4 o_v_4 => ?_)
            refine lv_sipush (v := 400) hx hb dX10_when_51 (by decide) ?_
            refine lv_icmp_ne (tgt := 63) hx hb dX10_when_54 (by decide) (fun c_54 => ?_) (fun c_54 => ?_)
            · refine lv_aload_n hx hb dX10_when_63 rfl (lv_at hl 0 rfl) ?_
              refine tk_v (va_runV (As := []) (rest := []) ⟨hx, hb, hml, hown, hts⟩ (c_X10_oneDay l D cy z H.size Ps ws hw.1 p0 h_p0) (cwV 0 hts (gV tw_1564 tw_1566 ts_85 tw_15 tw_1567) rfl rfl rfl (by decide +kernel) ⟨Nat.le_of_ble_eq_true rfl, Nat.le_of_ble_eq_true rfl⟩) (tg_preV hw hK hSD hA (ci := 10) (q := (RX10, TX10, 49)) rfl h_p0 rfl) rfl rfl hl.1 rfl (lv_room (Nat.le_of_ble_eq_true rfl)) dX10_when_64 ⟨Nat.le_of_ble_eq_true rfl, Nat.le_of_ble_eq_true rfl⟩) hw hA ⟨by decide, by decide⟩ (fun ws H locs hp_v_5 hw hF9 => ?_)
              have m_z0_0 := FLD.over hF9 m_z0_0 (by decide)
              obtain ⟨v_6, e_v_6⟩ : ∃ q9 : Int32, q9 = x3 + Int32.ofInt 1 := ⟨_, rfl⟩
              obtain ⟨t_v_6, r_v_6⟩ := tq_add (lo := 1) (hi := 61) r_x3 (show RI (Int32.ofInt 1) 1 1 by unfold RI; decide +kernel) (by decide +kernel) e_v_6
              have t_v_6 : v_6.toInt = x3.toInt + 1 := t_v_6
              refine lv_iinc (v := v_6) (lv' := [(3, .int v_6), (0, .ref p0), (1, .int p1), (2, .int p2)]) hx hb dX10_when_67 hl (k := 3) rfl e_v_6.symm (by decide) rfl (fun ls hl => ?_)
              refine lv_goto (tgt := 29) hx hb dX10_when_70 (by decide) ?_
              exact ih29 v_6 z0_0 ws _ _ ls (by have q0 := r_v_6.1; have u0 := r_v_6.2; have o0 := r_x3.1; have p0 := r_x3.2; omega) r_p1 r_p2 (r_v_6.to (by decide)) r_z0_0 m_z0_0 hw (lv_sub hl [1, 2, 3, 0] rfl)
            · have r_v_4 : RI v_4 400 400 := rc_eq1 r_v_4 rl_400 (ti_eq c_54) (by decide)
              refine lv_bipush (v := 60) hx hb dX10_when_57 (by decide) ?_
              refine lv_istore_n (lv' := [(3, .int 60), (0, .ref p0), (1, .int p1), (2, .int p2)]) hx hb dX10_when_59 rfl hl (by decide) rfl (fun ls hl => ?_)
              refine lv_goto (tgt := 67) hx hb dX10_when_60 (by decide) ?_
              refine lv_iinc (v := 61) (lv' := [(3, .int 61), (0, .ref p0), (1, .int p1), (2, .int p2)]) hx hb dX10_when_67 hl (k := 0) rfl (by decide) (by decide) rfl (fun ls hl => ?_)
              refine lv_goto (tgt := 29) hx hb dX10_when_70 (by decide) ?_
              exact ih29 61 z0_0 ws _ _ ls (by have q0 := rl_61.1; have u0 := rl_61.2; have o0 := r_x3.1; have p0 := r_x3.2; omega) r_p1 r_p2 (rl_61.to (by decide)) r_z0_0 m_z0_0 hw (lv_sub hl [1, 2, 3, 0] rfl)
        · have r_v_2 : RI v_2 0 5 := by unfold RI at r_v_2 ⊢; omega
          have x_WB_p0_p1_v_2 := (hp_v_2.2.2.2.2.2 (by omega)).1
          refine lv_iload_n hx hb dX10_when_40 rfl (lv_at hl 2 rfl) ?_
          refine lv_icmp_eq (tgt := 73) hx hb dX10_when_41 (by decide) (fun c_41 => ?_) (fun c_41 => ?_)
          · exact B73 x3 z0_0 ws _ _ ls r_p1 r_p2 (r_x3.to (by decide)) r_z0_0 m_z0_0 hw hl
          · refine lv_aload_n hx hb dX10_when_44 rfl (lv_at hl 0 rfl) ?_
            refine tg_get (ci := 10) (ts := ty_MODEL) (C := RX10) (T := TX10) (N := 49) hx hb hts inX10 hown hK hw h_p0 rfl rfl 14 (by decide) (hts _ tw_1151) (fun _ h9 => h9) (ft := vR 34) rfl dX10_when_45 (fun u_7 hv_u_7 m_u_7 => ?_)
            obtain ⟨vu_7, rfl, h_vu_7⟩ := hv_u_7
            refine lv_bipush (v := 84) hx hb dX10_when_48 (by decide) ?_
            refine tg_iald (lo := (-2147483648)) (hi := 2147483647) hx hb hK hw h_vu_7 rfl 84 84 rl_84 (by decide) (by decide +kernel) dX10_when_50 (fun v_8 r_v_8 m_v_8 o_v_8 => ?_)
            refine lv_sipush (v := 400) hx hb dX10_when_51 (by decide) ?_
            refine lv_icmp_ne (tgt := 63) hx hb dX10_when_54 (by decide) (fun c_54 => ?_) (fun c_54 => ?_)
            · refine lv_aload_n hx hb dX10_when_63 rfl (lv_at hl 0 rfl) ?_
              refine tk_v (va_runV (As := []) (rest := []) ⟨hx, hb, hml, hown, hts⟩ (c_X10_oneDay l D cy z H.size Ps ws hw.1 p0 h_p0) (cwV 0 hts (gV tw_1564 tw_1566 ts_85 tw_15 tw_1567) rfl rfl rfl (by decide +kernel) ⟨Nat.le_of_ble_eq_true rfl, Nat.le_of_ble_eq_true rfl⟩) (tg_preV hw hK hSD hA (ci := 10) (q := (RX10, TX10, 49)) rfl h_p0 rfl) rfl rfl hl.1 rfl (lv_room (Nat.le_of_ble_eq_true rfl)) dX10_when_64 ⟨Nat.le_of_ble_eq_true rfl, Nat.le_of_ble_eq_true rfl⟩) hw hA ⟨by decide, by decide⟩ (fun ws H locs hp_v_9 hw hF9 => ?_)
              have m_z0_0 := FLD.over hF9 m_z0_0 (by decide)
              obtain ⟨v_10, e_v_10⟩ : ∃ q9 : Int32, q9 = x3 + Int32.ofInt 1 := ⟨_, rfl⟩
              obtain ⟨t_v_10, r_v_10⟩ := tq_add (lo := 1) (hi := 61) r_x3 (show RI (Int32.ofInt 1) 1 1 by unfold RI; decide +kernel) (by decide +kernel) e_v_10
              have t_v_10 : v_10.toInt = x3.toInt + 1 := t_v_10
              refine lv_iinc (v := v_10) (lv' := [(3, .int v_10), (0, .ref p0), (1, .int p1), (2, .int p2)]) hx hb dX10_when_67 hl (k := 3) rfl e_v_10.symm (by decide) rfl (fun ls hl => ?_)
              refine lv_goto (tgt := 29) hx hb dX10_when_70 (by decide) ?_
              exact ih29 v_10 z0_0 ws _ _ ls (by have q0 := r_v_10.1; have u0 := r_v_10.2; have o0 := r_x3.1; have p0 := r_x3.2; omega) r_p1 r_p2 (r_v_10.to (by decide)) r_z0_0 m_z0_0 hw (lv_sub hl [1, 2, 3, 0] rfl)
            · have r_v_8 : RI v_8 400 400 := rc_eq1 r_v_8 rl_400 (ti_eq c_54) (by decide)
              refine lv_bipush (v := 60) hx hb dX10_when_57 (by decide) ?_
              refine lv_istore_n (lv' := [(3, .int 60), (0, .ref p0), (1, .int p1), (2, .int p2)]) hx hb dX10_when_59 rfl hl (by decide) rfl (fun ls hl => ?_)
              refine lv_goto (tgt := 67) hx hb dX10_when_60 (by decide) ?_
              refine lv_iinc (v := 61) (lv' := [(3, .int 61), (0, .ref p0), (1, .int p1), (2, .int p2)]) hx hb dX10_when_67 hl (k := 0) rfl (by decide) (by decide) rfl (fun ls hl => ?_)
              refine lv_goto (tgt := 29) hx hb dX10_when_70 (by decide) ?_
              exact ih29 61 z0_0 ws _ _ ls (by have q0 := rl_61.1; have u0 := rl_61.2; have o0 := r_x3.1; have p0 := r_x3.2; omega) r_p1 r_p2 (rl_61.to (by decide)) r_z0_0 m_z0_0 hw (lv_sub hl [1, 2, 3, 0] rfl)
  refine lv_aload_n hx hb dX10_when_0 rfl (lv_at hl 0 rfl) ?_
  refine lv_iconst (v := 0) hx hb dX10_when_1 (by decide) ?_
  refine tg_put (ci := 10) (ts := ty_MODEL) (v := .int 0) (ty := .int) (C := RX10) (T := TX10) (N := 49) hx hb hts inX10 tyX10 tyX10_ok nmX10 hown hK hw h_p0 rfl rfl 0 (by decide) (hts _ tw_1137) (fun _ h9 => h9) rfl (by decide +kernel) rfl rfl (ft := vI (-2147483648) 2147483647) rfl ⟨_, rfl, (rl_0.to (by decide))⟩ (by decide) dX10_when_2 (fun ws H locs hw n_k_11 hF9 => ?_)
  refine lv_aload_n hx hb dX10_when_5 rfl (lv_at hl 0 rfl) ?_
  refine lv_iload_n hx hb dX10_when_6 rfl (lv_at hl 1 rfl) ?_
  refine tk_ir (va_runV (As := [.int p1]) (rest := []) ⟨hx, hb, hml, hown, hts⟩ (c_X10_isParcel l D cy z H.size Ps ws hw.1 p0 p1 h_p0 r_p1) (cwV 1 hts (gV tw_1429 tw_1431 ts_65 tw_15 tw_1432) rfl rfl rfl (by decide +kernel) ⟨Nat.le_of_ble_eq_true rfl, Nat.le_of_ble_eq_true rfl⟩) (tg_preV hw hK hSD hA (ci := 10) (q := (RX10, TX10, 49)) rfl h_p0 rfl) rfl rfl hl.1 rfl (lv_room (Nat.le_of_ble_eq_true rfl)) dX10_when_7 ⟨Nat.le_of_ble_eq_true rfl, Nat.le_of_ble_eq_true rfl⟩) hw hA (fun v_12  H locs hp_v_12 hw => ?_)
  have r_v_12 : RI v_12 0 1 := hp_v_12.1
  refine lv_if_eq (tgt := 21) hx hb dX10_when_10 (by decide) (fun c_10 => ?_) (fun c_10 => ?_)
  · have r_v_12 : RI v_12 0 0 := rc_eq1 r_v_12 rl_0 (ti_eq c_10) (by decide)
    refine lv_iconst (v := (-1)) hx hb dX10_when_21 (by decide) ?_
    subst hQ
    exact W.iret (v := (-1)) hx hb hr (fun t ht hW => ⟨⟨(-1), ws, rfl, ⟨⟨rl_m1.to (by decide), (fun _ => trivial), (fun h0 => trivial)⟩, hw.1, hw.2.2.2.2.1⟩, by rw [ht]; exact hw.2.1, va_K.moved hW.alike hK, hw.2.2.1⟩, hw.2.2.2.1.F ht⟩) hw.2.2.2.1.2.2 dX10_when_22
  · have r_v_12 : RI v_12 1 1 := rc_neL r_v_12 rl_0 (ti_ne c_10) (by decide)
    have r_p1 : RI p1 0 5 := ((hp_v_12.2.2 c_10).1)
    refine lv_aload_n hx hb dX10_when_13 rfl (lv_at hl 0 rfl) ?_
    refine lv_iload_n hx hb dX10_when_14 rfl (lv_at hl 2 rfl) ?_
    refine tk_ir (va_runV (As := [.int p2]) (rest := []) ⟨hx, hb, hml, hown, hts⟩ (c_X10_isIdea l D cy z H.size Ps ws hw.1 p0 p2 h_p0 r_p2) (cwV 1 hts (gV tw_1433 tw_1435 ts_66 tw_15 tw_1436) rfl rfl rfl (by decide +kernel) ⟨Nat.le_of_ble_eq_true rfl, Nat.le_of_ble_eq_true rfl⟩) (tg_preV hw hK hSD hA (ci := 10) (q := (RX10, TX10, 49)) rfl h_p0 rfl) rfl rfl hl.1 rfl (lv_room (Nat.le_of_ble_eq_true rfl)) dX10_when_15 ⟨Nat.le_of_ble_eq_true rfl, Nat.le_of_ble_eq_true rfl⟩) hw hA (fun v_13  H locs hp_v_13 hw => ?_)
    have r_v_13 : RI v_13 0 1 := hp_v_13.1
    refine lv_if_ne (tgt := 23) hx hb dX10_when_18 (by decide) (fun c_18 => ?_) (fun c_18 => ?_)
    · have r_v_13 : RI v_13 1 1 := rc_neL r_v_13 rl_0 (ti_ne c_18) (by decide)
      have r_p2 : RI p2 0 5 := ((hp_v_13.2.2 c_18).1)
      refine lv_aload_n hx hb dX10_when_23 rfl (lv_at hl 0 rfl) ?_
      refine tk_v (va_runV (As := []) (rest := []) ⟨hx, hb, hml, hown, hts⟩ (c_X10_layAside l D cy z H.size Ps ws hw.1 p0 h_p0) (cwV 0 hts (gV tw_1583 tw_1585 ts_88 tw_15 tw_1586) rfl rfl rfl (by decide +kernel) ⟨Nat.le_of_ble_eq_true rfl, Nat.le_of_ble_eq_true rfl⟩) (tg_preV hw hK hSD hA (ci := 10) (q := (RX10, TX10, 49)) rfl h_p0 rfl) rfl rfl hl.1 rfl (lv_room (Nat.le_of_ble_eq_true rfl)) dX10_when_24 ⟨Nat.le_of_ble_eq_true rfl, Nat.le_of_ble_eq_true rfl⟩) hw hA ⟨by decide, by decide⟩ (fun ws H locs hp_v_14 hw hF9 => ?_)
      have n_k_11 := FLD.over hF9 n_k_11 (by decide)
      refine lv_iconst (v := 0) hx hb dX10_when_27 (by decide) ?_
      refine lv_istore_n (lv' := [(3, .int 0), (0, .ref p0), (1, .int p1), (2, .int p2)]) hx hb dX10_when_28 rfl hl (by decide) rfl (fun ls hl => ?_)
      exact B29 4294967298 0 0 ws _ _ ls (by have q0 := rl_0.1; have u0 := rl_0.2; omega) r_p1 r_p2 (rl_0.to (by decide)) rl_0 n_k_11 hw (lv_sub hl [1, 2, 3, 0] rfl)
    · have r_v_13 : RI v_13 0 0 := rc_eq1 r_v_13 rl_0 (ti_eq c_18) (by decide)
      refine lv_iconst (v := (-1)) hx hb dX10_when_21 (by decide) ?_
      subst hQ
      exact W.iret (v := (-1)) hx hb hr (fun t ht hW => ⟨⟨(-1), ws, rfl, ⟨⟨rl_m1.to (by decide), (fun _ => trivial), (fun h0 => trivial)⟩, hw.1, hw.2.2.2.2.1⟩, by rw [ht]; exact hw.2.1, va_K.moved hW.alike hK, hw.2.2.1⟩, hw.2.2.2.1.F ht⟩) hw.2.2.2.1.2.2 dX10_when_22
abbrev wr_X10_why__5 : List (Nat × Nat) := []
abbrev wa_X10_why__5 : List Nat := []
set_option maxHeartbeats 4000000 in
set_option maxRecDepth 100000 in
theorem c_X10_why__5 (l : Launch) (D : va_G) (cy : Nat → ClassId) (z : Nat → Nat) (sz : Nat) (Ps : PSI) (w0 : va_W) (hT : HT cy GG Ps w0) (p0 : Nat) (p1 : Int32) (p2 : Int32) (p3 : Int32) (h_p0 : (p0, 55) ∈ Ps) (r_p1 : RI p1 2 2) (r_p2 : RI p2 0 7) (r_p3 : RI p3 0 5) : Met l yX10_why (Cond.code yX10_why cX10_why 4 (some .int) :: gT) ({ frames := 0, cells := 0, slots := 0, locals := 200 } : Room) (va_Pc [.ref p0, .int p1, .int p2, .int p3] (PRE D cy z w0 sz)) (va_Qi (fun (r : Int32) (u : Unit) => RI r 0 1 ∧ (r = 0 → True) ∧ (¬ r = 0 → True)) (BB D cy (va_A w0 sz) (fun (u : Unit) => w0)) (va_A w0 sz)) 0 0 (va_A w0 sz) := by
  refine Met.ofW (cc := cX10_why) (maxL := 4) (ret := (some .int)) (by decide) rfl ?_
  intro p e s m args below meth c s₁ B hml hv
  obtain ⟨rfl, hsz, hP, hK, hD0, hSD⟩ := hv
  have hx := B.exec
  have hb := B.bytes
  have hr := B.returns
  have hlocks := B.notSynchronized
  have hts : ∀ w ∈ gT, w.before _ s = true := fun w h => atoms_spec (ws := Cond.code yX10_why cX10_why 4 (some .int) :: gT) B.pre w (List.mem_cons_of_mem _ h)
  have hown : s.vm.findClass RX10 = some m.cls := findClass_of_methodNamed B.named
  subst hsz
  have hD := hD0.self (sz := s.heap.size)
  generalize hAe : va_A w0 s.heap.size = A at hD hSD ⊢
  have hA : ∀ q : Nat, s.heap.size ≤ q → A q := fun q h => by rw [← hAe]; exact Or.inr h
  have hl := lv_entry ([.ref p0, .int p1, .int p2, .int p3]) (n := 4) (Nat.le_of_ble_eq_true rfl)
  rw [lg_entry_eq]
  generalize (lg_sl ([.ref p0, .int p1, .int p2, .int p3]) ++ List.replicate (4 - (lg_sl ([.ref p0, .int p1, .int p2, .int p3])).length) Slot.unset).toArray = ls at hl ⊢
  have hl : lv_has ls 4 [(0, .ref p0), (1, .int p1), (2, .int p2), (3, .int p3)] := hl
  refine nameQ (fun Q hQ => ?_)
  have hw : WD D cy GG A s wr_X10_why__5 wa_X10_why__5 Ps w0 Ps w0 s.heap [] := ⟨hT, hP, hD, va_S.rf, FR.rf, hT.1, [], (List.append_nil _).symm⟩
  refine lv_iload_n hx hb dX10_why_0 rfl (lv_at hl 1 rfl) ?_
  have w_1 := r_p1
  by_cases cl_1 : p1.toInt < 0 ∨ 4 < p1.toInt
  · refine lv_tableOut (tgt := 146) hx hb dX10_why_1 cl_1 (by decide) ?_
    exact absurd cl_1 (by unfold RI at w_1; omega)
  · have e_1 : p1.toInt = 0 ∨ p1.toInt = 1 ∨ p1.toInt = 2 ∨ p1.toInt = 3 ∨ p1.toInt = 4 := by omega
    rcases e_1 with h_1 | h_1 | h_1 | h_1 | h_1
    · exact absurd h_1 (by unfold RI at w_1; omega)
    · exact absurd h_1 (by unfold RI at w_1; omega)
    · refine lv_tableIn (tgt := 74) (off := 73) hx hb dX10_why_1 (by omega) (by omega) (by rw [h_1]; rfl) (by decide) ?_
      have r_p1 : RI p1 2 2 := ⟨by omega, by omega⟩
      refine lv_aload_n hx hb dX10_why_74 rfl (lv_at hl 0 rfl) ?_
      refine tg_get (ci := 10) (ts := ty_MODEL) (C := RX10) (T := TX10) (N := 49) hx hb hts inX10 hown hK hw h_p0 rfl rfl 14 (by decide) (hts _ tw_1151) (fun _ h9 => h9) (ft := vR 34) rfl dX10_why_75 (fun u_1 hv_u_1 m_u_1 => ?_)
      obtain ⟨vu_1, rfl, h_vu_1⟩ := hv_u_1
      refine lv_bipush (v := 104) hx hb dX10_why_78 (by decide) ?_
      refine lv_iload_n hx hb dX10_why_80 rfl (lv_at hl 2 rfl) ?_
      refine lv_iadd hx hb dX10_why_81 (lv_topi (fun v_2 e_v_2 => ?_))
      obtain ⟨t_v_2, r_v_2⟩ := tq_add (lo := 104) (hi := 111) rl_104 r_p2 (by decide +kernel) e_v_2
      have t_v_2 : v_2.toInt = 104 + p2.toInt := t_v_2
      refine tg_iald (lo := 0) (hi := 5) hx hb hK hw h_vu_1 rfl 104 111 r_v_2 (by decide) (by decide +kernel) dX10_why_82 (fun v_3 r_v_3 m_v_3 o_v_3 => ?_)
      refine lv_iload_n hx hb dX10_why_83 rfl (lv_at hl 3 rfl) ?_
      refine lv_icmp_ne (tgt := 91) hx hb dX10_why_84 (by decide) (fun c_84 => ?_) (fun c_84 => ?_)
      · refine lv_iconst (v := 0) hx hb dX10_why_91 (by decide) ?_
        subst hQ
        exact W.iret (v := 0) hx hb hr (fun t ht hW => ⟨⟨0, (), rfl, ⟨rl_0.to (by decide), (fun h0 => trivial), (fun _ => trivial)⟩, by rw [ht]; exact hw.2.1, va_K.moved hW.alike hK, hw.2.2.1⟩, hw.2.2.2.1.F ht⟩) hw.2.2.2.1.2.2 dX10_why_92
      · refine lv_iconst (v := 1) hx hb dX10_why_87 (by decide) ?_
        refine lv_goto (tgt := 92) hx hb dX10_why_88 (by decide) ?_
        subst hQ
        exact W.iret (v := 1) hx hb hr (fun t ht hW => ⟨⟨1, (), rfl, ⟨rl_1.to (by decide), (fun _ => trivial), (fun h0 => trivial)⟩, by rw [ht]; exact hw.2.1, va_K.moved hW.alike hK, hw.2.2.1⟩, hw.2.2.2.1.F ht⟩) hw.2.2.2.1.2.2 dX10_why_92
    · exact absurd h_1 (by unfold RI at w_1; omega)
    · exact absurd h_1 (by unfold RI at w_1; omega)
abbrev wr_X10_live__5 : List (Nat × Nat) := []
abbrev wa_X10_live__5 : List Nat := [34]
set_option maxHeartbeats 4000000 in
set_option maxRecDepth 100000 in
theorem c_X10_live__5 (l : Launch) (D : va_G) (cy : Nat → ClassId) (z : Nat → Nat) (sz : Nat) (Ps : PSI) (w0 : va_W) (hT : HT cy GG Ps w0) (p0 : Nat) (p1 : Int32) (p2 : Int32) (p3 : Int32) (h_p0 : (p0, 55) ∈ Ps) (r_p1 : RI p1 2 2) (r_p2 : RI p2 0 7) (r_p3 : RI p3 0 5) : Met l yX10_live (Cond.code yX10_live cX10_live 4 none :: gT) ({ frames := 0, cells := 0, slots := 0, locals := 200 } : Room) (va_Pc [.ref p0, .int p1, .int p2, .int p3] (PRE D cy z w0 sz)) (va_Qv (fun (u : va_W) => (True) ∧ HT cy GG Ps u ∧ FR wr_X10_live__5 wa_X10_live__5 Ps w0 u) (BB D cy (va_A w0 sz) (fun (u : va_W) => u)) (va_A w0 sz)) 0 0 (va_A w0 sz) := by
  refine Met.ofW (cc := cX10_live) (maxL := 4) (ret := none) (by decide) rfl ?_
  intro p e s m args below meth c s₁ B hml hv
  obtain ⟨rfl, hsz, hP, hK, hD0, hSD⟩ := hv
  have hx := B.exec
  have hb := B.bytes
  have hr := B.returns
  have hlocks := B.notSynchronized
  have hts : ∀ w ∈ gT, w.before _ s = true := fun w h => atoms_spec (ws := Cond.code yX10_live cX10_live 4 none :: gT) B.pre w (List.mem_cons_of_mem _ h)
  have hown : s.vm.findClass RX10 = some m.cls := findClass_of_methodNamed B.named
  subst hsz
  have hD := hD0.self (sz := s.heap.size)
  generalize hAe : va_A w0 s.heap.size = A at hD hSD ⊢
  have hA : ∀ q : Nat, s.heap.size ≤ q → A q := fun q h => by rw [← hAe]; exact Or.inr h
  have hl := lv_entry ([.ref p0, .int p1, .int p2, .int p3]) (n := 4) (Nat.le_of_ble_eq_true rfl)
  rw [lg_entry_eq]
  generalize (lg_sl ([.ref p0, .int p1, .int p2, .int p3]) ++ List.replicate (4 - (lg_sl ([.ref p0, .int p1, .int p2, .int p3])).length) Slot.unset).toArray = ls at hl ⊢
  have hl : lv_has ls 4 [(0, .ref p0), (1, .int p1), (2, .int p2), (3, .int p3)] := hl
  refine nameQ (fun Q hQ => ?_)
  have hw : WD D cy GG A s wr_X10_live__5 wa_X10_live__5 Ps w0 Ps w0 s.heap [] := ⟨hT, hP, hD, va_S.rf, FR.rf, hT.1, [], (List.append_nil _).symm⟩
  refine lv_iload_n hx hb dX10_live_0 rfl (lv_at hl 1 rfl) ?_
  have w_1 := r_p1
  by_cases cl_1 : p1.toInt < 0 ∨ 4 < p1.toInt
  · refine lv_tableOut (tgt := 90) hx hb dX10_live_1 cl_1 (by decide) ?_
    exact absurd cl_1 (by unfold RI at w_1; omega)
  · have e_1 : p1.toInt = 0 ∨ p1.toInt = 1 ∨ p1.toInt = 2 ∨ p1.toInt = 3 ∨ p1.toInt = 4 := by omega
    rcases e_1 with h_1 | h_1 | h_1 | h_1 | h_1
    · exact absurd h_1 (by unfold RI at w_1; omega)
    · exact absurd h_1 (by unfold RI at w_1; omega)
    · refine lv_tableIn (tgt := 58) (off := 57) hx hb dX10_live_1 (by omega) (by omega) (by rw [h_1]; rfl) (by decide) ?_
      have r_p1 : RI p1 2 2 := ⟨by omega, by omega⟩
      refine lv_aload_n hx hb dX10_live_58 rfl (lv_at hl 0 rfl) ?_
      refine tg_get (ci := 10) (ts := ty_MODEL) (C := RX10) (T := TX10) (N := 49) hx hb hts inX10 hown hK hw h_p0 rfl rfl 14 (by decide) (hts _ tw_1151) (fun _ h9 => h9) (ft := vR 34) rfl dX10_live_59 (fun u_1 hv_u_1 m_u_1 => ?_)
      obtain ⟨vu_1, rfl, h_vu_1⟩ := hv_u_1
      refine lv_bipush (v := 104) hx hb dX10_live_62 (by decide) ?_
      refine lv_iload_n hx hb dX10_live_64 rfl (lv_at hl 2 rfl) ?_
      refine lv_iadd hx hb dX10_live_65 (lv_topi (fun v_2 e_v_2 => ?_))
      obtain ⟨t_v_2, r_v_2⟩ := tq_add (lo := 104) (hi := 111) rl_104 r_p2 (by decide +kernel) e_v_2
      have t_v_2 : v_2.toInt = 104 + p2.toInt := t_v_2
      refine lv_iload_n hx hb dX10_live_66 rfl (lv_at hl 3 rfl) ?_
      refine tg_iast hx hb hK hw h_vu_1 rfl 104 111 r_v_2 (by decide) r_p3 (by decide +kernel) (RN_upd (by decide) (by decide)) (by decide) dX10_live_67 (fun ws H locs hw hF9 hU9 => ?_)
      subst hQ
      exact W.vret hx hb hr (fun t ht hW => ⟨⟨ws, rfl, ⟨trivial, hw.1, hw.2.2.2.2.1⟩, by rw [ht]; exact hw.2.1, va_K.moved hW.alike hK, hw.2.2.1⟩, hw.2.2.2.1.F ht⟩) hw.2.2.2.1.2.2 dX10_live_68
    · exact absurd h_1 (by unfold RI at w_1; omega)
    · exact absurd h_1 (by unfold RI at w_1; omega)
abbrev wr_X10_act__5 : List (Nat × Nat) := [(10, 25)]
abbrev wa_X10_act__5 : List Nat := [34, 37]
set_option maxHeartbeats 4000000 in
set_option maxRecDepth 100000 in
theorem c_X10_act__5 (l : Launch) (D : va_G) (cy : Nat → ClassId) (z : Nat → Nat) (sz : Nat) (Ps : PSI) (w0 : va_W) (hT : HT cy GG Ps w0) (p0 : Nat) (p1 : Int32) (p2 : Int32) (p3 : Int32) (h_p0 : (p0, 55) ∈ Ps) (r_p1 : RI p1 2 2) (r_p2 : RI p2 0 7) (r_p3 : RI p3 0 5) : Met l yX10_act (Cond.code yX10_act cX10_act 5 (some .int) :: gT) ({ frames := 2, cells := 0, slots := 0, locals := 400 } : Room) (va_Pc [.ref p0, .int p1, .int p2, .int p3] (PRE D cy z w0 sz)) (va_Qi (fun (r : Int32) (u : va_W) => (RI r 0 1 ∧ (r = 0 → (∃ v9 : Int32, FLD u p0 10 25 (.int v9) ∧ RI v9 1 8) ∧ True) ∧ (¬ r = 0 → True)) ∧ HT cy GG Ps u ∧ FR wr_X10_act__5 wa_X10_act__5 Ps w0 u) (BB D cy (va_A w0 sz) (fun (u : va_W) => u)) (va_A w0 sz)) 0 0 (va_A w0 sz) := by
  refine Met.ofW (cc := cX10_act) (maxL := 5) (ret := (some .int)) (by decide) rfl ?_
  intro p e s m args below meth c s₁ B hml hv
  obtain ⟨rfl, hsz, hP, hK, hD0, hSD⟩ := hv
  have hx := B.exec
  have hb := B.bytes
  have hr := B.returns
  have hlocks := B.notSynchronized
  have hts : ∀ w ∈ gT, w.before _ s = true := fun w h => atoms_spec (ws := Cond.code yX10_act cX10_act 5 (some .int) :: gT) B.pre w (List.mem_cons_of_mem _ h)
  have hown : s.vm.findClass RX10 = some m.cls := findClass_of_methodNamed B.named
  subst hsz
  have hD := hD0.self (sz := s.heap.size)
  generalize hAe : va_A w0 s.heap.size = A at hD hSD ⊢
  have hA : ∀ q : Nat, s.heap.size ≤ q → A q := fun q h => by rw [← hAe]; exact Or.inr h
  have hl := lv_entry ([.ref p0, .int p1, .int p2, .int p3]) (n := 5) (Nat.le_of_ble_eq_true rfl)
  rw [lg_entry_eq]
  generalize (lg_sl ([.ref p0, .int p1, .int p2, .int p3]) ++ List.replicate (5 - (lg_sl ([.ref p0, .int p1, .int p2, .int p3])).length) Slot.unset).toArray = ls at hl ⊢
  have hl : lv_has ls 5 [(0, .ref p0), (1, .int p1), (2, .int p2), (3, .int p3)] := hl
  refine nameQ (fun Q hQ => ?_)
  have hw : WD D cy GG A s wr_X10_act__5 wa_X10_act__5 Ps w0 Ps w0 s.heap [] := ⟨hT, hP, hD, va_S.rf, FR.rf, hT.1, [], (List.append_nil _).symm⟩
  refine lv_aload_n hx hb dX10_act_0 rfl (lv_at hl 0 rfl) ?_
  refine lv_iload_n hx hb dX10_act_1 rfl (lv_at hl 1 rfl) ?_
  refine lv_iload_n hx hb dX10_act_2 rfl (lv_at hl 2 rfl) ?_
  refine lv_iload_n hx hb dX10_act_3 rfl (lv_at hl 3 rfl) ?_
  refine tk_ir (va_runV (As := [.int p1, .int p2, .int p3]) (rest := []) ⟨hx, hb, hml, hown, hts⟩ (c_X10_why__5 l D cy z s.heap.size Ps w0 hw.1 p0 p1 p2 p3 h_p0 r_p1 r_p2 r_p3) (cwV 3 hts (gV tw_1501 tw_1503 ts_77 tw_15 tw_1504) rfl rfl rfl (by decide +kernel) ⟨Nat.le_of_ble_eq_true rfl, Nat.le_of_ble_eq_true rfl⟩) (tg_preV hw hK hSD hA (ci := 10) (q := (RX10, TX10, 49)) rfl h_p0 rfl) rfl rfl hl.1 rfl (lv_room (Nat.le_of_ble_eq_true rfl)) dX10_act_4 ⟨Nat.le_of_ble_eq_true rfl, Nat.le_of_ble_eq_true rfl⟩) hw hA (fun v_1  H locs hp_v_1 hw => ?_)
  have r_v_1 : RI v_1 0 1 := hp_v_1.1
  refine lv_istore (lv' := [(4, .int v_1), (0, .ref p0), (1, .int p1), (2, .int p2), (3, .int p3)]) hx hb dX10_act_7 hl (by decide) rfl (fun ls hl => ?_)
  refine lv_iload hx hb dX10_act_9 (lv_at hl 0 rfl) ?_
  refine lv_if_eq (tgt := 17) hx hb dX10_act_11 (by decide) (fun c_11 => ?_) (fun c_11 => ?_)
  · have r_v_1 : RI v_1 0 0 := rc_eq1 r_v_1 rl_0 (ti_eq c_11) (by decide)
    refine lv_aload_n hx hb dX10_act_17 rfl (lv_at hl 1 rfl) ?_
    refine tk_v (va_runV (As := []) (rest := []) ⟨hx, hb, hml, hown, hts⟩ (c_X10_snap l D cy z H.size Ps w0 hw.1 p0 h_p0) (cwV 0 hts (gV tw_1505 tw_1507 ts_78 tw_15 tw_1508) rfl rfl rfl (by decide +kernel) ⟨Nat.le_of_ble_eq_true rfl, Nat.le_of_ble_eq_true rfl⟩) (tg_preV hw hK hSD hA (ci := 10) (q := (RX10, TX10, 49)) rfl h_p0 rfl) rfl rfl hl.1 rfl (lv_room (Nat.le_of_ble_eq_true rfl)) dX10_act_18 ⟨Nat.le_of_ble_eq_true rfl, Nat.le_of_ble_eq_true rfl⟩) hw hA ⟨by decide, by decide⟩ (fun ws H locs hp_v_2 hw hF9 => ?_)
    obtain ⟨v_3, m_v_3, r_v_3⟩ := (hp_v_2.1)
    refine lv_aload_n hx hb dX10_act_21 rfl (lv_at hl 1 rfl) ?_
    refine lv_iload_n hx hb dX10_act_22 rfl (lv_at hl 2 rfl) ?_
    refine lv_iload_n hx hb dX10_act_23 rfl (lv_at hl 3 rfl) ?_
    refine lv_iload_n hx hb dX10_act_24 rfl (lv_at hl 4 rfl) ?_
    refine tk_v (va_runV (As := [.int p1, .int p2, .int p3]) (rest := []) ⟨hx, hb, hml, hown, hts⟩ (c_X10_live__5 l D cy z H.size Ps ws hw.1 p0 p1 p2 p3 h_p0 r_p1 r_p2 r_p3) (cwV 3 hts (gV tw_1509 tw_1511 ts_79 tw_15 tw_1512) rfl rfl rfl (by decide +kernel) ⟨Nat.le_of_ble_eq_true rfl, Nat.le_of_ble_eq_true rfl⟩) (tg_preV hw hK hSD hA (ci := 10) (q := (RX10, TX10, 49)) rfl h_p0 rfl) rfl rfl hl.1 rfl (lv_room (Nat.le_of_ble_eq_true rfl)) dX10_act_25 ⟨Nat.le_of_ble_eq_true rfl, Nat.le_of_ble_eq_true rfl⟩) hw hA ⟨by decide, by decide⟩ (fun ws H locs hp_v_4 hw hF9 => ?_)
    have m_v_3 := FLD.over hF9 m_v_3 (by decide)
    refine lv_iconst (v := 0) hx hb dX10_act_28 (by decide) ?_
    subst hQ
    exact W.iret (v := 0) hx hb hr (fun t ht hW => ⟨⟨0, ws, rfl, ⟨⟨rl_0.to (by decide), (fun h0 => ⟨⟨_, m_v_3, r_v_3⟩, trivial⟩), (fun _ => trivial)⟩, hw.1, hw.2.2.2.2.1⟩, by rw [ht]; exact hw.2.1, va_K.moved hW.alike hK, hw.2.2.1⟩, hw.2.2.2.1.F ht⟩) hw.2.2.2.1.2.2 dX10_act_29
  · have r_v_1 : RI v_1 1 1 := rc_neL r_v_1 rl_0 (ti_ne c_11) (by decide)
    refine lv_iload hx hb dX10_act_14 (lv_at hl 0 rfl) ?_
    subst hQ
    exact W.iret (v := v_1) hx hb hr (fun t ht hW => ⟨⟨v_1, w0, rfl, ⟨⟨r_v_1.to (by decide), (fun h0 => absurd (ti_eq h0) (by have h8 := r_v_1; unfold RI at h8; rw [Int32.toInt_zero]; omega)), (fun h0 => trivial)⟩, hw.1, hw.2.2.2.2.1⟩, by rw [ht]; exact hw.2.1, va_K.moved hW.alike hK, hw.2.2.1⟩, hw.2.2.2.1.F ht⟩) hw.2.2.2.1.2.2 dX10_act_16
abbrev wr_X10_wish : List (Nat × Nat) := [(10, 0), (10, 25)]
abbrev wa_X10_wish : List Nat := [34, 37]
set_option maxHeartbeats 4000000 in
set_option maxRecDepth 100000 in
theorem c_X10_wish (l : Launch) (D : va_G) (cy : Nat → ClassId) (z : Nat → Nat) (sz : Nat) (Ps : PSI) (w0 : va_W) (hT : HT cy GG Ps w0) (p0 : Nat) (p1 : Int32) (p2 : Int32) (h_p0 : (p0, 55) ∈ Ps) (r_p1 : RI p1 (-2147483648) 2147483647) (r_p2 : RI p2 (-2147483648) 2147483647) : Met l yX10_wish (Cond.code yX10_wish cX10_wish 3 (some .int) :: gT) ({ frames := 3, cells := 0, slots := 0, locals := 600 } : Room) (va_Pc [.ref p0, .int p1, .int p2] (PRE D cy z w0 sz)) (va_Qi (fun (r : Int32) (u : va_W) => (RI r (-1) 1 ∧ (r = 0 → True) ∧ (¬ r = 0 → True)) ∧ HT cy GG Ps u ∧ FR wr_X10_wish wa_X10_wish Ps w0 u) (BB D cy (va_A w0 sz) (fun (u : va_W) => u)) (va_A w0 sz)) 0 0 (va_A w0 sz) := by
  refine Met.ofW (cc := cX10_wish) (maxL := 3) (ret := (some .int)) (by decide) rfl ?_
  intro p e s m args below meth c s₁ B hml hv
  obtain ⟨rfl, hsz, hP, hK, hD0, hSD⟩ := hv
  have hx := B.exec
  have hb := B.bytes
  have hr := B.returns
  have hlocks := B.notSynchronized
  have hts : ∀ w ∈ gT, w.before _ s = true := fun w h => atoms_spec (ws := Cond.code yX10_wish cX10_wish 3 (some .int) :: gT) B.pre w (List.mem_cons_of_mem _ h)
  have hown : s.vm.findClass RX10 = some m.cls := findClass_of_methodNamed B.named
  subst hsz
  have hD := hD0.self (sz := s.heap.size)
  generalize hAe : va_A w0 s.heap.size = A at hD hSD ⊢
  have hA : ∀ q : Nat, s.heap.size ≤ q → A q := fun q h => by rw [← hAe]; exact Or.inr h
  have hl := lv_entry ([.ref p0, .int p1, .int p2]) (n := 3) (Nat.le_of_ble_eq_true rfl)
  rw [lg_entry_eq]
  generalize (lg_sl ([.ref p0, .int p1, .int p2]) ++ List.replicate (3 - (lg_sl ([.ref p0, .int p1, .int p2])).length) Slot.unset).toArray = ls at hl ⊢
  have hl : lv_has ls 3 [(0, .ref p0), (1, .int p1), (2, .int p2)] := hl
  refine nameQ (fun Q hQ => ?_)
  have hw : WD D cy GG A s wr_X10_wish wa_X10_wish Ps w0 Ps w0 s.heap [] := ⟨hT, hP, hD, va_S.rf, FR.rf, hT.1, [], (List.append_nil _).symm⟩
  refine lv_aload_n hx hb dX10_wish_0 rfl (lv_at hl 0 rfl) ?_
  refine lv_iconst (v := 0) hx hb dX10_wish_1 (by decide) ?_
  refine tg_put (ci := 10) (ts := ty_MODEL) (v := .int 0) (ty := .int) (C := RX10) (T := TX10) (N := 49) hx hb hts inX10 tyX10 tyX10_ok nmX10 hown hK hw h_p0 rfl rfl 0 (by decide) (hts _ tw_1137) (fun _ h9 => h9) rfl (by decide +kernel) rfl rfl (ft := vI (-2147483648) 2147483647) rfl ⟨_, rfl, (rl_0.to (by decide))⟩ (by decide) dX10_wish_2 (fun ws H locs hw n_k_1 hF9 => ?_)
  refine lv_aload_n hx hb dX10_wish_5 rfl (lv_at hl 0 rfl) ?_
  refine lv_iload_n hx hb dX10_wish_6 rfl (lv_at hl 1 rfl) ?_
  refine tk_ir (va_runV (As := [.int p1]) (rest := []) ⟨hx, hb, hml, hown, hts⟩ (c_X10_isPerson l D cy z H.size Ps ws hw.1 p0 p1 h_p0 r_p1) (cwV 1 hts (gV tw_1469 tw_1471 ts_73 tw_15 tw_1472) rfl rfl rfl (by decide +kernel) ⟨Nat.le_of_ble_eq_true rfl, Nat.le_of_ble_eq_true rfl⟩) (tg_preV hw hK hSD hA (ci := 10) (q := (RX10, TX10, 49)) rfl h_p0 rfl) rfl rfl hl.1 rfl (lv_room (Nat.le_of_ble_eq_true rfl)) dX10_wish_7 ⟨Nat.le_of_ble_eq_true rfl, Nat.le_of_ble_eq_true rfl⟩) hw hA (fun v_2  H locs hp_v_2 hw => ?_)
  have r_v_2 : RI v_2 0 1 := hp_v_2.1
  refine lv_if_eq (tgt := 31) hx hb dX10_wish_10 (by decide) (fun c_10 => ?_) (fun c_10 => ?_)
  · have r_v_2 : RI v_2 0 0 := rc_eq1 r_v_2 rl_0 (ti_eq c_10) (by decide)
    refine lv_iconst (v := (-1)) hx hb dX10_wish_31 (by decide) ?_
    subst hQ
    exact W.iret (v := (-1)) hx hb hr (fun t ht hW => ⟨⟨(-1), ws, rfl, ⟨⟨rl_m1.to (by decide), (fun _ => trivial), (fun h0 => trivial)⟩, hw.1, hw.2.2.2.2.1⟩, by rw [ht]; exact hw.2.1, va_K.moved hW.alike hK, hw.2.2.1⟩, hw.2.2.2.1.F ht⟩) hw.2.2.2.1.2.2 dX10_wish_32
  · have r_v_2 : RI v_2 1 1 := rc_neL r_v_2 rl_0 (ti_ne c_10) (by decide)
    have r_p1 : RI p1 0 7 := ((hp_v_2.2.2 c_10).1)
    refine lv_aload_n hx hb dX10_wish_13 rfl (lv_at hl 0 rfl) ?_
    refine lv_iload_n hx hb dX10_wish_14 rfl (lv_at hl 2 rfl) ?_
    refine tk_ir (va_runV (As := [.int p2]) (rest := []) ⟨hx, hb, hml, hown, hts⟩ (c_X10_isIdea l D cy z H.size Ps ws hw.1 p0 p2 h_p0 r_p2) (cwV 1 hts (gV tw_1433 tw_1435 ts_66 tw_15 tw_1436) rfl rfl rfl (by decide +kernel) ⟨Nat.le_of_ble_eq_true rfl, Nat.le_of_ble_eq_true rfl⟩) (tg_preV hw hK hSD hA (ci := 10) (q := (RX10, TX10, 49)) rfl h_p0 rfl) rfl rfl hl.1 rfl (lv_room (Nat.le_of_ble_eq_true rfl)) dX10_wish_15 ⟨Nat.le_of_ble_eq_true rfl, Nat.le_of_ble_eq_true rfl⟩) hw hA (fun v_3  H locs hp_v_3 hw => ?_)
    have r_v_3 : RI v_3 0 1 := hp_v_3.1
    refine lv_if_eq (tgt := 31) hx hb dX10_wish_18 (by decide) (fun c_18 => ?_) (fun c_18 => ?_)
    · have r_v_3 : RI v_3 0 0 := rc_eq1 r_v_3 rl_0 (ti_eq c_18) (by decide)
      refine lv_iconst (v := (-1)) hx hb dX10_wish_31 (by decide) ?_
      subst hQ
      exact W.iret (v := (-1)) hx hb hr (fun t ht hW => ⟨⟨(-1), ws, rfl, ⟨⟨rl_m1.to (by decide), (fun _ => trivial), (fun h0 => trivial)⟩, hw.1, hw.2.2.2.2.1⟩, by rw [ht]; exact hw.2.1, va_K.moved hW.alike hK, hw.2.2.1⟩, hw.2.2.2.1.F ht⟩) hw.2.2.2.1.2.2 dX10_wish_32
    · have r_v_3 : RI v_3 1 1 := rc_neL r_v_3 rl_0 (ti_ne c_18) (by decide)
      have r_p2 : RI p2 0 5 := ((hp_v_3.2.2 c_18).1)
      refine lv_aload_n hx hb dX10_wish_21 rfl (lv_at hl 0 rfl) ?_
      refine lv_iconst (v := 2) hx hb dX10_wish_22 (by decide) ?_
      refine lv_iload_n hx hb dX10_wish_23 rfl (lv_at hl 1 rfl) ?_
      refine lv_iload_n hx hb dX10_wish_24 rfl (lv_at hl 2 rfl) ?_
      refine tk_i (va_runV (As := [.int 2, .int p1, .int p2]) (rest := []) ⟨hx, hb, hml, hown, hts⟩ (c_X10_act__5 l D cy z H.size Ps ws hw.1 p0 2 p1 p2 h_p0 rl_2 r_p1 r_p2) (cwV 3 hts (gV tw_1497 tw_1499 ts_76 tw_15 tw_1500) rfl rfl rfl (by decide +kernel) ⟨Nat.le_of_ble_eq_true rfl, Nat.le_of_ble_eq_true rfl⟩) (tg_preV hw hK hSD hA (ci := 10) (q := (RX10, TX10, 49)) rfl h_p0 rfl) rfl rfl hl.1 rfl (lv_room (Nat.le_of_ble_eq_true rfl)) dX10_wish_25 ⟨Nat.le_of_ble_eq_true rfl, Nat.le_of_ble_eq_true rfl⟩) hw hA ⟨by decide, by decide⟩ (fun v_4 ws H locs hp_v_4 hw hF9 => ?_)
      have n_k_1 := FLD.over hF9 n_k_1 (by decide)
      have r_v_4 : RI v_4 0 1 := hp_v_4.1
      by_cases c9_v_4 : v_4 = 0
      · have r_v_4 : RI v_4 0 0 := by rw [c9_v_4]; exact rl_0
        obtain ⟨v_5, m_v_5, r_v_5⟩ := ((hp_v_4.2.1 c9_v_4).1)
        refine lv_goto (tgt := 32) hx hb dX10_wish_28 (by decide) ?_
        subst hQ
        exact W.iret (v := v_4) hx hb hr (fun t ht hW => ⟨⟨v_4, ws, rfl, ⟨⟨r_v_4.to (by decide), (fun h0 => trivial), (fun _ => trivial)⟩, hw.1, hw.2.2.2.2.1⟩, by rw [ht]; exact hw.2.1, va_K.moved hW.alike hK, hw.2.2.1⟩, hw.2.2.2.1.F ht⟩) hw.2.2.2.1.2.2 dX10_wish_32
      · have r_v_4 : RI v_4 1 1 := rc_neL r_v_4 rl_0 (ti_ne c9_v_4) (by decide)
        refine lv_goto (tgt := 32) hx hb dX10_wish_28 (by decide) ?_
        subst hQ
        exact W.iret (v := v_4) hx hb hr (fun t ht hW => ⟨⟨v_4, ws, rfl, ⟨⟨r_v_4.to (by decide), (fun _ => trivial), (fun h0 => trivial)⟩, hw.1, hw.2.2.2.2.1⟩, by rw [ht]; exact hw.2.1, va_K.moved hW.alike hK, hw.2.2.1⟩, hw.2.2.2.1.F ht⟩) hw.2.2.2.1.2.2 dX10_wish_32
