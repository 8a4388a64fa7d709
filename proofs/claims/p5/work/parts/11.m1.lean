abbrev wr_X8_has : List (Nat × Nat) := []
abbrev wa_X8_has : List Nat := []
set_option maxHeartbeats 4000000 in
set_option maxRecDepth 100000 in
theorem c_X8_has (l : Launch) (D : va_G) (cy : Nat → ClassId) (z : Nat → Nat) (sz : Nat) (Ps : PSI) (w0 : va_W) (hT : HT cy GG Ps w0) (p0 : Nat) (p1 : Int32) (p2 : Int32) (h_p0 : (p0, 24) ∈ Ps) (r_p1 : RI p1 0 5) (r_p2 : RI p2 0 5) : Met l yX8_has (Cond.code yX8_has cX8_has 3 (some .int) :: gT) ({ frames := 0, cells := 0, slots := 0, locals := 200 } : Room) (va_Pc [.ref p0, .int p1, .int p2] (PRE D cy z w0 sz)) (va_Qi (fun (r : Int32) (u : Unit) => RI r (-2147483648) 2147483647 ∧ (r = 0 → True) ∧ (¬ r = 0 → True)) (BB D cy (va_A w0 sz) (fun (u : Unit) => w0)) (va_A w0 sz)) 0 0 (va_A w0 sz) := by
  refine Met.ofW (cc := cX8_has) (maxL := 3) (ret := (some .int)) (by decide) rfl ?_
  intro p e s m args below meth c s₁ B hml hv
  obtain ⟨rfl, hsz, hP, hK, hD0, hSD⟩ := hv
  have hx := B.exec
  have hb := B.bytes
  have hr := B.returns
  have hlocks := B.notSynchronized
  have hts : ∀ w ∈ gT, w.before _ s = true := fun w h => atoms_spec (ws := Cond.code yX8_has cX8_has 3 (some .int) :: gT) B.pre w (List.mem_cons_of_mem _ h)
  have hown : s.vm.findClass RX8 = some m.cls := findClass_of_methodNamed B.named
  subst hsz
  have hD := hD0.self (sz := s.heap.size)
  generalize hAe : va_A w0 s.heap.size = A at hD hSD ⊢
  have hA : ∀ q : Nat, s.heap.size ≤ q → A q := fun q h => by rw [← hAe]; exact Or.inr h
  have hl := lv_entry ([.ref p0, .int p1, .int p2]) (n := 3) (Nat.le_of_ble_eq_true rfl)
  rw [lg_entry_eq]
  generalize (lg_sl ([.ref p0, .int p1, .int p2]) ++ List.replicate (3 - (lg_sl ([.ref p0, .int p1, .int p2])).length) Slot.unset).toArray = ls at hl ⊢
  have hl : lv_has ls 3 [(0, .ref p0), (1, .int p1), (2, .int p2)] := hl
  refine nameQ (fun Q hQ => ?_)
  have hw : WD D cy GG A s wr_X8_has wa_X8_has Ps w0 Ps w0 s.heap [] := ⟨hT, hP, hD, va_S.rf, FR.rf, hT.1, [], (List.append_nil _).symm⟩
  refine lv_aload_n hx hb dX8_has_0 rfl (lv_at hl 0 rfl) ?_
  refine tg_get (ci := 8) (ts := ty_WORLD) (C := RX8) (T := TX8) (N := 13) hx hb hts inX8 hown hK hw h_p0 rfl rfl 2 (by decide) (hts _ tw_252) (fun _ h9 => h9) (ft := vR 8) rfl dX8_has_1 (fun u_1 hv_u_1 m_u_1 => ?_)
  obtain ⟨vu_1, rfl, h_vu_1⟩ := hv_u_1
  refine lv_iload_n hx hb dX8_has_4 rfl (lv_at hl 1 rfl) ?_
  refine lv_bipush (v := 6) hx hb dX8_has_5 (by decide) ?_
  refine lv_imul hx hb dX8_has_7 (lv_topi (fun v_2 e_v_2 => ?_))
  obtain ⟨t_v_2, r_v_2⟩ := tq_mul (lo := 0) (hi := 30) r_p1 rl_6 (by decide +kernel) e_v_2
  have t_v_2 : v_2.toInt = p1.toInt * 6 := t_v_2
  refine lv_iload_n hx hb dX8_has_8 rfl (lv_at hl 2 rfl) ?_
  refine lv_iadd hx hb dX8_has_9 (lv_topi (fun v_3 e_v_3 => ?_))
  obtain ⟨t_v_3, r_v_3⟩ := tq_add (lo := 0) (hi := 35) r_v_2 r_p2 (by decide +kernel) e_v_3
  refine tg_iald (lo := (-2147483648)) (hi := 2147483647) hx hb hK hw h_vu_1 rfl 0 35 r_v_3 (by decide) (by exact fun _ _ _ => ⟨Int.le_refl _, Int.le_refl _⟩) dX8_has_10 (fun v_4 r_v_4 m_v_4 o_v_4 => ?_)
  subst hQ
  exact W.iret (v := v_4) hx hb hr (fun t ht hW => ⟨⟨v_4, (), rfl, ⟨r_v_4.to (by decide), (fun h0 => trivial), (fun h0 => trivial)⟩, by rw [ht]; exact hw.2.1, va_K.moved hW.alike hK, hw.2.2.1⟩, hw.2.2.2.1.F ht⟩) hw.2.2.2.1.2.2 dX8_has_11
abbrev wr_X8_sizeOf : List (Nat × Nat) := []
abbrev wa_X8_sizeOf : List Nat := []
set_option maxHeartbeats 4000000 in
set_option maxRecDepth 100000 in
theorem c_X8_sizeOf (l : Launch) (D : va_G) (cy : Nat → ClassId) (z : Nat → Nat) (sz : Nat) (Ps : PSI) (w0 : va_W) (hT : HT cy GG Ps w0) (p0 : Nat) (p1 : Int32) (h_p0 : (p0, 24) ∈ Ps) (r_p1 : RI p1 0 5) : Met l yX8_sizeOf (Cond.code yX8_sizeOf cX8_sizeOf 4 (some .int) :: gT) ({ frames := 2, cells := 0, slots := 0, locals := 400 } : Room) (va_Pc [.ref p0, .int p1] (PRE D cy z w0 sz)) (va_Qi (fun (r : Int32) (u : Unit) => RI r (-2147483648) 2147483647 ∧ (r = 0 → True) ∧ (¬ r = 0 → True)) (BB D cy (va_A w0 sz) (fun (u : Unit) => w0)) (va_A w0 sz)) 0 0 (va_A w0 sz) := by
  refine Met.ofW (cc := cX8_sizeOf) (maxL := 4) (ret := (some .int)) (by decide) rfl ?_
  intro p e s m args below meth c s₁ B hml hv
  obtain ⟨rfl, hsz, hP, hK, hD0, hSD⟩ := hv
  have hx := B.exec
  have hb := B.bytes
  have hr := B.returns
  have hlocks := B.notSynchronized
  have hts : ∀ w ∈ gT, w.before _ s = true := fun w h => atoms_spec (ws := Cond.code yX8_sizeOf cX8_sizeOf 4 (some .int) :: gT) B.pre w (List.mem_cons_of_mem _ h)
  have hown : s.vm.findClass RX8 = some m.cls := findClass_of_methodNamed B.named
  subst hsz
  have hD := hD0.self (sz := s.heap.size)
  generalize hAe : va_A w0 s.heap.size = A at hD hSD ⊢
  have hA : ∀ q : Nat, s.heap.size ≤ q → A q := fun q h => by rw [← hAe]; exact Or.inr h
  have hl := lv_entry ([.ref p0, .int p1]) (n := 4) (Nat.le_of_ble_eq_true rfl)
  rw [lg_entry_eq]
  generalize (lg_sl ([.ref p0, .int p1]) ++ List.replicate (4 - (lg_sl ([.ref p0, .int p1])).length) Slot.unset).toArray = ls at hl ⊢
  have hl : lv_has ls 4 [(0, .ref p0), (1, .int p1)] := hl
  refine nameQ (fun Q hQ => ?_)
  have hw : WD D cy GG A s wr_X8_sizeOf wa_X8_sizeOf Ps w0 Ps w0 s.heap [] := ⟨hT, hP, hD, va_S.rf, FR.rf, hT.1, [], (List.append_nil _).symm⟩
  have B4 : ∀ (nf : Nat) (x2 : Int32) (x3 : Int32) (H : Heap) (locs : List Loc) (ls : Array Slot), 6 - x3.toInt < (nf : Int) → RI p1 0 5 → RI x2 (-2147483648) 2147483647 → RI x3 0 6 → WD D cy GG A s wr_X8_sizeOf wa_X8_sizeOf Ps w0 Ps w0 H locs → lv_has ls 4 [(0, .ref p0), (1, .int p1), (2, .int x2), (3, .int x3)] → W p l e (headSpec (Cond.code yX8_sizeOf cX8_sizeOf 4 (some .int) :: gT) ({ frames := 2, cells := 0, slots := 0, locals := 400 } : Room)).room s m ([.ref p0, .int p1] : List Value).toArray below meth c H locs 0 0 Q (F0 m 4 ls []) := by
    intro nf4
    induction nf4 with
    | zero =>
      intro x2 x3 H locs ls hn4 r_p1 r_x2 r_x3 hw hl
      exact absurd hn4 (by have q0 := r_x3.1; have u0 := r_x3.2; omega)
    | succ nf4 ih4 =>
      intro x2 x3 H locs ls hn4 r_p1 r_x2 r_x3 hw hl
      refine lv_iload_n hx hb dX8_sizeOf_4 rfl (lv_at hl 3 rfl) ?_
      refine lv_aload_n hx hb dX8_sizeOf_5 rfl (lv_at hl 0 rfl) ?_
      refine tg_get (ci := 8) (ts := ty_WORLD) (C := RX8) (T := TX8) (N := 13) hx hb hts inX8 hown hK hw h_p0 rfl rfl 0 (by decide) (hts _ tw_247) (fun _ h9 => h9) (ft := vR 25) rfl dX8_sizeOf_6 (fun u_1 hv_u_1 m_u_1 => ?_)
      obtain ⟨vu_1, rfl, h_vu_1⟩ := hv_u_1
      refine tg_getN (ci := 3) (ts := ty_POST) (C := RX3) (T := TX3) (N := 9) hx hb hts inX3 hown hK hw h_vu_1 rfl rfl 1 (by decide) (hSD.nest tn_203) (fun _ h9 => h9) (ft := vR 4) rfl dX8_sizeOf_9 (fun u_2 hv_u_2 m_u_2 => ?_)
      obtain ⟨vu_2, rfl, h_vu_2⟩ := hv_u_2
      refine lv_iconst (v := 0) hx hb dX8_sizeOf_12 (by decide) ?_
      refine tg_iald (lo := 0) (hi := 6) hx hb hK hw h_vu_2 rfl 0 0 rl_0 (by decide) (by decide +kernel) dX8_sizeOf_13 (fun v_3 r_v_3 m_v_3 o_v_3 => ?_)
      refine lv_icmp_ge (tgt := 32) hx hb dX8_sizeOf_14 (by decide) (fun c_14 => ?_) (fun c_14 => ?_)
      · refine lv_iload_n hx hb dX8_sizeOf_32 rfl (lv_at hl 2 rfl) ?_
        subst hQ
        exact W.iret (v := x2) hx hb hr (fun t ht hW => ⟨⟨x2, (), rfl, ⟨r_x2.to (by decide), (fun h0 => trivial), (fun h0 => trivial)⟩, by rw [ht]; exact hw.2.1, va_K.moved hW.alike hK, hw.2.2.1⟩, hw.2.2.2.1.F ht⟩) hw.2.2.2.1.2.2 dX8_sizeOf_33
      · have r_x3 : RI x3 0 5 := rc_lt1 r_x3 r_v_3 (ti_nle c_14) (by decide)
        have r_v_3 : RI v_3 1 6 := rc_lt2 r_x3 r_v_3 (ti_nle c_14) (by decide)
        refine lv_iload_n hx hb dX8_sizeOf_17 rfl (lv_at hl 2 rfl) ?_
        refine lv_aload_n hx hb dX8_sizeOf_18 rfl (lv_at hl 0 rfl) ?_
        refine lv_iload_n hx hb dX8_sizeOf_19 rfl (lv_at hl 1 rfl) ?_
        refine lv_iload_n hx hb dX8_sizeOf_20 rfl (lv_at hl 3 rfl) ?_
        refine tk_ir (va_runV (As := [.int p1, .int x3]) (rest := [.int x2]) ⟨hx, hb, hml, hown, hts⟩ (c_X8_has l D cy z H.size Ps w0 hw.1 p0 p1 x3 h_p0 r_p1 r_x3) (cwV 2 hts (gV tw_597 tw_474 tw_475 tw_12 tw_476) rfl rfl rfl (by decide +kernel) ⟨Nat.le_of_ble_eq_true rfl, Nat.le_of_ble_eq_true rfl⟩) (tg_preV hw hK hSD hA (ci := 8) (q := (RX8, TX8, 13)) rfl h_p0 rfl) rfl rfl hl.1 rfl (lv_room (Nat.le_of_ble_eq_true rfl)) dX8_sizeOf_21 ⟨Nat.le_of_ble_eq_true rfl, Nat.le_of_ble_eq_true rfl⟩) hw hA (fun v_4  H locs hp_v_4 hw => ?_)
        have r_v_4 : RI v_4 (-2147483648) 2147483647 := hp_v_4.1
        refine lv_iadd hx hb dX8_sizeOf_24 (lv_topi (fun v_5 e_v_5 => ?_))
        have r_v_5 := ri_any v_5
        refine lv_istore_n (lv' := [(2, .int v_5), (0, .ref p0), (1, .int p1), (3, .int x3)]) hx hb dX8_sizeOf_25 rfl hl (by decide) rfl (fun ls hl => ?_)
        obtain ⟨v_6, e_v_6⟩ : ∃ q9 : Int32, q9 = x3 + Int32.ofInt 1 := ⟨_, rfl⟩
        obtain ⟨t_v_6, r_v_6⟩ := tq_add (lo := 1) (hi := 6) r_x3 (show RI (Int32.ofInt 1) 1 1 by unfold RI; decide +kernel) (by decide +kernel) e_v_6
        have t_v_6 : v_6.toInt = x3.toInt + 1 := t_v_6
        refine lv_iinc (v := v_6) (lv' := [(3, .int v_6), (2, .int v_5), (0, .ref p0), (1, .int p1)]) hx hb dX8_sizeOf_26 hl (k := 3) rfl e_v_6.symm (by decide) rfl (fun ls hl => ?_)
        refine lv_goto (tgt := 4) hx hb dX8_sizeOf_29 (by decide) ?_
        exact ih4 v_5 v_6 _ _ ls (by have q0 := r_v_6.1; have u0 := r_v_6.2; have o0 := r_x3.1; have p0 := r_x3.2; omega) r_p1 r_v_5 (r_v_6.to (by decide)) hw (lv_sub hl [2, 3, 1, 0] rfl)
  refine lv_iconst (v := 0) hx hb dX8_sizeOf_0 (by decide) ?_
  refine lv_istore_n (lv' := [(2, .int 0), (0, .ref p0), (1, .int p1)]) hx hb dX8_sizeOf_1 rfl hl (by decide) rfl (fun ls hl => ?_)
  refine lv_iconst (v := 0) hx hb dX8_sizeOf_2 (by decide) ?_
  refine lv_istore_n (lv' := [(3, .int 0), (2, .int 0), (0, .ref p0), (1, .int p1)]) hx hb dX8_sizeOf_3 rfl hl (by decide) rfl (fun ls hl => ?_)
  exact B4 4294967298 0 0 _ _ ls (by have q0 := rl_0.1; have u0 := rl_0.2; omega) r_p1 (rl_0.to (by decide)) (rl_0.to (by decide)) hw (lv_sub hl [2, 3, 1, 0] rfl)
abbrev wr_X8_allThatAllHave : List (Nat × Nat) := []
abbrev wa_X8_allThatAllHave : List Nat := []
set_option maxHeartbeats 4000000 in
set_option maxRecDepth 100000 in
theorem c_X8_allThatAllHave (l : Launch) (D : va_G) (cy : Nat → ClassId) (z : Nat → Nat) (sz : Nat) (Ps : PSI) (w0 : va_W) (hT : HT cy GG Ps w0) (p0 : Nat) (h_p0 : (p0, 24) ∈ Ps) : Met l yX8_allThatAllHave (Cond.code yX8_allThatAllHave cX8_allThatAllHave 3 (some .int) :: gT) ({ frames := 3, cells := 0, slots := 0, locals := 600 } : Room) (va_Pc [.ref p0] (PRE D cy z w0 sz)) (va_Qi (fun (r : Int32) (u : Unit) => RI r (-2147483648) 2147483647 ∧ (r = 0 → True) ∧ (¬ r = 0 → True)) (BB D cy (va_A w0 sz) (fun (u : Unit) => w0)) (va_A w0 sz)) 0 0 (va_A w0 sz) := by
  refine Met.ofW (cc := cX8_allThatAllHave) (maxL := 3) (ret := (some .int)) (by decide) rfl ?_
  intro p e s m args below meth c s₁ B hml hv
  obtain ⟨rfl, hsz, hP, hK, hD0, hSD⟩ := hv
  have hx := B.exec
  have hb := B.bytes
  have hr := B.returns
  have hlocks := B.notSynchronized
  have hts : ∀ w ∈ gT, w.before _ s = true := fun w h => atoms_spec (ws := Cond.code yX8_allThatAllHave cX8_allThatAllHave 3 (some .int) :: gT) B.pre w (List.mem_cons_of_mem _ h)
  have hown : s.vm.findClass RX8 = some m.cls := findClass_of_methodNamed B.named
  subst hsz
  have hD := hD0.self (sz := s.heap.size)
  generalize hAe : va_A w0 s.heap.size = A at hD hSD ⊢
  have hA : ∀ q : Nat, s.heap.size ≤ q → A q := fun q h => by rw [← hAe]; exact Or.inr h
  have hl := lv_entry ([.ref p0]) (n := 3) (Nat.le_of_ble_eq_true rfl)
  rw [lg_entry_eq]
  generalize (lg_sl ([.ref p0]) ++ List.replicate (3 - (lg_sl ([.ref p0])).length) Slot.unset).toArray = ls at hl ⊢
  have hl : lv_has ls 3 [(0, .ref p0)] := hl
  refine nameQ (fun Q hQ => ?_)
  have hw : WD D cy GG A s wr_X8_allThatAllHave wa_X8_allThatAllHave Ps w0 Ps w0 s.heap [] := ⟨hT, hP, hD, va_S.rf, FR.rf, hT.1, [], (List.append_nil _).symm⟩
  have B4 : ∀ (nf : Nat) (x1 : Int32) (x2 : Int32) (H : Heap) (locs : List Loc) (ls : Array Slot), 6 - x2.toInt < (nf : Int) → RI x1 (-2147483648) 2147483647 → RI x2 0 6 → WD D cy GG A s wr_X8_allThatAllHave wa_X8_allThatAllHave Ps w0 Ps w0 H locs → lv_has ls 3 [(0, .ref p0), (1, .int x1), (2, .int x2)] → W p l e (headSpec (Cond.code yX8_allThatAllHave cX8_allThatAllHave 3 (some .int) :: gT) ({ frames := 3, cells := 0, slots := 0, locals := 600 } : Room)).room s m ([.ref p0] : List Value).toArray below meth c H locs 0 0 Q (F0 m 4 ls []) := by
    intro nf4
    induction nf4 with
    | zero =>
      intro x1 x2 H locs ls hn4 r_x1 r_x2 hw hl
      exact absurd hn4 (by have q0 := r_x2.1; have u0 := r_x2.2; omega)
    | succ nf4 ih4 =>
      intro x1 x2 H locs ls hn4 r_x1 r_x2 hw hl
      refine lv_iload_n hx hb dX8_allThatAllHave_4 rfl (lv_at hl 2 rfl) ?_
      refine lv_aload_n hx hb dX8_allThatAllHave_5 rfl (lv_at hl 0 rfl) ?_
      refine tg_get (ci := 8) (ts := ty_WORLD) (C := RX8) (T := TX8) (N := 13) hx hb hts inX8 hown hK hw h_p0 rfl rfl 0 (by decide) (hts _ tw_247) (fun _ h9 => h9) (ft := vR 25) rfl dX8_allThatAllHave_6 (fun u_1 hv_u_1 m_u_1 => ?_)
      obtain ⟨vu_1, rfl, h_vu_1⟩ := hv_u_1
      refine tg_getN (ci := 3) (ts := ty_POST) (C := RX3) (T := TX3) (N := 9) hx hb hts inX3 hown hK hw h_vu_1 rfl rfl 1 (by decide) (hSD.nest tn_203) (fun _ h9 => h9) (ft := vR 4) rfl dX8_allThatAllHave_9 (fun u_2 hv_u_2 m_u_2 => ?_)
      obtain ⟨vu_2, rfl, h_vu_2⟩ := hv_u_2
      refine lv_iconst (v := 2) hx hb dX8_allThatAllHave_12 (by decide) ?_
      refine tg_iald (lo := 0) (hi := 6) hx hb hK hw h_vu_2 rfl 2 2 rl_2 (by decide) (by decide +kernel) dX8_allThatAllHave_13 (fun v_3 r_v_3 m_v_3 o_v_3 => ?_)
      refine lv_icmp_ge (tgt := 31) hx hb dX8_allThatAllHave_14 (by decide) (fun c_14 => ?_) (fun c_14 => ?_)
      · refine lv_iload_n hx hb dX8_allThatAllHave_31 rfl (lv_at hl 1 rfl) ?_
        subst hQ
        exact W.iret (v := x1) hx hb hr (fun t ht hW => ⟨⟨x1, (), rfl, ⟨r_x1.to (by decide), (fun h0 => trivial), (fun h0 => trivial)⟩, by rw [ht]; exact hw.2.1, va_K.moved hW.alike hK, hw.2.2.1⟩, hw.2.2.2.1.F ht⟩) hw.2.2.2.1.2.2 dX8_allThatAllHave_32
      · have r_x2 : RI x2 0 5 := rc_lt1 r_x2 r_v_3 (ti_nle c_14) (by decide)
        have r_v_3 : RI v_3 1 6 := rc_lt2 r_x2 r_v_3 (ti_nle c_14) (by decide)
        refine lv_iload_n hx hb dX8_allThatAllHave_17 rfl (lv_at hl 1 rfl) ?_
        refine lv_aload_n hx hb dX8_allThatAllHave_18 rfl (lv_at hl 0 rfl) ?_
        refine lv_iload_n hx hb dX8_allThatAllHave_19 rfl (lv_at hl 2 rfl) ?_
        refine tk_ir (va_runV (As := [.int x2]) (rest := [.int x1]) ⟨hx, hb, hml, hown, hts⟩ (c_X8_sizeOf l D cy z H.size Ps w0 hw.1 p0 x2 h_p0 r_x2) (cwV 1 hts (gV tw_593 tw_594 tw_595 tw_12 tw_596) rfl rfl rfl (by decide +kernel) ⟨Nat.le_of_ble_eq_true rfl, Nat.le_of_ble_eq_true rfl⟩) (tg_preV hw hK hSD hA (ci := 8) (q := (RX8, TX8, 13)) rfl h_p0 rfl) rfl rfl hl.1 rfl (lv_room (Nat.le_of_ble_eq_true rfl)) dX8_allThatAllHave_20 ⟨Nat.le_of_ble_eq_true rfl, Nat.le_of_ble_eq_true rfl⟩) hw hA (fun v_4  H locs hp_v_4 hw => ?_)
        have r_v_4 : RI v_4 (-2147483648) 2147483647 := hp_v_4.1
        refine lv_iadd hx hb dX8_allThatAllHave_23 (lv_topi (fun v_5 e_v_5 => ?_))
        have r_v_5 := ri_any v_5
        refine lv_istore_n (lv' := [(1, .int v_5), (0, .ref p0), (2, .int x2)]) hx hb dX8_allThatAllHave_24 rfl hl (by decide) rfl (fun ls hl => ?_)
        obtain ⟨v_6, e_v_6⟩ : ∃ q9 : Int32, q9 = x2 + Int32.ofInt 1 := ⟨_, rfl⟩
        obtain ⟨t_v_6, r_v_6⟩ := tq_add (lo := 1) (hi := 6) r_x2 (show RI (Int32.ofInt 1) 1 1 by unfold RI; decide +kernel) (by decide +kernel) e_v_6
        have t_v_6 : v_6.toInt = x2.toInt + 1 := t_v_6
        refine lv_iinc (v := v_6) (lv' := [(2, .int v_6), (1, .int v_5), (0, .ref p0)]) hx hb dX8_allThatAllHave_25 hl (k := 2) rfl e_v_6.symm (by decide) rfl (fun ls hl => ?_)
        refine lv_goto (tgt := 4) hx hb dX8_allThatAllHave_28 (by decide) ?_
        exact ih4 v_5 v_6 _ _ ls (by have q0 := r_v_6.1; have u0 := r_v_6.2; have o0 := r_x2.1; have p0 := r_x2.2; omega) r_v_5 (r_v_6.to (by decide)) hw (lv_sub hl [2, 1, 0] rfl)
  refine lv_iconst (v := 0) hx hb dX8_allThatAllHave_0 (by decide) ?_
  refine lv_istore_n (lv' := [(1, .int 0), (0, .ref p0)]) hx hb dX8_allThatAllHave_1 rfl hl (by decide) rfl (fun ls hl => ?_)
  refine lv_iconst (v := 0) hx hb dX8_allThatAllHave_2 (by decide) ?_
  refine lv_istore_n (lv' := [(2, .int 0), (1, .int 0), (0, .ref p0)]) hx hb dX8_allThatAllHave_3 rfl hl (by decide) rfl (fun ls hl => ?_)
  exact B4 4294967298 0 0 _ _ ls (by have q0 := rl_0.1; have u0 := rl_0.2; omega) (rl_0.to (by decide)) (rl_0.to (by decide)) hw (lv_sub hl [2, 1, 0] rfl)
abbrev wr_X8_willHave : List (Nat × Nat) := []
abbrev wa_X8_willHave : List Nat := []
set_option maxHeartbeats 4000000 in
set_option maxRecDepth 100000 in
theorem c_X8_willHave (l : Launch) (D : va_G) (cy : Nat → ClassId) (z : Nat → Nat) (sz : Nat) (Ps : PSI) (w0 : va_W) (hT : HT cy GG Ps w0) (p0 : Nat) (p1 : Int32) (p2 : Int32) (p3 : Int32) (h_p0 : (p0, 24) ∈ Ps) (r_p1 : RI p1 0 5) (r_p2 : RI p2 0 5) (r_p3 : RI p3 (-2147483648) 2147483647) : Met l yX8_willHave (Cond.code yX8_willHave cX8_willHave 5 (some .int) :: gT) ({ frames := 0, cells := 0, slots := 0, locals := 200 } : Room) (va_Pc [.ref p0, .int p1, .int p2, .int p3] (PRE D cy z w0 sz)) (va_Qi (fun (r : Int32) (u : Unit) => RI r (-2147483648) 99 ∧ (r = 0 → True) ∧ (¬ r = 0 → True)) (BB D cy (va_A w0 sz) (fun (u : Unit) => w0)) (va_A w0 sz)) 0 0 (va_A w0 sz) := by
  refine Met.ofW (cc := cX8_willHave) (maxL := 5) (ret := (some .int)) (by decide) rfl ?_
  intro p e s m args below meth c s₁ B hml hv
  obtain ⟨rfl, hsz, hP, hK, hD0, hSD⟩ := hv
  have hx := B.exec
  have hb := B.bytes
  have hr := B.returns
  have hlocks := B.notSynchronized
  have hts : ∀ w ∈ gT, w.before _ s = true := fun w h => atoms_spec (ws := Cond.code yX8_willHave cX8_willHave 5 (some .int) :: gT) B.pre w (List.mem_cons_of_mem _ h)
  have hown : s.vm.findClass RX8 = some m.cls := findClass_of_methodNamed B.named
  subst hsz
  have hD := hD0.self (sz := s.heap.size)
  generalize hAe : va_A w0 s.heap.size = A at hD hSD ⊢
  have hA : ∀ q : Nat, s.heap.size ≤ q → A q := fun q h => by rw [← hAe]; exact Or.inr h
  have hl := lv_entry ([.ref p0, .int p1, .int p2, .int p3]) (n := 5) (Nat.le_of_ble_eq_true rfl)
  rw [lg_entry_eq]
  generalize (lg_sl ([.ref p0, .int p1, .int p2, .int p3]) ++ List.replicate (5 - (lg_sl ([.ref p0, .int p1, .int p2, .int p3])).length) Slot.unset).toArray = ls at hl ⊢
  have hl : lv_has ls 5 [(0, .ref p0), (1, .int p1), (2, .int p2), (3, .int p3)] := hl
  refine nameQ (fun Q hQ => ?_)
  have hw : WD D cy GG A s wr_X8_willHave wa_X8_willHave Ps w0 Ps w0 s.heap [] := ⟨hT, hP, hD, va_S.rf, FR.rf, hT.1, [], (List.append_nil _).symm⟩
  refine lv_aload_n hx hb dX8_willHave_0 rfl (lv_at hl 0 rfl) ?_
  refine tg_get (ci := 8) (ts := ty_WORLD) (C := RX8) (T := TX8) (N := 13) hx hb hts inX8 hown hK hw h_p0 rfl rfl 2 (by decide) (hts _ tw_252) (fun _ h9 => h9) (ft := vR 8) rfl dX8_willHave_1 (fun u_1 hv_u_1 m_u_1 => ?_)
  obtain ⟨vu_1, rfl, h_vu_1⟩ := hv_u_1
  refine lv_iload_n hx hb dX8_willHave_4 rfl (lv_at hl 1 rfl) ?_
  refine lv_bipush (v := 6) hx hb dX8_willHave_5 (by decide) ?_
  refine lv_imul hx hb dX8_willHave_7 (lv_topi (fun v_2 e_v_2 => ?_))
  obtain ⟨t_v_2, r_v_2⟩ := tq_mul (lo := 0) (hi := 30) r_p1 rl_6 (by decide +kernel) e_v_2
  have t_v_2 : v_2.toInt = p1.toInt * 6 := t_v_2
  refine lv_iload_n hx hb dX8_willHave_8 rfl (lv_at hl 2 rfl) ?_
  refine lv_iadd hx hb dX8_willHave_9 (lv_topi (fun v_3 e_v_3 => ?_))
  obtain ⟨t_v_3, r_v_3⟩ := tq_add (lo := 0) (hi := 35) r_v_2 r_p2 (by decide +kernel) e_v_3
  refine tg_iald (lo := (-2147483648)) (hi := 2147483647) hx hb hK hw h_vu_1 rfl 0 35 r_v_3 (by decide) (by exact fun _ _ _ => ⟨Int.le_refl _, Int.le_refl _⟩) dX8_willHave_10 (fun v_4 r_v_4 m_v_4 o_v_4 => ?_)
  refine lv_iload_n hx hb dX8_willHave_11 rfl (lv_at hl 3 rfl) ?_
  refine lv_aload_n hx hb dX8_willHave_12 rfl (lv_at hl 0 rfl) ?_
  refine tg_get (ci := 8) (ts := ty_WORLD) (C := RX8) (T := TX8) (N := 13) hx hb hts inX8 hown hK hw h_p0 rfl rfl 11 (by decide) (hts _ tw_275) (fun _ h9 => h9) (ft := vR 14) rfl dX8_willHave_13 (fun u_5 hv_u_5 m_u_5 => ?_)
  obtain ⟨vu_5, rfl, h_vu_5⟩ := hv_u_5
  refine lv_iload_n hx hb dX8_willHave_16 rfl (lv_at hl 2 rfl) ?_
  refine tg_iald (lo := (-2147483648)) (hi := 2147483647) hx hb hK hw h_vu_5 rfl 0 5 r_p2 (by decide) (by exact fun _ _ _ => ⟨Int.le_refl _, Int.le_refl _⟩) dX8_willHave_17 (fun v_6 r_v_6 m_v_6 o_v_6 => ?_)
  refine lv_imul hx hb dX8_willHave_18 (lv_topi (fun v_7 e_v_7 => ?_))
  have r_v_7 := ri_any v_7
  refine lv_iadd hx hb dX8_willHave_19 (lv_topi (fun v_8 e_v_8 => ?_))
  have r_v_8 := ri_any v_8
  refine lv_istore (lv' := [(4, .int v_8), (0, .ref p0), (1, .int p1), (2, .int p2), (3, .int p3)]) hx hb dX8_willHave_20 hl (by decide) rfl (fun ls hl => ?_)
  refine lv_iload hx hb dX8_willHave_22 (lv_at hl 0 rfl) ?_
  refine lv_bipush (v := 99) hx hb dX8_willHave_24 (by decide) ?_
  refine lv_icmp_ge (tgt := 34) hx hb dX8_willHave_26 (by decide) (fun c_26 => ?_) (fun c_26 => ?_)
  · have r_v_8 : RI v_8 99 2147483647 := rc_le2 rl_99 r_v_8 (ti_le c_26) (by decide)
    refine lv_bipush (v := 99) hx hb dX8_willHave_34 (by decide) ?_
    subst hQ
    exact W.iret (v := 99) hx hb hr (fun t ht hW => ⟨⟨99, (), rfl, ⟨rl_99.to (by decide), (fun _ => trivial), (fun h0 => trivial)⟩, by rw [ht]; exact hw.2.1, va_K.moved hW.alike hK, hw.2.2.1⟩, hw.2.2.2.1.F ht⟩) hw.2.2.2.1.2.2 dX8_willHave_36
  · have r_v_8 : RI v_8 (-2147483648) 98 := rc_lt1 r_v_8 rl_99 (ti_nle c_26) (by decide)
    refine lv_iload hx hb dX8_willHave_29 (lv_at hl 0 rfl) ?_
    refine lv_goto (tgt := 36) hx hb dX8_willHave_31 (by decide) ?_
    subst hQ
    exact W.iret (v := v_8) hx hb hr (fun t ht hW => ⟨⟨v_8, (), rfl, ⟨r_v_8.to (by decide), (fun h0 => trivial), (fun h0 => trivial)⟩, by rw [ht]; exact hw.2.1, va_K.moved hW.alike hK, hw.2.2.1⟩, hw.2.2.2.1.F ht⟩) hw.2.2.2.1.2.2 dX8_willHave_36
abbrev wr_X8_becomes : List (Nat × Nat) := []
abbrev wa_X8_becomes : List Nat := []
set_option maxHeartbeats 4000000 in
set_option maxRecDepth 100000 in
theorem c_X8_becomes (l : Launch) (D : va_G) (cy : Nat → ClassId) (z : Nat → Nat) (sz : Nat) (Ps : PSI) (w0 : va_W) (hT : HT cy GG Ps w0) (p0 : Nat) (p1 : Int32) (p2 : Int32) (h_p0 : (p0, 24) ∈ Ps) (r_p1 : RI p1 0 5) (r_p2 : RI p2 (-2147483648) 2147483647) : Met l yX8_becomes (Cond.code yX8_becomes cX8_becomes 7 (some .int) :: gT) ({ frames := 2, cells := 0, slots := 0, locals := 400 } : Room) (va_Pc [.ref p0, .int p1, .int p2] (PRE D cy z w0 sz)) (va_Qi (fun (r : Int32) (u : Unit) => RI r (-1) 5 ∧ (r = 0 → True) ∧ (¬ r = 0 → True)) (BB D cy (va_A w0 sz) (fun (u : Unit) => w0)) (va_A w0 sz)) 0 0 (va_A w0 sz) := by
  refine Met.ofW (cc := cX8_becomes) (maxL := 7) (ret := (some .int)) (by decide) rfl ?_
  intro p e s m args below meth c s₁ B hml hv
  obtain ⟨rfl, hsz, hP, hK, hD0, hSD⟩ := hv
  have hx := B.exec
  have hb := B.bytes
  have hr := B.returns
  have hlocks := B.notSynchronized
  have hts : ∀ w ∈ gT, w.before _ s = true := fun w h => atoms_spec (ws := Cond.code yX8_becomes cX8_becomes 7 (some .int) :: gT) B.pre w (List.mem_cons_of_mem _ h)
  have hown : s.vm.findClass RX8 = some m.cls := findClass_of_methodNamed B.named
  subst hsz
  have hD := hD0.self (sz := s.heap.size)
  generalize hAe : va_A w0 s.heap.size = A at hD hSD ⊢
  have hA : ∀ q : Nat, s.heap.size ≤ q → A q := fun q h => by rw [← hAe]; exact Or.inr h
  have hl := lv_entry ([.ref p0, .int p1, .int p2]) (n := 7) (Nat.le_of_ble_eq_true rfl)
  rw [lg_entry_eq]
  generalize (lg_sl ([.ref p0, .int p1, .int p2]) ++ List.replicate (7 - (lg_sl ([.ref p0, .int p1, .int p2])).length) Slot.unset).toArray = ls at hl ⊢
  have hl : lv_has ls 7 [(0, .ref p0), (1, .int p1), (2, .int p2)] := hl
  refine nameQ (fun Q hQ => ?_)
  have hw : WD D cy GG A s wr_X8_becomes wa_X8_becomes Ps w0 Ps w0 s.heap [] := ⟨hT, hP, hD, va_S.rf, FR.rf, hT.1, [], (List.append_nil _).symm⟩
  have B8 : ∀ (nf : Nat) (x3 : Int32) (x4 : Int32) (x5 : Int32) (H : Heap) (locs : List Loc) (ls : Array Slot), 6 - x5.toInt < (nf : Int) → RI p1 0 5 → RI p2 (-2147483648) 2147483647 → RI x3 (-1) 5 → RI x4 0 99 → RI x5 0 6 → WD D cy GG A s wr_X8_becomes wa_X8_becomes Ps w0 Ps w0 H locs → lv_has ls 7 [(0, .ref p0), (1, .int p1), (2, .int p2), (3, .int x3), (4, .int x4), (5, .int x5)] → W p l e (headSpec (Cond.code yX8_becomes cX8_becomes 7 (some .int) :: gT) ({ frames := 2, cells := 0, slots := 0, locals := 400 } : Room)).room s m ([.ref p0, .int p1, .int p2] : List Value).toArray below meth c H locs 0 0 Q (F0 m 8 ls []) := by
    intro nf8
    induction nf8 with
    | zero =>
      intro x3 x4 x5 H locs ls hn8 r_p1 r_p2 r_x3 r_x4 r_x5 hw hl
      exact absurd hn8 (by have q0 := r_x5.1; have u0 := r_x5.2; omega)
    | succ nf8 ih8 =>
      intro x3 x4 x5 H locs ls hn8 r_p1 r_p2 r_x3 r_x4 r_x5 hw hl
      refine lv_iload hx hb dX8_becomes_8 (lv_at hl 5 rfl) ?_
      refine lv_aload_n hx hb dX8_becomes_10 rfl (lv_at hl 0 rfl) ?_
      refine tg_get (ci := 8) (ts := ty_WORLD) (C := RX8) (T := TX8) (N := 13) hx hb hts inX8 hown hK hw h_p0 rfl rfl 0 (by decide) (hts _ tw_247) (fun _ h9 => h9) (ft := vR 25) rfl dX8_becomes_11 (fun u_1 hv_u_1 m_u_1 => ?_)
      obtain ⟨vu_1, rfl, h_vu_1⟩ := hv_u_1
      refine tg_getN (ci := 3) (ts := ty_POST) (C := RX3) (T := TX3) (N := 9) hx hb hts inX3 hown hK hw h_vu_1 rfl rfl 1 (by decide) (hSD.nest tn_203) (fun _ h9 => h9) (ft := vR 4) rfl dX8_becomes_14 (fun u_2 hv_u_2 m_u_2 => ?_)
      obtain ⟨vu_2, rfl, h_vu_2⟩ := hv_u_2
      refine lv_iconst (v := 0) hx hb dX8_becomes_17 (by decide) ?_
      refine tg_iald (lo := 0) (hi := 6) hx hb hK hw h_vu_2 rfl 0 0 rl_0 (by decide) (by decide +kernel) dX8_becomes_18 (fun v_3 r_v_3 m_v_3 o_v_3 => ?_)
      refine lv_icmp_ge (tgt := 67) hx hb dX8_becomes_19 (by decide) (fun c_19 => ?_) (fun c_19 => ?_)
      · refine lv_iload_n hx hb dX8_becomes_67 rfl (lv_at hl 3 rfl) ?_
        subst hQ
        exact W.iret (v := x3) hx hb hr (fun t ht hW => ⟨⟨x3, (), rfl, ⟨r_x3.to (by decide), (fun h0 => trivial), (fun h0 => trivial)⟩, by rw [ht]; exact hw.2.1, va_K.moved hW.alike hK, hw.2.2.1⟩, hw.2.2.2.1.F ht⟩) hw.2.2.2.1.2.2 dX8_becomes_68
      · have r_x5 : RI x5 0 5 := rc_lt1 r_x5 r_v_3 (ti_nle c_19) (by decide)
        have r_v_3 : RI v_3 1 6 := rc_lt2 r_x5 r_v_3 (ti_nle c_19) (by decide)
        refine lv_aload_n hx hb dX8_becomes_22 rfl (lv_at hl 0 rfl) ?_
        refine lv_iload_n hx hb dX8_becomes_23 rfl (lv_at hl 1 rfl) ?_
        refine lv_iload hx hb dX8_becomes_24 (lv_at hl 5 rfl) ?_
        refine lv_iload_n hx hb dX8_becomes_26 rfl (lv_at hl 2 rfl) ?_
        refine tk_ir (va_runV (As := [.int p1, .int x5, .int p2]) (rest := []) ⟨hx, hb, hml, hown, hts⟩ (c_X8_willHave l D cy z H.size Ps w0 hw.1 p0 p1 x5 p2 h_p0 r_p1 r_x5 r_p2) (cwV 3 hts (gV tw_577 tw_579 ts_11 tw_12 tw_580) rfl rfl rfl (by decide +kernel) ⟨Nat.le_of_ble_eq_true rfl, Nat.le_of_ble_eq_true rfl⟩) (tg_preV hw hK hSD hA (ci := 8) (q := (RX8, TX8, 13)) rfl h_p0 rfl) rfl rfl hl.1 rfl (lv_room (Nat.le_of_ble_eq_true rfl)) dX8_becomes_27 ⟨Nat.le_of_ble_eq_true rfl, Nat.le_of_ble_eq_true rfl⟩) hw hA (fun v_4  H locs hp_v_4 hw => ?_)
        have r_v_4 : RI v_4 (-2147483648) 99 := hp_v_4.1
        refine lv_istore (lv' := [(6, .int v_4), (0, .ref p0), (1, .int p1), (2, .int p2), (3, .int x3), (4, .int x4), (5, .int x5)]) hx hb dX8_becomes_30 hl (by decide) rfl (fun ls hl => ?_)
        refine lv_iload hx hb dX8_becomes_32 (lv_at hl 0 rfl) ?_
        refine lv_aload_n hx hb dX8_becomes_34 rfl (lv_at hl 1 rfl) ?_
        refine tg_mem (ci := 8) (C := RX8) (T := TX8) (N := 13) hx hb hts inX8 hown hK hw 0 m_u_1 rfl (by decide) (hts _ tw_247) (fun _ h9 => h9) dX8_becomes_35 ?_
        refine tg_getN (ci := 3) (ts := ty_POST) (C := RX3) (T := TX3) (N := 9) hx hb hts inX3 hown hK hw h_vu_1 rfl rfl 2 (by decide) (hSD.nest tn_206) (fun _ h9 => h9) (ft := vR 5) rfl dX8_becomes_38 (fun u_5 hv_u_5 m_u_5 => ?_)
        obtain ⟨vu_5, rfl, h_vu_5⟩ := hv_u_5
        refine lv_iload hx hb dX8_becomes_41 (lv_at hl 6 rfl) ?_
        refine tg_iald (lo := (-2147483648)) (hi := 2147483647) hx hb hK hw h_vu_5 rfl 0 5 r_x5 (by decide) (by exact fun _ _ _ => ⟨Int.le_refl _, Int.le_refl _⟩) dX8_becomes_43 (fun v_6 r_v_6 m_v_6 o_v_6 => ?_)
        refine lv_icmp_lt (tgt := 61) hx hb dX8_becomes_44 (by decide) (fun c_44 => ?_) (fun c_44 => ?_)
        · have r_v_6 : RI v_6 (-2147483647) 2147483647 := rc_lt2 r_v_4 r_v_6 (ti_lt c_44) (by decide)
          obtain ⟨v_7, e_v_7⟩ : ∃ q9 : Int32, q9 = x5 + Int32.ofInt 1 := ⟨_, rfl⟩
          obtain ⟨t_v_7, r_v_7⟩ := tq_add (lo := 1) (hi := 6) r_x5 (show RI (Int32.ofInt 1) 1 1 by unfold RI; decide +kernel) (by decide +kernel) e_v_7
          have t_v_7 : v_7.toInt = x5.toInt + 1 := t_v_7
          refine lv_iinc (v := v_7) (lv' := [(5, .int v_7), (6, .int v_4), (0, .ref p0), (1, .int p1), (2, .int p2), (3, .int x3), (4, .int x4)]) hx hb dX8_becomes_61 hl (k := 6) rfl e_v_7.symm (by decide) rfl (fun ls hl => ?_)
          refine lv_goto (tgt := 8) hx hb dX8_becomes_64 (by decide) ?_
          exact ih8 x3 x4 v_7 _ _ ls (by have q0 := r_v_7.1; have u0 := r_v_7.2; have o0 := r_x5.1; have p0 := r_x5.2; omega) r_p1 r_p2 r_x3 r_x4 (r_v_7.to (by decide)) hw (lv_sub hl [2, 3, 4, 5, 6, 0] rfl)
        · have r_v_6 : RI v_6 (-2147483648) 99 := rc_le1 r_v_6 r_v_4 (ti_nlt c_44) (by decide)
          refine lv_iload hx hb dX8_becomes_47 (lv_at hl 0 rfl) ?_
          refine lv_iload hx hb dX8_becomes_49 (lv_at hl 5 rfl) ?_
          refine lv_icmp_le (tgt := 61) hx hb dX8_becomes_51 (by decide) (fun c_51 => ?_) (fun c_51 => ?_)
          · obtain ⟨v_8, e_v_8⟩ : ∃ q9 : Int32, q9 = x5 + Int32.ofInt 1 := ⟨_, rfl⟩
            obtain ⟨t_v_8, r_v_8⟩ := tq_add (lo := 1) (hi := 6) r_x5 (show RI (Int32.ofInt 1) 1 1 by unfold RI; decide +kernel) (by decide +kernel) e_v_8
            have t_v_8 : v_8.toInt = x5.toInt + 1 := t_v_8
            refine lv_iinc (v := v_8) (lv' := [(5, .int v_8), (6, .int v_4), (0, .ref p0), (1, .int p1), (2, .int p2), (3, .int x3), (4, .int x4)]) hx hb dX8_becomes_61 hl (k := 6) rfl e_v_8.symm (by decide) rfl (fun ls hl => ?_)
            refine lv_goto (tgt := 8) hx hb dX8_becomes_64 (by decide) ?_
            exact ih8 x3 x4 v_8 _ _ ls (by have q0 := r_v_8.1; have u0 := r_v_8.2; have o0 := r_x5.1; have p0 := r_x5.2; omega) r_p1 r_p2 r_x3 r_x4 (r_v_8.to (by decide)) hw (lv_sub hl [2, 3, 4, 5, 6, 0] rfl)
          · have r_x4 : RI x4 0 98 := rc_lt1 r_x4 r_v_4 (ti_nle c_51) (by decide)
            have r_v_4 : RI v_4 1 99 := rc_lt2 r_x4 r_v_4 (ti_nle c_51) (by decide)
            refine lv_iload hx hb dX8_becomes_54 (lv_at hl 6 rfl) ?_
            refine lv_istore_n (lv' := [(3, .int x5), (6, .int v_4), (0, .ref p0), (1, .int p1), (2, .int p2), (4, .int x4), (5, .int x5)]) hx hb dX8_becomes_56 rfl hl (by decide) rfl (fun ls hl => ?_)
            refine lv_iload hx hb dX8_becomes_57 (lv_at hl 1 rfl) ?_
            refine lv_istore (lv' := [(4, .int v_4), (3, .int x5), (6, .int v_4), (0, .ref p0), (1, .int p1), (2, .int p2), (5, .int x5)]) hx hb dX8_becomes_59 hl (by decide) rfl (fun ls hl => ?_)
            obtain ⟨v_9, e_v_9⟩ : ∃ q9 : Int32, q9 = x5 + Int32.ofInt 1 := ⟨_, rfl⟩
            obtain ⟨t_v_9, r_v_9⟩ := tq_add (lo := 1) (hi := 6) r_x5 (show RI (Int32.ofInt 1) 1 1 by unfold RI; decide +kernel) (by decide +kernel) e_v_9
            have t_v_9 : v_9.toInt = x5.toInt + 1 := t_v_9
            refine lv_iinc (v := v_9) (lv' := [(5, .int v_9), (4, .int v_4), (3, .int x5), (6, .int v_4), (0, .ref p0), (1, .int p1), (2, .int p2)]) hx hb dX8_becomes_61 hl (k := 6) rfl e_v_9.symm (by decide) rfl (fun ls hl => ?_)
            refine lv_goto (tgt := 8) hx hb dX8_becomes_64 (by decide) ?_
            exact ih8 x5 v_4 v_9 _ _ ls (by have q0 := r_v_9.1; have u0 := r_v_9.2; have o0 := r_x5.1; have p0 := r_x5.2; omega) r_p1 r_p2 (r_x5.to (by decide)) (r_v_4.to (by decide)) (r_v_9.to (by decide)) hw (lv_sub hl [4, 5, 6, 2, 1, 0] rfl)
  refine lv_iconst (v := (-1)) hx hb dX8_becomes_0 (by decide) ?_
  refine lv_istore_n (lv' := [(3, .int (-1)), (0, .ref p0), (1, .int p1), (2, .int p2)]) hx hb dX8_becomes_1 rfl hl (by decide) rfl (fun ls hl => ?_)
  refine lv_iconst (v := 0) hx hb dX8_becomes_2 (by decide) ?_
  refine lv_istore (lv' := [(4, .int 0), (3, .int (-1)), (0, .ref p0), (1, .int p1), (2, .int p2)]) hx hb dX8_becomes_3 hl (by decide) rfl (fun ls hl => ?_)
  refine lv_iconst (v := 0) hx hb dX8_becomes_5 (by decide) ?_
  refine lv_istore (lv' := [(5, .int 0), (4, .int 0), (3, .int (-1)), (0, .ref p0), (1, .int p1), (2, .int p2)]) hx hb dX8_becomes_6 hl (by decide) rfl (fun ls hl => ?_)
  exact B8 4294967298 (-1) 0 0 _ _ ls (by have q0 := rl_0.1; have u0 := rl_0.2; omega) r_p1 r_p2 (rl_m1.to (by decide)) (rl_0.to (by decide)) (rl_0.to (by decide)) hw (lv_sub hl [3, 4, 5, 2, 1, 0] rfl)
abbrev wr_J7_fill_53178 : List (Nat × Nat) := []
abbrev wa_J7_fill_53178 : List Nat := [8]
set_option maxHeartbeats 4000000 in
set_option maxRecDepth 100000 in
theorem c_J7_fill_53178 (l : Launch) (D : va_G) (cy : Nat → ClassId) (z : Nat → Nat) (sz : Nat) (Ps : PSI) (w0 : va_W) (hT : HT cy GG Ps w0) (p0 : Nat) (p1 : Int32) (h_p0 : (p0, 8) ∈ Ps) (r_p1 : RI p1 0 0) : Met l yJ7_fill_53178 (Cond.code yJ7_fill_53178 cJ7_fill_53178 4 none :: gT) ({ frames := 0, cells := 0, slots := 0, locals := 200 } : Room) (va_Pc [.ref p0, .int p1] (PRE D cy z w0 sz)) (va_Qv (fun (u : va_W) => (True) ∧ HT cy GG Ps u ∧ FR wr_J7_fill_53178 wa_J7_fill_53178 Ps w0 u) (BB D cy (va_A w0 sz) (fun (u : va_W) => u)) (va_A w0 sz)) 0 0 (va_A w0 sz) := by
  refine Met.ofW (cc := cJ7_fill_53178) (maxL := 4) (ret := none) (by decide) rfl ?_
  intro p e s m args below meth c s₁ B hml hv
  obtain ⟨rfl, hsz, hP, hK, hD0, hSD⟩ := hv
  have hx := B.exec
  have hb := B.bytes
  have hr := B.returns
  have hlocks := B.notSynchronized
  have hts : ∀ w ∈ gT, w.before _ s = true := fun w h => atoms_spec (ws := Cond.code yJ7_fill_53178 cJ7_fill_53178 4 none :: gT) B.pre w (List.mem_cons_of_mem _ h)
  have hown : s.vm.findClass RJ7 = some m.cls := findClass_of_methodNamed B.named
  subst hsz
  have hD := hD0.self (sz := s.heap.size)
  generalize hAe : va_A w0 s.heap.size = A at hD hSD ⊢
  have hA : ∀ q : Nat, s.heap.size ≤ q → A q := fun q h => by rw [← hAe]; exact Or.inr h
  have hl := lv_entry ([.ref p0, .int p1]) (n := 4) (Nat.le_of_ble_eq_true rfl)
  rw [lg_entry_eq]
  generalize (lg_sl ([.ref p0, .int p1]) ++ List.replicate (4 - (lg_sl ([.ref p0, .int p1])).length) Slot.unset).toArray = ls at hl ⊢
  have hl : lv_has ls 4 [(0, .ref p0), (1, .int p1)] := hl
  refine nameQ (fun Q hQ => ?_)
  have hw : WD D cy GG A s wr_J7_fill_53178 wa_J7_fill_53178 Ps w0 Ps w0 s.heap [] := ⟨hT, hP, hD, va_S.rf, FR.rf, hT.1, [], (List.append_nil _).symm⟩
  have B5 : ∀ (nf : Nat) (x2 : Int32) (x3 : Int32) (ws : va_W) (H : Heap) (locs : List Loc) (ls : Array Slot), 36 - x2.toInt < (nf : Int) → RI p1 0 0 → RI x2 0 36 → RI x3 36 36 → WD D cy GG A s wr_J7_fill_53178 wa_J7_fill_53178 Ps w0 Ps ws H locs → lv_has ls 4 [(0, .ref p0), (1, .int p1), (2, .int x2), (3, .int x3)] → W p l e (headSpec (Cond.code yJ7_fill_53178 cJ7_fill_53178 4 none :: gT) ({ frames := 0, cells := 0, slots := 0, locals := 200 } : Room)).room s m ([.ref p0, .int p1] : List Value).toArray below meth c H locs 0 0 Q (F0 m 5 ls []) := by
    intro nf5
    induction nf5 with
    | zero =>
      intro x2 x3 ws H locs ls hn5 r_p1 r_x2 r_x3 hw hl
      exact absurd hn5 (by have q0 := r_x2.1; have u0 := r_x2.2; omega)
    | succ nf5 ih5 =>
      intro x2 x3 ws H locs ls hn5 r_p1 r_x2 r_x3 hw hl
      refine lv_iload_n hx hb dJ7_fill_53178_5 rfl (lv_at hl 2 rfl) ?_
      refine lv_iload_n hx hb dJ7_fill_53178_6 rfl (lv_at hl 3 rfl) ?_
      refine lv_icmp_ge (tgt := 20) hx hb dJ7_fill_53178_7 (by decide) (fun c_7 => ?_) (fun c_7 => ?_)
      · have r_x2 : RI x2 36 36 := rc_le2 r_x3 r_x2 (ti_le c_7) (by decide)
        subst hQ
        exact W.vret hx hb hr (fun t ht hW => ⟨⟨ws, rfl, ⟨trivial, hw.1, hw.2.2.2.2.1⟩, by rw [ht]; exact hw.2.1, va_K.moved hW.alike hK, hw.2.2.1⟩, hw.2.2.2.1.F ht⟩) hw.2.2.2.1.2.2 dJ7_fill_53178_20
      · have r_x2 : RI x2 0 35 := rc_lt1 r_x2 r_x3 (ti_nle c_7) (by decide)
        refine lv_aload_n hx hb dJ7_fill_53178_10 rfl (lv_at hl 0 rfl) ?_
        refine lv_iload_n hx hb dJ7_fill_53178_11 rfl (lv_at hl 2 rfl) ?_
        refine lv_iload_n hx hb dJ7_fill_53178_12 rfl (lv_at hl 1 rfl) ?_
        refine tg_iast hx hb hK hw h_p0 rfl 0 35 r_x2 (by decide) r_p1 (by exact fun _ _ _ => by decide) (fun _ _ _ _ _ => trivial) (by decide) dJ7_fill_53178_13 (fun ws H locs hw hF9 hU9 => ?_)
        obtain ⟨v_1, e_v_1⟩ : ∃ q9 : Int32, q9 = x2 + Int32.ofInt 1 := ⟨_, rfl⟩
        obtain ⟨t_v_1, r_v_1⟩ := tq_add (lo := 1) (hi := 36) r_x2 (show RI (Int32.ofInt 1) 1 1 by unfold RI; decide +kernel) (by decide +kernel) e_v_1
        have t_v_1 : v_1.toInt = x2.toInt + 1 := t_v_1
        refine lv_iinc (v := v_1) (lv' := [(2, .int v_1), (0, .ref p0), (1, .int p1), (3, .int x3)]) hx hb dJ7_fill_53178_14 hl (k := 2) rfl e_v_1.symm (by decide) rfl (fun ls hl => ?_)
        refine lv_goto (tgt := 5) hx hb dJ7_fill_53178_17 (by decide) ?_
        exact ih5 v_1 x3 ws _ _ ls (by have q0 := r_v_1.1; have u0 := r_v_1.2; have o0 := r_x2.1; have p0 := r_x2.2; omega) r_p1 (r_v_1.to (by decide)) r_x3 hw (lv_sub hl [1, 2, 0, 3] rfl)
  refine lv_iconst (v := 0) hx hb dJ7_fill_53178_0 (by decide) ?_
  refine lv_istore_n (lv' := [(2, .int 0), (0, .ref p0), (1, .int p1)]) hx hb dJ7_fill_53178_1 rfl hl (by decide) rfl (fun ls hl => ?_)
  refine lv_aload_n hx hb dJ7_fill_53178_2 rfl (lv_at hl 1 rfl) ?_
  refine tg_alenI (t0 := 1) (v := 36) hx hb hK hw h_p0 rfl rfl rfl dJ7_fill_53178_3 ?_
  refine lv_istore_n (lv' := [(3, .int 36), (2, .int 0), (0, .ref p0), (1, .int p1)]) hx hb dJ7_fill_53178_4 rfl hl (by decide) rfl (fun ls hl => ?_)
  exact B5 4294967298 0 36 w0 _ _ ls (by have q0 := rl_0.1; have u0 := rl_0.2; omega) r_p1 (rl_0.to (by decide)) rl_36 hw (lv_sub hl [2, 3, 1, 0] rfl)
abbrev wr_J7_fill_53178__1 : List (Nat × Nat) := []
abbrev wa_J7_fill_53178__1 : List Nat := [9]
set_option maxHeartbeats 4000000 in
set_option maxRecDepth 100000 in
theorem c_J7_fill_53178__1 (l : Launch) (D : va_G) (cy : Nat → ClassId) (z : Nat → Nat) (sz : Nat) (Ps : PSI) (w0 : va_W) (hT : HT cy GG Ps w0) (p0 : Nat) (p1 : Int32) (h_p0 : (p0, 9) ∈ Ps) (r_p1 : RI p1 0 0) : Met l yJ7_fill_53178 (Cond.code yJ7_fill_53178 cJ7_fill_53178 4 none :: gT) ({ frames := 0, cells := 0, slots := 0, locals := 200 } : Room) (va_Pc [.ref p0, .int p1] (PRE D cy z w0 sz)) (va_Qv (fun (u : va_W) => (True) ∧ HT cy GG Ps u ∧ FR wr_J7_fill_53178__1 wa_J7_fill_53178__1 Ps w0 u) (BB D cy (va_A w0 sz) (fun (u : va_W) => u)) (va_A w0 sz)) 0 0 (va_A w0 sz) := by
  refine Met.ofW (cc := cJ7_fill_53178) (maxL := 4) (ret := none) (by decide) rfl ?_
  intro p e s m args below meth c s₁ B hml hv
  obtain ⟨rfl, hsz, hP, hK, hD0, hSD⟩ := hv
  have hx := B.exec
  have hb := B.bytes
  have hr := B.returns
  have hlocks := B.notSynchronized
  have hts : ∀ w ∈ gT, w.before _ s = true := fun w h => atoms_spec (ws := Cond.code yJ7_fill_53178 cJ7_fill_53178 4 none :: gT) B.pre w (List.mem_cons_of_mem _ h)
  have hown : s.vm.findClass RJ7 = some m.cls := findClass_of_methodNamed B.named
  subst hsz
  have hD := hD0.self (sz := s.heap.size)
  generalize hAe : va_A w0 s.heap.size = A at hD hSD ⊢
  have hA : ∀ q : Nat, s.heap.size ≤ q → A q := fun q h => by rw [← hAe]; exact Or.inr h
  have hl := lv_entry ([.ref p0, .int p1]) (n := 4) (Nat.le_of_ble_eq_true rfl)
  rw [lg_entry_eq]
  generalize (lg_sl ([.ref p0, .int p1]) ++ List.replicate (4 - (lg_sl ([.ref p0, .int p1])).length) Slot.unset).toArray = ls at hl ⊢
  have hl : lv_has ls 4 [(0, .ref p0), (1, .int p1)] := hl
  refine nameQ (fun Q hQ => ?_)
  have hw : WD D cy GG A s wr_J7_fill_53178__1 wa_J7_fill_53178__1 Ps w0 Ps w0 s.heap [] := ⟨hT, hP, hD, va_S.rf, FR.rf, hT.1, [], (List.append_nil _).symm⟩
  have B5 : ∀ (nf : Nat) (x2 : Int32) (x3 : Int32) (ws : va_W) (H : Heap) (locs : List Loc) (ls : Array Slot), 6 - x2.toInt < (nf : Int) → RI p1 0 0 → RI x2 0 6 → RI x3 6 6 → WD D cy GG A s wr_J7_fill_53178__1 wa_J7_fill_53178__1 Ps w0 Ps ws H locs → lv_has ls 4 [(0, .ref p0), (1, .int p1), (2, .int x2), (3, .int x3)] → W p l e (headSpec (Cond.code yJ7_fill_53178 cJ7_fill_53178 4 none :: gT) ({ frames := 0, cells := 0, slots := 0, locals := 200 } : Room)).room s m ([.ref p0, .int p1] : List Value).toArray below meth c H locs 0 0 Q (F0 m 5 ls []) := by
    intro nf5
    induction nf5 with
    | zero =>
      intro x2 x3 ws H locs ls hn5 r_p1 r_x2 r_x3 hw hl
      exact absurd hn5 (by have q0 := r_x2.1; have u0 := r_x2.2; omega)
    | succ nf5 ih5 =>
      intro x2 x3 ws H locs ls hn5 r_p1 r_x2 r_x3 hw hl
      refine lv_iload_n hx hb dJ7_fill_53178_5 rfl (lv_at hl 2 rfl) ?_
      refine lv_iload_n hx hb dJ7_fill_53178_6 rfl (lv_at hl 3 rfl) ?_
      refine lv_icmp_ge (tgt := 20) hx hb dJ7_fill_53178_7 (by decide) (fun c_7 => ?_) (fun c_7 => ?_)
      · have r_x2 : RI x2 6 6 := rc_le2 r_x3 r_x2 (ti_le c_7) (by decide)
        subst hQ
        exact W.vret hx hb hr (fun t ht hW => ⟨⟨ws, rfl, ⟨trivial, hw.1, hw.2.2.2.2.1⟩, by rw [ht]; exact hw.2.1, va_K.moved hW.alike hK, hw.2.2.1⟩, hw.2.2.2.1.F ht⟩) hw.2.2.2.1.2.2 dJ7_fill_53178_20
      · have r_x2 : RI x2 0 5 := rc_lt1 r_x2 r_x3 (ti_nle c_7) (by decide)
        refine lv_aload_n hx hb dJ7_fill_53178_10 rfl (lv_at hl 0 rfl) ?_
        refine lv_iload_n hx hb dJ7_fill_53178_11 rfl (lv_at hl 2 rfl) ?_
        refine lv_iload_n hx hb dJ7_fill_53178_12 rfl (lv_at hl 1 rfl) ?_
        refine tg_iast hx hb hK hw h_p0 rfl 0 5 r_x2 (by decide) r_p1 (by exact fun _ _ _ => by decide) (fun _ _ _ _ _ => trivial) (by decide) dJ7_fill_53178_13 (fun ws H locs hw hF9 hU9 => ?_)
        obtain ⟨v_1, e_v_1⟩ : ∃ q9 : Int32, q9 = x2 + Int32.ofInt 1 := ⟨_, rfl⟩
        obtain ⟨t_v_1, r_v_1⟩ := tq_add (lo := 1) (hi := 6) r_x2 (show RI (Int32.ofInt 1) 1 1 by unfold RI; decide +kernel) (by decide +kernel) e_v_1
        have t_v_1 : v_1.toInt = x2.toInt + 1 := t_v_1
        refine lv_iinc (v := v_1) (lv' := [(2, .int v_1), (0, .ref p0), (1, .int p1), (3, .int x3)]) hx hb dJ7_fill_53178_14 hl (k := 2) rfl e_v_1.symm (by decide) rfl (fun ls hl => ?_)
        refine lv_goto (tgt := 5) hx hb dJ7_fill_53178_17 (by decide) ?_
        exact ih5 v_1 x3 ws _ _ ls (by have q0 := r_v_1.1; have u0 := r_v_1.2; have o0 := r_x2.1; have p0 := r_x2.2; omega) r_p1 (r_v_1.to (by decide)) r_x3 hw (lv_sub hl [1, 2, 0, 3] rfl)
  refine lv_iconst (v := 0) hx hb dJ7_fill_53178_0 (by decide) ?_
  refine lv_istore_n (lv' := [(2, .int 0), (0, .ref p0), (1, .int p1)]) hx hb dJ7_fill_53178_1 rfl hl (by decide) rfl (fun ls hl => ?_)
  refine lv_aload_n hx hb dJ7_fill_53178_2 rfl (lv_at hl 1 rfl) ?_
  refine tg_alenI (t0 := 1) (v := 6) hx hb hK hw h_p0 rfl rfl rfl dJ7_fill_53178_3 ?_
  refine lv_istore_n (lv' := [(3, .int 6), (2, .int 0), (0, .ref p0), (1, .int p1)]) hx hb dJ7_fill_53178_4 rfl hl (by decide) rfl (fun ls hl => ?_)
  exact B5 4294967298 0 6 w0 _ _ ls (by have q0 := rl_0.1; have u0 := rl_0.2; omega) r_p1 (rl_0.to (by decide)) rl_6 hw (lv_sub hl [2, 3, 1, 0] rfl)
abbrev wr_J7_fill_53178__2 : List (Nat × Nat) := []
abbrev wa_J7_fill_53178__2 : List Nat := [10]
set_option maxHeartbeats 4000000 in
set_option maxRecDepth 100000 in
theorem c_J7_fill_53178__2 (l : Launch) (D : va_G) (cy : Nat → ClassId) (z : Nat → Nat) (sz : Nat) (Ps : PSI) (w0 : va_W) (hT : HT cy GG Ps w0) (p0 : Nat) (p1 : Int32) (h_p0 : (p0, 10) ∈ Ps) (r_p1 : RI p1 0 0) : Met l yJ7_fill_53178 (Cond.code yJ7_fill_53178 cJ7_fill_53178 4 none :: gT) ({ frames := 0, cells := 0, slots := 0, locals := 200 } : Room) (va_Pc [.ref p0, .int p1] (PRE D cy z w0 sz)) (va_Qv (fun (u : va_W) => (True) ∧ HT cy GG Ps u ∧ FR wr_J7_fill_53178__2 wa_J7_fill_53178__2 Ps w0 u) (BB D cy (va_A w0 sz) (fun (u : va_W) => u)) (va_A w0 sz)) 0 0 (va_A w0 sz) := by
  refine Met.ofW (cc := cJ7_fill_53178) (maxL := 4) (ret := none) (by decide) rfl ?_
  intro p e s m args below meth c s₁ B hml hv
  obtain ⟨rfl, hsz, hP, hK, hD0, hSD⟩ := hv
  have hx := B.exec
  have hb := B.bytes
  have hr := B.returns
  have hlocks := B.notSynchronized
  have hts : ∀ w ∈ gT, w.before _ s = true := fun w h => atoms_spec (ws := Cond.code yJ7_fill_53178 cJ7_fill_53178 4 none :: gT) B.pre w (List.mem_cons_of_mem _ h)
  have hown : s.vm.findClass RJ7 = some m.cls := findClass_of_methodNamed B.named
  subst hsz
  have hD := hD0.self (sz := s.heap.size)
  generalize hAe : va_A w0 s.heap.size = A at hD hSD ⊢
  have hA : ∀ q : Nat, s.heap.size ≤ q → A q := fun q h => by rw [← hAe]; exact Or.inr h
  have hl := lv_entry ([.ref p0, .int p1]) (n := 4) (Nat.le_of_ble_eq_true rfl)
  rw [lg_entry_eq]
  generalize (lg_sl ([.ref p0, .int p1]) ++ List.replicate (4 - (lg_sl ([.ref p0, .int p1])).length) Slot.unset).toArray = ls at hl ⊢
  have hl : lv_has ls 4 [(0, .ref p0), (1, .int p1)] := hl
  refine nameQ (fun Q hQ => ?_)
  have hw : WD D cy GG A s wr_J7_fill_53178__2 wa_J7_fill_53178__2 Ps w0 Ps w0 s.heap [] := ⟨hT, hP, hD, va_S.rf, FR.rf, hT.1, [], (List.append_nil _).symm⟩
  have B5 : ∀ (nf : Nat) (x2 : Int32) (x3 : Int32) (ws : va_W) (H : Heap) (locs : List Loc) (ls : Array Slot), 6 - x2.toInt < (nf : Int) → RI p1 0 0 → RI x2 0 6 → RI x3 6 6 → WD D cy GG A s wr_J7_fill_53178__2 wa_J7_fill_53178__2 Ps w0 Ps ws H locs → lv_has ls 4 [(0, .ref p0), (1, .int p1), (2, .int x2), (3, .int x3)] → W p l e (headSpec (Cond.code yJ7_fill_53178 cJ7_fill_53178 4 none :: gT) ({ frames := 0, cells := 0, slots := 0, locals := 200 } : Room)).room s m ([.ref p0, .int p1] : List Value).toArray below meth c H locs 0 0 Q (F0 m 5 ls []) := by
    intro nf5
    induction nf5 with
    | zero =>
      intro x2 x3 ws H locs ls hn5 r_p1 r_x2 r_x3 hw hl
      exact absurd hn5 (by have q0 := r_x2.1; have u0 := r_x2.2; omega)
    | succ nf5 ih5 =>
      intro x2 x3 ws H locs ls hn5 r_p1 r_x2 r_x3 hw hl
      refine lv_iload_n hx hb dJ7_fill_53178_5 rfl (lv_at hl 2 rfl) ?_
      refine lv_iload_n hx hb dJ7_fill_53178_6 rfl (lv_at hl 3 rfl) ?_
      refine lv_icmp_ge (tgt := 20) hx hb dJ7_fill_53178_7 (by decide) (fun c_7 => ?_) (fun c_7 => ?_)
      · have r_x2 : RI x2 6 6 := rc_le2 r_x3 r_x2 (ti_le c_7) (by decide)
        subst hQ
        exact W.vret hx hb hr (fun t ht hW => ⟨⟨ws, rfl, ⟨trivial, hw.1, hw.2.2.2.2.1⟩, by rw [ht]; exact hw.2.1, va_K.moved hW.alike hK, hw.2.2.1⟩, hw.2.2.2.1.F ht⟩) hw.2.2.2.1.2.2 dJ7_fill_53178_20
      · have r_x2 : RI x2 0 5 := rc_lt1 r_x2 r_x3 (ti_nle c_7) (by decide)
        refine lv_aload_n hx hb dJ7_fill_53178_10 rfl (lv_at hl 0 rfl) ?_
        refine lv_iload_n hx hb dJ7_fill_53178_11 rfl (lv_at hl 2 rfl) ?_
        refine lv_iload_n hx hb dJ7_fill_53178_12 rfl (lv_at hl 1 rfl) ?_
        refine tg_iast hx hb hK hw h_p0 rfl 0 5 r_x2 (by decide) r_p1 (by exact fun _ _ _ => by decide) (fun _ _ _ _ _ => trivial) (by decide) dJ7_fill_53178_13 (fun ws H locs hw hF9 hU9 => ?_)
        obtain ⟨v_1, e_v_1⟩ : ∃ q9 : Int32, q9 = x2 + Int32.ofInt 1 := ⟨_, rfl⟩
        obtain ⟨t_v_1, r_v_1⟩ := tq_add (lo := 1) (hi := 6) r_x2 (show RI (Int32.ofInt 1) 1 1 by unfold RI; decide +kernel) (by decide +kernel) e_v_1
        have t_v_1 : v_1.toInt = x2.toInt + 1 := t_v_1
        refine lv_iinc (v := v_1) (lv' := [(2, .int v_1), (0, .ref p0), (1, .int p1), (3, .int x3)]) hx hb dJ7_fill_53178_14 hl (k := 2) rfl e_v_1.symm (by decide) rfl (fun ls hl => ?_)
        refine lv_goto (tgt := 5) hx hb dJ7_fill_53178_17 (by decide) ?_
        exact ih5 v_1 x3 ws _ _ ls (by have q0 := r_v_1.1; have u0 := r_v_1.2; have o0 := r_x2.1; have p0 := r_x2.2; omega) r_p1 (r_v_1.to (by decide)) r_x3 hw (lv_sub hl [1, 2, 0, 3] rfl)
  refine lv_iconst (v := 0) hx hb dJ7_fill_53178_0 (by decide) ?_
  refine lv_istore_n (lv' := [(2, .int 0), (0, .ref p0), (1, .int p1)]) hx hb dJ7_fill_53178_1 rfl hl (by decide) rfl (fun ls hl => ?_)
  refine lv_aload_n hx hb dJ7_fill_53178_2 rfl (lv_at hl 1 rfl) ?_
  refine tg_alenI (t0 := 1) (v := 6) hx hb hK hw h_p0 rfl rfl rfl dJ7_fill_53178_3 ?_
  refine lv_istore_n (lv' := [(3, .int 6), (2, .int 0), (0, .ref p0), (1, .int p1)]) hx hb dJ7_fill_53178_4 rfl hl (by decide) rfl (fun ls hl => ?_)
  exact B5 4294967298 0 6 w0 _ _ ls (by have q0 := rl_0.1; have u0 := rl_0.2; omega) r_p1 (rl_0.to (by decide)) rl_6 hw (lv_sub hl [2, 3, 1, 0] rfl)
abbrev wr_J7_fill_53178__3 : List (Nat × Nat) := []
abbrev wa_J7_fill_53178__3 : List Nat := [11]
set_option maxHeartbeats 4000000 in
set_option maxRecDepth 100000 in
theorem c_J7_fill_53178__3 (l : Launch) (D : va_G) (cy : Nat → ClassId) (z : Nat → Nat) (sz : Nat) (Ps : PSI) (w0 : va_W) (hT : HT cy GG Ps w0) (p0 : Nat) (p1 : Int32) (h_p0 : (p0, 11) ∈ Ps) (r_p1 : RI p1 0 0) : Met l yJ7_fill_53178 (Cond.code yJ7_fill_53178 cJ7_fill_53178 4 none :: gT) ({ frames := 0, cells := 0, slots := 0, locals := 200 } : Room) (va_Pc [.ref p0, .int p1] (PRE D cy z w0 sz)) (va_Qv (fun (u : va_W) => (True) ∧ HT cy GG Ps u ∧ FR wr_J7_fill_53178__3 wa_J7_fill_53178__3 Ps w0 u) (BB D cy (va_A w0 sz) (fun (u : va_W) => u)) (va_A w0 sz)) 0 0 (va_A w0 sz) := by
  refine Met.ofW (cc := cJ7_fill_53178) (maxL := 4) (ret := none) (by decide) rfl ?_
  intro p e s m args below meth c s₁ B hml hv
  obtain ⟨rfl, hsz, hP, hK, hD0, hSD⟩ := hv
  have hx := B.exec
  have hb := B.bytes
  have hr := B.returns
  have hlocks := B.notSynchronized
  have hts : ∀ w ∈ gT, w.before _ s = true := fun w h => atoms_spec (ws := Cond.code yJ7_fill_53178 cJ7_fill_53178 4 none :: gT) B.pre w (List.mem_cons_of_mem _ h)
  have hown : s.vm.findClass RJ7 = some m.cls := findClass_of_methodNamed B.named
  subst hsz
  have hD := hD0.self (sz := s.heap.size)
  generalize hAe : va_A w0 s.heap.size = A at hD hSD ⊢
  have hA : ∀ q : Nat, s.heap.size ≤ q → A q := fun q h => by rw [← hAe]; exact Or.inr h
  have hl := lv_entry ([.ref p0, .int p1]) (n := 4) (Nat.le_of_ble_eq_true rfl)
  rw [lg_entry_eq]
  generalize (lg_sl ([.ref p0, .int p1]) ++ List.replicate (4 - (lg_sl ([.ref p0, .int p1])).length) Slot.unset).toArray = ls at hl ⊢
  have hl : lv_has ls 4 [(0, .ref p0), (1, .int p1)] := hl
  refine nameQ (fun Q hQ => ?_)
  have hw : WD D cy GG A s wr_J7_fill_53178__3 wa_J7_fill_53178__3 Ps w0 Ps w0 s.heap [] := ⟨hT, hP, hD, va_S.rf, FR.rf, hT.1, [], (List.append_nil _).symm⟩
  have B5 : ∀ (nf : Nat) (x2 : Int32) (x3 : Int32) (ws : va_W) (H : Heap) (locs : List Loc) (ls : Array Slot), 8 - x2.toInt < (nf : Int) → RI p1 0 0 → RI x2 0 8 → RI x3 8 8 → WD D cy GG A s wr_J7_fill_53178__3 wa_J7_fill_53178__3 Ps w0 Ps ws H locs → lv_has ls 4 [(0, .ref p0), (1, .int p1), (2, .int x2), (3, .int x3)] → W p l e (headSpec (Cond.code yJ7_fill_53178 cJ7_fill_53178 4 none :: gT) ({ frames := 0, cells := 0, slots := 0, locals := 200 } : Room)).room s m ([.ref p0, .int p1] : List Value).toArray below meth c H locs 0 0 Q (F0 m 5 ls []) := by
    intro nf5
    induction nf5 with
    | zero =>
      intro x2 x3 ws H locs ls hn5 r_p1 r_x2 r_x3 hw hl
      exact absurd hn5 (by have q0 := r_x2.1; have u0 := r_x2.2; omega)
    | succ nf5 ih5 =>
      intro x2 x3 ws H locs ls hn5 r_p1 r_x2 r_x3 hw hl
      refine lv_iload_n hx hb dJ7_fill_53178_5 rfl (lv_at hl 2 rfl) ?_
      refine lv_iload_n hx hb dJ7_fill_53178_6 rfl (lv_at hl 3 rfl) ?_
      refine lv_icmp_ge (tgt := 20) hx hb dJ7_fill_53178_7 (by decide) (fun c_7 => ?_) (fun c_7 => ?_)
      · have r_x2 : RI x2 8 8 := rc_le2 r_x3 r_x2 (ti_le c_7) (by decide)
        subst hQ
        exact W.vret hx hb hr (fun t ht hW => ⟨⟨ws, rfl, ⟨trivial, hw.1, hw.2.2.2.2.1⟩, by rw [ht]; exact hw.2.1, va_K.moved hW.alike hK, hw.2.2.1⟩, hw.2.2.2.1.F ht⟩) hw.2.2.2.1.2.2 dJ7_fill_53178_20
      · have r_x2 : RI x2 0 7 := rc_lt1 r_x2 r_x3 (ti_nle c_7) (by decide)
        refine lv_aload_n hx hb dJ7_fill_53178_10 rfl (lv_at hl 0 rfl) ?_
        refine lv_iload_n hx hb dJ7_fill_53178_11 rfl (lv_at hl 2 rfl) ?_
        refine lv_iload_n hx hb dJ7_fill_53178_12 rfl (lv_at hl 1 rfl) ?_
        refine tg_iast hx hb hK hw h_p0 rfl 0 7 r_x2 (by decide) r_p1 (by exact fun _ _ _ => by decide) (fun _ _ _ _ _ => trivial) (by decide) dJ7_fill_53178_13 (fun ws H locs hw hF9 hU9 => ?_)
        obtain ⟨v_1, e_v_1⟩ : ∃ q9 : Int32, q9 = x2 + Int32.ofInt 1 := ⟨_, rfl⟩
        obtain ⟨t_v_1, r_v_1⟩ := tq_add (lo := 1) (hi := 8) r_x2 (show RI (Int32.ofInt 1) 1 1 by unfold RI; decide +kernel) (by decide +kernel) e_v_1
        have t_v_1 : v_1.toInt = x2.toInt + 1 := t_v_1
        refine lv_iinc (v := v_1) (lv' := [(2, .int v_1), (0, .ref p0), (1, .int p1), (3, .int x3)]) hx hb dJ7_fill_53178_14 hl (k := 2) rfl e_v_1.symm (by decide) rfl (fun ls hl => ?_)
        refine lv_goto (tgt := 5) hx hb dJ7_fill_53178_17 (by decide) ?_
        exact ih5 v_1 x3 ws _ _ ls (by have q0 := r_v_1.1; have u0 := r_v_1.2; have o0 := r_x2.1; have p0 := r_x2.2; omega) r_p1 (r_v_1.to (by decide)) r_x3 hw (lv_sub hl [1, 2, 0, 3] rfl)
  refine lv_iconst (v := 0) hx hb dJ7_fill_53178_0 (by decide) ?_
  refine lv_istore_n (lv' := [(2, .int 0), (0, .ref p0), (1, .int p1)]) hx hb dJ7_fill_53178_1 rfl hl (by decide) rfl (fun ls hl => ?_)
  refine lv_aload_n hx hb dJ7_fill_53178_2 rfl (lv_at hl 1 rfl) ?_
  refine tg_alenI (t0 := 1) (v := 8) hx hb hK hw h_p0 rfl rfl rfl dJ7_fill_53178_3 ?_
  refine lv_istore_n (lv' := [(3, .int 8), (2, .int 0), (0, .ref p0), (1, .int p1)]) hx hb dJ7_fill_53178_4 rfl hl (by decide) rfl (fun ls hl => ?_)
  exact B5 4294967298 0 8 w0 _ _ ls (by have q0 := rl_0.1; have u0 := rl_0.2; omega) r_p1 (rl_0.to (by decide)) rl_8 hw (lv_sub hl [2, 3, 1, 0] rfl)
abbrev wr_J7_fill_53178__4 : List (Nat × Nat) := []
abbrev wa_J7_fill_53178__4 : List Nat := [12]
set_option maxHeartbeats 4000000 in
set_option maxRecDepth 100000 in
theorem c_J7_fill_53178__4 (l : Launch) (D : va_G) (cy : Nat → ClassId) (z : Nat → Nat) (sz : Nat) (Ps : PSI) (w0 : va_W) (hT : HT cy GG Ps w0) (p0 : Nat) (p1 : Int32) (h_p0 : (p0, 12) ∈ Ps) (r_p1 : RI p1 (-1) (-1)) : Met l yJ7_fill_53178 (Cond.code yJ7_fill_53178 cJ7_fill_53178 4 none :: gT) ({ frames := 0, cells := 0, slots := 0, locals := 200 } : Room) (va_Pc [.ref p0, .int p1] (PRE D cy z w0 sz)) (va_Qv (fun (u : va_W) => (True) ∧ HT cy GG Ps u ∧ FR wr_J7_fill_53178__4 wa_J7_fill_53178__4 Ps w0 u) (BB D cy (va_A w0 sz) (fun (u : va_W) => u)) (va_A w0 sz)) 0 0 (va_A w0 sz) := by
  refine Met.ofW (cc := cJ7_fill_53178) (maxL := 4) (ret := none) (by decide) rfl ?_
  intro p e s m args below meth c s₁ B hml hv
  obtain ⟨rfl, hsz, hP, hK, hD0, hSD⟩ := hv
  have hx := B.exec
  have hb := B.bytes
  have hr := B.returns
  have hlocks := B.notSynchronized
  have hts : ∀ w ∈ gT, w.before _ s = true := fun w h => atoms_spec (ws := Cond.code yJ7_fill_53178 cJ7_fill_53178 4 none :: gT) B.pre w (List.mem_cons_of_mem _ h)
  have hown : s.vm.findClass RJ7 = some m.cls := findClass_of_methodNamed B.named
  subst hsz
  have hD := hD0.self (sz := s.heap.size)
  generalize hAe : va_A w0 s.heap.size = A at hD hSD ⊢
  have hA : ∀ q : Nat, s.heap.size ≤ q → A q := fun q h => by rw [← hAe]; exact Or.inr h
  have hl := lv_entry ([.ref p0, .int p1]) (n := 4) (Nat.le_of_ble_eq_true rfl)
  rw [lg_entry_eq]
  generalize (lg_sl ([.ref p0, .int p1]) ++ List.replicate (4 - (lg_sl ([.ref p0, .int p1])).length) Slot.unset).toArray = ls at hl ⊢
  have hl : lv_has ls 4 [(0, .ref p0), (1, .int p1)] := hl
  refine nameQ (fun Q hQ => ?_)
  have hw : WD D cy GG A s wr_J7_fill_53178__4 wa_J7_fill_53178__4 Ps w0 Ps w0 s.heap [] := ⟨hT, hP, hD, va_S.rf, FR.rf, hT.1, [], (List.append_nil _).symm⟩
  have B5 : ∀ (nf : Nat) (x2 : Int32) (x3 : Int32) (ws : va_W) (H : Heap) (locs : List Loc) (ls : Array Slot), 8 - x2.toInt < (nf : Int) → RI p1 (-1) (-1) → RI x2 0 8 → RI x3 8 8 → WD D cy GG A s wr_J7_fill_53178__4 wa_J7_fill_53178__4 Ps w0 Ps ws H locs → lv_has ls 4 [(0, .ref p0), (1, .int p1), (2, .int x2), (3, .int x3)] → W p l e (headSpec (Cond.code yJ7_fill_53178 cJ7_fill_53178 4 none :: gT) ({ frames := 0, cells := 0, slots := 0, locals := 200 } : Room)).room s m ([.ref p0, .int p1] : List Value).toArray below meth c H locs 0 0 Q (F0 m 5 ls []) := by
    intro nf5
    induction nf5 with
    | zero =>
      intro x2 x3 ws H locs ls hn5 r_p1 r_x2 r_x3 hw hl
      exact absurd hn5 (by have q0 := r_x2.1; have u0 := r_x2.2; omega)
    | succ nf5 ih5 =>
      intro x2 x3 ws H locs ls hn5 r_p1 r_x2 r_x3 hw hl
      refine lv_iload_n hx hb dJ7_fill_53178_5 rfl (lv_at hl 2 rfl) ?_
      refine lv_iload_n hx hb dJ7_fill_53178_6 rfl (lv_at hl 3 rfl) ?_
      refine lv_icmp_ge (tgt := 20) hx hb dJ7_fill_53178_7 (by decide) (fun c_7 => ?_) (fun c_7 => ?_)
      · have r_x2 : RI x2 8 8 := rc_le2 r_x3 r_x2 (ti_le c_7) (by decide)
        subst hQ
        exact W.vret hx hb hr (fun t ht hW => ⟨⟨ws, rfl, ⟨trivial, hw.1, hw.2.2.2.2.1⟩, by rw [ht]; exact hw.2.1, va_K.moved hW.alike hK, hw.2.2.1⟩, hw.2.2.2.1.F ht⟩) hw.2.2.2.1.2.2 dJ7_fill_53178_20
      · have r_x2 : RI x2 0 7 := rc_lt1 r_x2 r_x3 (ti_nle c_7) (by decide)
        refine lv_aload_n hx hb dJ7_fill_53178_10 rfl (lv_at hl 0 rfl) ?_
        refine lv_iload_n hx hb dJ7_fill_53178_11 rfl (lv_at hl 2 rfl) ?_
        refine lv_iload_n hx hb dJ7_fill_53178_12 rfl (lv_at hl 1 rfl) ?_
        refine tg_iast hx hb hK hw h_p0 rfl 0 7 r_x2 (by decide) r_p1 (by exact fun _ _ _ => by decide) (fun _ _ _ _ _ => trivial) (by decide) dJ7_fill_53178_13 (fun ws H locs hw hF9 hU9 => ?_)
        obtain ⟨v_1, e_v_1⟩ : ∃ q9 : Int32, q9 = x2 + Int32.ofInt 1 := ⟨_, rfl⟩
        obtain ⟨t_v_1, r_v_1⟩ := tq_add (lo := 1) (hi := 8) r_x2 (show RI (Int32.ofInt 1) 1 1 by unfold RI; decide +kernel) (by decide +kernel) e_v_1
        have t_v_1 : v_1.toInt = x2.toInt + 1 := t_v_1
        refine lv_iinc (v := v_1) (lv' := [(2, .int v_1), (0, .ref p0), (1, .int p1), (3, .int x3)]) hx hb dJ7_fill_53178_14 hl (k := 2) rfl e_v_1.symm (by decide) rfl (fun ls hl => ?_)
        refine lv_goto (tgt := 5) hx hb dJ7_fill_53178_17 (by decide) ?_
        exact ih5 v_1 x3 ws _ _ ls (by have q0 := r_v_1.1; have u0 := r_v_1.2; have o0 := r_x2.1; have p0 := r_x2.2; omega) r_p1 (r_v_1.to (by decide)) r_x3 hw (lv_sub hl [1, 2, 0, 3] rfl)
  refine lv_iconst (v := 0) hx hb dJ7_fill_53178_0 (by decide) ?_
  refine lv_istore_n (lv' := [(2, .int 0), (0, .ref p0), (1, .int p1)]) hx hb dJ7_fill_53178_1 rfl hl (by decide) rfl (fun ls hl => ?_)
  refine lv_aload_n hx hb dJ7_fill_53178_2 rfl (lv_at hl 1 rfl) ?_
  refine tg_alenI (t0 := 1) (v := 8) hx hb hK hw h_p0 rfl rfl rfl dJ7_fill_53178_3 ?_
  refine lv_istore_n (lv' := [(3, .int 8), (2, .int 0), (0, .ref p0), (1, .int p1)]) hx hb dJ7_fill_53178_4 rfl hl (by decide) rfl (fun ls hl => ?_)
  exact B5 4294967298 0 8 w0 _ _ ls (by have q0 := rl_0.1; have u0 := rl_0.2; omega) r_p1 (rl_0.to (by decide)) rl_8 hw (lv_sub hl [2, 3, 1, 0] rfl)
abbrev wr_J7_fill_53178__5 : List (Nat × Nat) := []
abbrev wa_J7_fill_53178__5 : List Nat := [13]
set_option maxHeartbeats 4000000 in
set_option maxRecDepth 100000 in
theorem c_J7_fill_53178__5 (l : Launch) (D : va_G) (cy : Nat → ClassId) (z : Nat → Nat) (sz : Nat) (Ps : PSI) (w0 : va_W) (hT : HT cy GG Ps w0) (p0 : Nat) (p1 : Int32) (h_p0 : (p0, 13) ∈ Ps) (r_p1 : RI p1 0 0) : Met l yJ7_fill_53178 (Cond.code yJ7_fill_53178 cJ7_fill_53178 4 none :: gT) ({ frames := 0, cells := 0, slots := 0, locals := 200 } : Room) (va_Pc [.ref p0, .int p1] (PRE D cy z w0 sz)) (va_Qv (fun (u : va_W) => (True) ∧ HT cy GG Ps u ∧ FR wr_J7_fill_53178__5 wa_J7_fill_53178__5 Ps w0 u) (BB D cy (va_A w0 sz) (fun (u : va_W) => u)) (va_A w0 sz)) 0 0 (va_A w0 sz) := by
  refine Met.ofW (cc := cJ7_fill_53178) (maxL := 4) (ret := none) (by decide) rfl ?_
  intro p e s m args below meth c s₁ B hml hv
  obtain ⟨rfl, hsz, hP, hK, hD0, hSD⟩ := hv
  have hx := B.exec
  have hb := B.bytes
  have hr := B.returns
  have hlocks := B.notSynchronized
  have hts : ∀ w ∈ gT, w.before _ s = true := fun w h => atoms_spec (ws := Cond.code yJ7_fill_53178 cJ7_fill_53178 4 none :: gT) B.pre w (List.mem_cons_of_mem _ h)
  have hown : s.vm.findClass RJ7 = some m.cls := findClass_of_methodNamed B.named
  subst hsz
  have hD := hD0.self (sz := s.heap.size)
  generalize hAe : va_A w0 s.heap.size = A at hD hSD ⊢
  have hA : ∀ q : Nat, s.heap.size ≤ q → A q := fun q h => by rw [← hAe]; exact Or.inr h
  have hl := lv_entry ([.ref p0, .int p1]) (n := 4) (Nat.le_of_ble_eq_true rfl)
  rw [lg_entry_eq]
  generalize (lg_sl ([.ref p0, .int p1]) ++ List.replicate (4 - (lg_sl ([.ref p0, .int p1])).length) Slot.unset).toArray = ls at hl ⊢
  have hl : lv_has ls 4 [(0, .ref p0), (1, .int p1)] := hl
  refine nameQ (fun Q hQ => ?_)
  have hw : WD D cy GG A s wr_J7_fill_53178__5 wa_J7_fill_53178__5 Ps w0 Ps w0 s.heap [] := ⟨hT, hP, hD, va_S.rf, FR.rf, hT.1, [], (List.append_nil _).symm⟩
  have B5 : ∀ (nf : Nat) (x2 : Int32) (x3 : Int32) (ws : va_W) (H : Heap) (locs : List Loc) (ls : Array Slot), 8 - x2.toInt < (nf : Int) → RI p1 0 0 → RI x2 0 8 → RI x3 8 8 → WD D cy GG A s wr_J7_fill_53178__5 wa_J7_fill_53178__5 Ps w0 Ps ws H locs → lv_has ls 4 [(0, .ref p0), (1, .int p1), (2, .int x2), (3, .int x3)] → W p l e (headSpec (Cond.code yJ7_fill_53178 cJ7_fill_53178 4 none :: gT) ({ frames := 0, cells := 0, slots := 0, locals := 200 } : Room)).room s m ([.ref p0, .int p1] : List Value).toArray below meth c H locs 0 0 Q (F0 m 5 ls []) := by
    intro nf5
    induction nf5 with
    | zero =>
      intro x2 x3 ws H locs ls hn5 r_p1 r_x2 r_x3 hw hl
      exact absurd hn5 (by have q0 := r_x2.1; have u0 := r_x2.2; omega)
    | succ nf5 ih5 =>
      intro x2 x3 ws H locs ls hn5 r_p1 r_x2 r_x3 hw hl
      refine lv_iload_n hx hb dJ7_fill_53178_5 rfl (lv_at hl 2 rfl) ?_
      refine lv_iload_n hx hb dJ7_fill_53178_6 rfl (lv_at hl 3 rfl) ?_
      refine lv_icmp_ge (tgt := 20) hx hb dJ7_fill_53178_7 (by decide) (fun c_7 => ?_) (fun c_7 => ?_)
      · have r_x2 : RI x2 8 8 := rc_le2 r_x3 r_x2 (ti_le c_7) (by decide)
        subst hQ
        exact W.vret hx hb hr (fun t ht hW => ⟨⟨ws, rfl, ⟨trivial, hw.1, hw.2.2.2.2.1⟩, by rw [ht]; exact hw.2.1, va_K.moved hW.alike hK, hw.2.2.1⟩, hw.2.2.2.1.F ht⟩) hw.2.2.2.1.2.2 dJ7_fill_53178_20
      · have r_x2 : RI x2 0 7 := rc_lt1 r_x2 r_x3 (ti_nle c_7) (by decide)
        refine lv_aload_n hx hb dJ7_fill_53178_10 rfl (lv_at hl 0 rfl) ?_
        refine lv_iload_n hx hb dJ7_fill_53178_11 rfl (lv_at hl 2 rfl) ?_
        refine lv_iload_n hx hb dJ7_fill_53178_12 rfl (lv_at hl 1 rfl) ?_
        refine tg_iast hx hb hK hw h_p0 rfl 0 7 r_x2 (by decide) r_p1 (by exact fun _ _ _ => by decide) (fun _ _ _ _ _ => trivial) (by decide) dJ7_fill_53178_13 (fun ws H locs hw hF9 hU9 => ?_)
        obtain ⟨v_1, e_v_1⟩ : ∃ q9 : Int32, q9 = x2 + Int32.ofInt 1 := ⟨_, rfl⟩
        obtain ⟨t_v_1, r_v_1⟩ := tq_add (lo := 1) (hi := 8) r_x2 (show RI (Int32.ofInt 1) 1 1 by unfold RI; decide +kernel) (by decide +kernel) e_v_1
        have t_v_1 : v_1.toInt = x2.toInt + 1 := t_v_1
        refine lv_iinc (v := v_1) (lv' := [(2, .int v_1), (0, .ref p0), (1, .int p1), (3, .int x3)]) hx hb dJ7_fill_53178_14 hl (k := 2) rfl e_v_1.symm (by decide) rfl (fun ls hl => ?_)
        refine lv_goto (tgt := 5) hx hb dJ7_fill_53178_17 (by decide) ?_
        exact ih5 v_1 x3 ws _ _ ls (by have q0 := r_v_1.1; have u0 := r_v_1.2; have o0 := r_x2.1; have p0 := r_x2.2; omega) r_p1 (r_v_1.to (by decide)) r_x3 hw (lv_sub hl [1, 2, 0, 3] rfl)
  refine lv_iconst (v := 0) hx hb dJ7_fill_53178_0 (by decide) ?_
  refine lv_istore_n (lv' := [(2, .int 0), (0, .ref p0), (1, .int p1)]) hx hb dJ7_fill_53178_1 rfl hl (by decide) rfl (fun ls hl => ?_)
  refine lv_aload_n hx hb dJ7_fill_53178_2 rfl (lv_at hl 1 rfl) ?_
  refine tg_alenI (t0 := 1) (v := 8) hx hb hK hw h_p0 rfl rfl rfl dJ7_fill_53178_3 ?_
  refine lv_istore_n (lv' := [(3, .int 8), (2, .int 0), (0, .ref p0), (1, .int p1)]) hx hb dJ7_fill_53178_4 rfl hl (by decide) rfl (fun ls hl => ?_)
  exact B5 4294967298 0 8 w0 _ _ ls (by have q0 := rl_0.1; have u0 := rl_0.2; omega) r_p1 (rl_0.to (by decide)) rl_8 hw (lv_sub hl [2, 3, 1, 0] rfl)
abbrev wr_X8_begin : List (Nat × Nat) := [(8, 0), (8, 1)]
abbrev wa_X8_begin : List Nat := [8, 9, 10, 11, 12, 13]
set_option maxHeartbeats 4000000 in
set_option maxRecDepth 100000 in
theorem c_X8_begin (l : Launch) (D : va_G) (cy : Nat → ClassId) (z : Nat → Nat) (sz : Nat) (Ps : PSI) (w0 : va_W) (hT : HT cy GG Ps w0) (p0 : Nat) (p1 : Nat) (h_p0 : (p0, 24) ∈ Ps) (h_p1 : (p1, 25) ∈ Ps) : Met l yX8_begin (Cond.code yX8_begin cX8_begin 2 none :: gT) ({ frames := 2, cells := 0, slots := 0, locals := 400 } : Room) (va_Pc [.ref p0, .ref p1] (PRE D cy z w0 sz)) (va_Qv (fun (u : va_W) => (True) ∧ HT cy GG Ps u ∧ FR wr_X8_begin wa_X8_begin Ps w0 u) (BB D cy (va_A w0 sz) (fun (u : va_W) => u)) (va_A w0 sz)) 0 0 (va_A w0 sz) := by
  refine Met.ofW (cc := cX8_begin) (maxL := 2) (ret := none) (by decide) rfl ?_
  intro p e s m args below meth c s₁ B hml hv
  obtain ⟨rfl, hsz, hP, hK, hD0, hSD⟩ := hv
  have hx := B.exec
  have hb := B.bytes
  have hr := B.returns
  have hlocks := B.notSynchronized
  have hts : ∀ w ∈ gT, w.before _ s = true := fun w h => atoms_spec (ws := Cond.code yX8_begin cX8_begin 2 none :: gT) B.pre w (List.mem_cons_of_mem _ h)
  have hown : s.vm.findClass RX8 = some m.cls := findClass_of_methodNamed B.named
  subst hsz
  have hD := hD0.self (sz := s.heap.size)
  generalize hAe : va_A w0 s.heap.size = A at hD hSD ⊢
  have hA : ∀ q : Nat, s.heap.size ≤ q → A q := fun q h => by rw [← hAe]; exact Or.inr h
  have hl := lv_entry ([.ref p0, .ref p1]) (n := 2) (Nat.le_of_ble_eq_true rfl)
  rw [lg_entry_eq]
  generalize (lg_sl ([.ref p0, .ref p1]) ++ List.replicate (2 - (lg_sl ([.ref p0, .ref p1])).length) Slot.unset).toArray = ls at hl ⊢
  have hl : lv_has ls 2 [(0, .ref p0), (1, .ref p1)] := hl
  refine nameQ (fun Q hQ => ?_)
  have hw : WD D cy GG A s wr_X8_begin wa_X8_begin Ps w0 Ps w0 s.heap [] := ⟨hT, hP, hD, va_S.rf, FR.rf, hT.1, [], (List.append_nil _).symm⟩
  refine lv_aload_n hx hb dX8_begin_0 rfl (lv_at hl 0 rfl) ?_
  refine lv_aload_n hx hb dX8_begin_1 rfl (lv_at hl 1 rfl) ?_
  refine tg_put (ci := 8) (ts := ty_WORLD) (v := .ref p1) (ty := .object "WonderParcels$Post") (C := RX8) (T := TX8) (N := 13) hx hb hts inX8 tyX8 tyX8_ok nmX8 hown hK hw h_p0 rfl rfl 0 (by decide) (hts _ tw_247) (fun _ h9 => h9) rfl (by decide +kernel) rfl rfl (ft := vR 25) rfl ⟨_, rfl, h_p1⟩ (by decide) dX8_begin_2 (fun ws H locs hw n_k_1 hF9 => ?_)
  refine lv_aload_n hx hb dX8_begin_5 rfl (lv_at hl 0 rfl) ?_
  refine lv_iconst (v := 0) hx hb dX8_begin_6 (by decide) ?_
  refine tg_put (ci := 8) (ts := ty_WORLD) (v := .int 0) (ty := .int) (C := RX8) (T := TX8) (N := 13) hx hb hts inX8 tyX8 tyX8_ok nmX8 hown hK hw h_p0 rfl rfl 1 (by decide) (hts _ tw_250) (fun _ h9 => h9) rfl (by decide +kernel) rfl rfl (ft := vI (-2147483648) 2147483647) rfl ⟨_, rfl, (rl_0.to (by decide))⟩ (by decide) dX8_begin_7 (fun ws H locs hw n_k_2 hF9 => ?_)
  refine lv_aload_n hx hb dX8_begin_10 rfl (lv_at hl 0 rfl) ?_
  refine tg_get (ci := 8) (ts := ty_WORLD) (C := RX8) (T := TX8) (N := 13) hx hb hts inX8 hown hK hw h_p0 rfl rfl 2 (by decide) (hts _ tw_252) (fun _ h9 => h9) (ft := vR 8) rfl dX8_begin_11 (fun u_3 hv_u_3 m_u_3 => ?_)
  obtain ⟨vu_3, rfl, h_vu_3⟩ := hv_u_3
  refine lv_iconst (v := 0) hx hb dX8_begin_14 (by decide) ?_
  refine tk_v (va_runS (As := [.ref vu_3, .int 0]) (rest := []) ⟨hx, hb, hml, hown, hts⟩ (c_J7_fill_53178 l D cy z H.size Ps ws hw.1 vu_3 0 h_vu_3 rl_0) (va_cwS 2 hts (gS tw_246 tw_167 tw_9 tw_168) rfl rfl rfl (by decide +kernel) ⟨Nat.le_of_ble_eq_true rfl, Nat.le_of_ble_eq_true rfl⟩) (tg_preS hw hK hSD hA) rfl rfl hl.1 rfl (lv_room (Nat.le_of_ble_eq_true rfl)) dX8_begin_15 ⟨Nat.le_of_ble_eq_true rfl, Nat.le_of_ble_eq_true rfl⟩) hw hA ⟨by decide, by decide⟩ (fun ws H locs hp_v_4 hw hF9 => ?_)
  have n_k_2 := FLD.over hF9 n_k_2 (by decide)
  refine lv_aload_n hx hb dX8_begin_18 rfl (lv_at hl 0 rfl) ?_
  refine tg_get (ci := 8) (ts := ty_WORLD) (C := RX8) (T := TX8) (N := 13) hx hb hts inX8 hown hK hw h_p0 rfl rfl 3 (by decide) (hts _ tw_253) (fun _ h9 => h9) (ft := vR 9) rfl dX8_begin_19 (fun u_5 hv_u_5 m_u_5 => ?_)
  obtain ⟨vu_5, rfl, h_vu_5⟩ := hv_u_5
  refine lv_iconst (v := 0) hx hb dX8_begin_22 (by decide) ?_
  refine tk_v (va_runS (As := [.ref vu_5, .int 0]) (rest := []) ⟨hx, hb, hml, hown, hts⟩ (c_J7_fill_53178__1 l D cy z H.size Ps ws hw.1 vu_5 0 h_vu_5 rl_0) (va_cwS 2 hts (gS tw_246 tw_167 tw_9 tw_168) rfl rfl rfl (by decide +kernel) ⟨Nat.le_of_ble_eq_true rfl, Nat.le_of_ble_eq_true rfl⟩) (tg_preS hw hK hSD hA) rfl rfl hl.1 rfl (lv_room (Nat.le_of_ble_eq_true rfl)) dX8_begin_23 ⟨Nat.le_of_ble_eq_true rfl, Nat.le_of_ble_eq_true rfl⟩) hw hA ⟨by decide, by decide⟩ (fun ws H locs hp_v_6 hw hF9 => ?_)
  have n_k_2 := FLD.over hF9 n_k_2 (by decide)
  refine lv_aload_n hx hb dX8_begin_26 rfl (lv_at hl 0 rfl) ?_
  refine tg_get (ci := 8) (ts := ty_WORLD) (C := RX8) (T := TX8) (N := 13) hx hb hts inX8 hown hK hw h_p0 rfl rfl 4 (by decide) (hts _ tw_257) (fun _ h9 => h9) (ft := vR 10) rfl dX8_begin_27 (fun u_7 hv_u_7 m_u_7 => ?_)
  obtain ⟨vu_7, rfl, h_vu_7⟩ := hv_u_7
  refine lv_iconst (v := 0) hx hb dX8_begin_30 (by decide) ?_
  refine tk_v (va_runS (As := [.ref vu_7, .int 0]) (rest := []) ⟨hx, hb, hml, hown, hts⟩ (c_J7_fill_53178__2 l D cy z H.size Ps ws hw.1 vu_7 0 h_vu_7 rl_0) (va_cwS 2 hts (gS tw_246 tw_167 tw_9 tw_168) rfl rfl rfl (by decide +kernel) ⟨Nat.le_of_ble_eq_true rfl, Nat.le_of_ble_eq_true rfl⟩) (tg_preS hw hK hSD hA) rfl rfl hl.1 rfl (lv_room (Nat.le_of_ble_eq_true rfl)) dX8_begin_31 ⟨Nat.le_of_ble_eq_true rfl, Nat.le_of_ble_eq_true rfl⟩) hw hA ⟨by decide, by decide⟩ (fun ws H locs hp_v_8 hw hF9 => ?_)
  have n_k_2 := FLD.over hF9 n_k_2 (by decide)
  refine lv_aload_n hx hb dX8_begin_34 rfl (lv_at hl 0 rfl) ?_
  refine tg_get (ci := 8) (ts := ty_WORLD) (C := RX8) (T := TX8) (N := 13) hx hb hts inX8 hown hK hw h_p0 rfl rfl 5 (by decide) (hts _ tw_260) (fun _ h9 => h9) (ft := vR 10) rfl dX8_begin_35 (fun u_9 hv_u_9 m_u_9 => ?_)
  obtain ⟨vu_9, rfl, h_vu_9⟩ := hv_u_9
  refine lv_iconst (v := 0) hx hb dX8_begin_38 (by decide) ?_
  refine tk_v (va_runS (As := [.ref vu_9, .int 0]) (rest := []) ⟨hx, hb, hml, hown, hts⟩ (c_J7_fill_53178__2 l D cy z H.size Ps ws hw.1 vu_9 0 h_vu_9 rl_0) (va_cwS 2 hts (gS tw_246 tw_167 tw_9 tw_168) rfl rfl rfl (by decide +kernel) ⟨Nat.le_of_ble_eq_true rfl, Nat.le_of_ble_eq_true rfl⟩) (tg_preS hw hK hSD hA) rfl rfl hl.1 rfl (lv_room (Nat.le_of_ble_eq_true rfl)) dX8_begin_39 ⟨Nat.le_of_ble_eq_true rfl, Nat.le_of_ble_eq_true rfl⟩) hw hA ⟨by decide, by decide⟩ (fun ws H locs hp_v_10 hw hF9 => ?_)
  have n_k_2 := FLD.over hF9 n_k_2 (by decide)
  refine lv_aload_n hx hb dX8_begin_42 rfl (lv_at hl 0 rfl) ?_
  refine tg_get (ci := 8) (ts := ty_WORLD) (C := RX8) (T := TX8) (N := 13) hx hb hts inX8 hown hK hw h_p0 rfl rfl 6 (by decide) (hts _ tw_262) (fun _ h9 => h9) (ft := vR 10) rfl dX8_begin_43 (fun u_11 hv_u_11 m_u_11 => ?_)
  obtain ⟨vu_11, rfl, h_vu_11⟩ := hv_u_11
  refine lv_iconst (v := 0) hx hb dX8_begin_46 (by decide) ?_
  refine tk_v (va_runS (As := [.ref vu_11, .int 0]) (rest := []) ⟨hx, hb, hml, hown, hts⟩ (c_J7_fill_53178__2 l D cy z H.size Ps ws hw.1 vu_11 0 h_vu_11 rl_0) (va_cwS 2 hts (gS tw_246 tw_167 tw_9 tw_168) rfl rfl rfl (by decide +kernel) ⟨Nat.le_of_ble_eq_true rfl, Nat.le_of_ble_eq_true rfl⟩) (tg_preS hw hK hSD hA) rfl rfl hl.1 rfl (lv_room (Nat.le_of_ble_eq_true rfl)) dX8_begin_47 ⟨Nat.le_of_ble_eq_true rfl, Nat.le_of_ble_eq_true rfl⟩) hw hA ⟨by decide, by decide⟩ (fun ws H locs hp_v_12 hw hF9 => ?_)
  have n_k_2 := FLD.over hF9 n_k_2 (by decide)
  refine lv_aload_n hx hb dX8_begin_50 rfl (lv_at hl 0 rfl) ?_
  refine tg_get (ci := 8) (ts := ty_WORLD) (C := RX8) (T := TX8) (N := 13) hx hb hts inX8 hown hK hw h_p0 rfl rfl 7 (by decide) (hts _ tw_265) (fun _ h9 => h9) (ft := vR 11) rfl dX8_begin_51 (fun u_13 hv_u_13 m_u_13 => ?_)
  obtain ⟨vu_13, rfl, h_vu_13⟩ := hv_u_13
  refine lv_iconst (v := 0) hx hb dX8_begin_54 (by decide) ?_
  refine tk_v (va_runS (As := [.ref vu_13, .int 0]) (rest := []) ⟨hx, hb, hml, hown, hts⟩ (c_J7_fill_53178__3 l D cy z H.size Ps ws hw.1 vu_13 0 h_vu_13 rl_0) (va_cwS 2 hts (gS tw_246 tw_167 tw_9 tw_168) rfl rfl rfl (by decide +kernel) ⟨Nat.le_of_ble_eq_true rfl, Nat.le_of_ble_eq_true rfl⟩) (tg_preS hw hK hSD hA) rfl rfl hl.1 rfl (lv_room (Nat.le_of_ble_eq_true rfl)) dX8_begin_55 ⟨Nat.le_of_ble_eq_true rfl, Nat.le_of_ble_eq_true rfl⟩) hw hA ⟨by decide, by decide⟩ (fun ws H locs hp_v_14 hw hF9 => ?_)
  have n_k_2 := FLD.over hF9 n_k_2 (by decide)
  refine lv_aload_n hx hb dX8_begin_58 rfl (lv_at hl 0 rfl) ?_
  refine tg_get (ci := 8) (ts := ty_WORLD) (C := RX8) (T := TX8) (N := 13) hx hb hts inX8 hown hK hw h_p0 rfl rfl 8 (by decide) (hts _ tw_268) (fun _ h9 => h9) (ft := vR 12) rfl dX8_begin_59 (fun u_15 hv_u_15 m_u_15 => ?_)
  obtain ⟨vu_15, rfl, h_vu_15⟩ := hv_u_15
  refine lv_iconst (v := (-1)) hx hb dX8_begin_62 (by decide) ?_
  refine tk_v (va_runS (As := [.ref vu_15, .int (-1)]) (rest := []) ⟨hx, hb, hml, hown, hts⟩ (c_J7_fill_53178__4 l D cy z H.size Ps ws hw.1 vu_15 (-1) h_vu_15 rl_m1) (va_cwS 2 hts (gS tw_246 tw_167 tw_9 tw_168) rfl rfl rfl (by decide +kernel) ⟨Nat.le_of_ble_eq_true rfl, Nat.le_of_ble_eq_true rfl⟩) (tg_preS hw hK hSD hA) rfl rfl hl.1 rfl (lv_room (Nat.le_of_ble_eq_true rfl)) dX8_begin_63 ⟨Nat.le_of_ble_eq_true rfl, Nat.le_of_ble_eq_true rfl⟩) hw hA ⟨by decide, by decide⟩ (fun ws H locs hp_v_16 hw hF9 => ?_)
  have n_k_2 := FLD.over hF9 n_k_2 (by decide)
  refine lv_aload_n hx hb dX8_begin_66 rfl (lv_at hl 0 rfl) ?_
  refine tg_get (ci := 8) (ts := ty_WORLD) (C := RX8) (T := TX8) (N := 13) hx hb hts inX8 hown hK hw h_p0 rfl rfl 9 (by decide) (hts _ tw_271) (fun _ h9 => h9) (ft := vR 13) rfl dX8_begin_67 (fun u_17 hv_u_17 m_u_17 => ?_)
  obtain ⟨vu_17, rfl, h_vu_17⟩ := hv_u_17
  refine lv_iconst (v := 0) hx hb dX8_begin_70 (by decide) ?_
  refine tk_v (va_runS (As := [.ref vu_17, .int 0]) (rest := []) ⟨hx, hb, hml, hown, hts⟩ (c_J7_fill_53178__5 l D cy z H.size Ps ws hw.1 vu_17 0 h_vu_17 rl_0) (va_cwS 2 hts (gS tw_246 tw_167 tw_9 tw_168) rfl rfl rfl (by decide +kernel) ⟨Nat.le_of_ble_eq_true rfl, Nat.le_of_ble_eq_true rfl⟩) (tg_preS hw hK hSD hA) rfl rfl hl.1 rfl (lv_room (Nat.le_of_ble_eq_true rfl)) dX8_begin_71 ⟨Nat.le_of_ble_eq_true rfl, Nat.le_of_ble_eq_true rfl⟩) hw hA ⟨by decide, by decide⟩ (fun ws H locs hp_v_18 hw hF9 => ?_)
  have n_k_2 := FLD.over hF9 n_k_2 (by decide)
  refine lv_aload_n hx hb dX8_begin_74 rfl (lv_at hl 0 rfl) ?_
  refine tg_get (ci := 8) (ts := ty_WORLD) (C := RX8) (T := TX8) (N := 13) hx hb hts inX8 hown hK hw h_p0 rfl rfl 10 (by decide) (hts _ tw_273) (fun _ h9 => h9) (ft := vR 13) rfl dX8_begin_75 (fun u_19 hv_u_19 m_u_19 => ?_)
  obtain ⟨vu_19, rfl, h_vu_19⟩ := hv_u_19
  refine lv_iconst (v := 0) hx hb dX8_begin_78 (by decide) ?_
  refine tk_v (va_runS (As := [.ref vu_19, .int 0]) (rest := []) ⟨hx, hb, hml, hown, hts⟩ (c_J7_fill_53178__5 l D cy z H.size Ps ws hw.1 vu_19 0 h_vu_19 rl_0) (va_cwS 2 hts (gS tw_246 tw_167 tw_9 tw_168) rfl rfl rfl (by decide +kernel) ⟨Nat.le_of_ble_eq_true rfl, Nat.le_of_ble_eq_true rfl⟩) (tg_preS hw hK hSD hA) rfl rfl hl.1 rfl (lv_room (Nat.le_of_ble_eq_true rfl)) dX8_begin_79 ⟨Nat.le_of_ble_eq_true rfl, Nat.le_of_ble_eq_true rfl⟩) hw hA ⟨by decide, by decide⟩ (fun ws H locs hp_v_20 hw hF9 => ?_)
  have n_k_2 := FLD.over hF9 n_k_2 (by decide)
  subst hQ
  exact W.vret hx hb hr (fun t ht hW => ⟨⟨ws, rfl, ⟨trivial, hw.1, hw.2.2.2.2.1⟩, by rw [ht]; exact hw.2.1, va_K.moved hW.alike hK, hw.2.2.1⟩, hw.2.2.2.1.F ht⟩) hw.2.2.2.1.2.2 dX8_begin_82
abbrev wr_X8_isOpen : List (Nat × Nat) := []
abbrev wa_X8_isOpen : List Nat := []
set_option maxHeartbeats 4000000 in
set_option maxRecDepth 100000 in
theorem c_X8_isOpen (l : Launch) (D : va_G) (cy : Nat → ClassId) (z : Nat → Nat) (sz : Nat) (Ps : PSI) (w0 : va_W) (hT : HT cy GG Ps w0) (p0 : Nat) (p1 : Int32) (h_p0 : (p0, 24) ∈ Ps) (r_p1 : RI p1 0 5) : Met l yX8_isOpen (Cond.code yX8_isOpen cX8_isOpen 2 (some .boolean) :: gT) ({ frames := 0, cells := 0, slots := 0, locals := 200 } : Room) (va_Pc [.ref p0, .int p1] (PRE D cy z w0 sz)) (va_Qi (fun (r : Int32) (u : Unit) => RI r 0 1 ∧ (r = 0 → True) ∧ (¬ r = 0 → True)) (BB D cy (va_A w0 sz) (fun (u : Unit) => w0)) (va_A w0 sz)) 0 0 (va_A w0 sz) := by
  refine Met.ofW (cc := cX8_isOpen) (maxL := 2) (ret := (some .boolean)) (by decide) rfl ?_
  intro p e s m args below meth c s₁ B hml hv
  obtain ⟨rfl, hsz, hP, hK, hD0, hSD⟩ := hv
  have hx := B.exec
  have hb := B.bytes
  have hr := B.returns
  have hlocks := B.notSynchronized
  have hts : ∀ w ∈ gT, w.before _ s = true := fun w h => atoms_spec (ws := Cond.code yX8_isOpen cX8_isOpen 2 (some .boolean) :: gT) B.pre w (List.mem_cons_of_mem _ h)
  have hown : s.vm.findClass RX8 = some m.cls := findClass_of_methodNamed B.named
  subst hsz
  have hD := hD0.self (sz := s.heap.size)
  generalize hAe : va_A w0 s.heap.size = A at hD hSD ⊢
  have hA : ∀ q : Nat, s.heap.size ≤ q → A q := fun q h => by rw [← hAe]; exact Or.inr h
  have hl := lv_entry ([.ref p0, .int p1]) (n := 2) (Nat.le_of_ble_eq_true rfl)
  rw [lg_entry_eq]
  generalize (lg_sl ([.ref p0, .int p1]) ++ List.replicate (2 - (lg_sl ([.ref p0, .int p1])).length) Slot.unset).toArray = ls at hl ⊢
  have hl : lv_has ls 2 [(0, .ref p0), (1, .int p1)] := hl
  refine nameQ (fun Q hQ => ?_)
  have hw : WD D cy GG A s wr_X8_isOpen wa_X8_isOpen Ps w0 Ps w0 s.heap [] := ⟨hT, hP, hD, va_S.rf, FR.rf, hT.1, [], (List.append_nil _).symm⟩
  refine lv_aload_n hx hb dX8_isOpen_0 rfl (lv_at hl 0 rfl) ?_
  refine tg_get (ci := 8) (ts := ty_WORLD) (C := RX8) (T := TX8) (N := 13) hx hb hts inX8 hown hK hw h_p0 rfl rfl 5 (by decide) (hts _ tw_260) (fun _ h9 => h9) (ft := vR 10) rfl dX8_isOpen_1 (fun u_1 hv_u_1 m_u_1 => ?_)
  obtain ⟨vu_1, rfl, h_vu_1⟩ := hv_u_1
  refine lv_iload_n hx hb dX8_isOpen_4 rfl (lv_at hl 1 rfl) ?_
  refine tg_iald (lo := (-2147483648)) (hi := 2147483647) hx hb hK hw h_vu_1 rfl 0 5 r_p1 (by decide) (by exact fun _ _ _ => ⟨Int.le_refl _, Int.le_refl _⟩) dX8_isOpen_5 (fun v_2 r_v_2 m_v_2 o_v_2 => ?_)
  refine lv_if_eq (tgt := 13) hx hb dX8_isOpen_6 (by decide) (fun c_6 => ?_) (fun c_6 => ?_)
  · have r_v_2 : RI v_2 0 0 := rc_eq1 r_v_2 rl_0 (ti_eq c_6) (by decide)
    refine lv_iconst (v := 0) hx hb dX8_isOpen_13 (by decide) ?_
    subst hQ
    exact W.zret (v := 0) hx hb hr (rfl) (fun t ht hW => ⟨⟨0, (), rfl, ⟨rl_0.to (by decide), (fun h0 => trivial), (fun _ => trivial)⟩, by rw [ht]; exact hw.2.1, va_K.moved hW.alike hK, hw.2.2.1⟩, hw.2.2.2.1.F ht⟩) hw.2.2.2.1.2.2 dX8_isOpen_14
  · refine lv_iconst (v := 1) hx hb dX8_isOpen_9 (by decide) ?_
    refine lv_goto (tgt := 14) hx hb dX8_isOpen_10 (by decide) ?_
    subst hQ
    exact W.zret (v := 1) hx hb hr (rfl) (fun t ht hW => ⟨⟨1, (), rfl, ⟨rl_1.to (by decide), (fun _ => trivial), (fun h0 => trivial)⟩, by rw [ht]; exact hw.2.1, va_K.moved hW.alike hK, hw.2.2.1⟩, hw.2.2.2.1.F ht⟩) hw.2.2.2.1.2.2 dX8_isOpen_14
abbrev wr_X8_wishesUnlike : List (Nat × Nat) := []
abbrev wa_X8_wishesUnlike : List Nat := []
set_option maxHeartbeats 4000000 in
set_option maxRecDepth 100000 in
theorem c_X8_wishesUnlike (l : Launch) (D : va_G) (cy : Nat → ClassId) (z : Nat → Nat) (sz : Nat) (Ps : PSI) (w0 : va_W) (hT : HT cy GG Ps w0) (p0 : Nat) (p1 : Int32) (h_p0 : (p0, 24) ∈ Ps) (r_p1 : RI p1 (-2147483648) 2147483647) : Met l yX8_wishesUnlike (Cond.code yX8_wishesUnlike cX8_wishesUnlike 4 (some .boolean) :: gT) ({ frames := 0, cells := 0, slots := 0, locals := 200 } : Room) (va_Pc [.ref p0, .int p1] (PRE D cy z w0 sz)) (va_Qi (fun (r : Int32) (u : Unit) => RI r 0 1 ∧ (r = 0 → True) ∧ (¬ r = 0 → RI p1 (-1) 5 ∧ True)) (BB D cy (va_A w0 sz) (fun (u : Unit) => w0)) (va_A w0 sz)) 0 0 (va_A w0 sz) := by
  refine Met.ofW (cc := cX8_wishesUnlike) (maxL := 4) (ret := (some .boolean)) (by decide) rfl ?_
  intro p e s m args below meth c s₁ B hml hv
  obtain ⟨rfl, hsz, hP, hK, hD0, hSD⟩ := hv
  have hx := B.exec
  have hb := B.bytes
  have hr := B.returns
  have hlocks := B.notSynchronized
  have hts : ∀ w ∈ gT, w.before _ s = true := fun w h => atoms_spec (ws := Cond.code yX8_wishesUnlike cX8_wishesUnlike 4 (some .boolean) :: gT) B.pre w (List.mem_cons_of_mem _ h)
  have hown : s.vm.findClass RX8 = some m.cls := findClass_of_methodNamed B.named
  subst hsz
  have hD := hD0.self (sz := s.heap.size)
  generalize hAe : va_A w0 s.heap.size = A at hD hSD ⊢
  have hA : ∀ q : Nat, s.heap.size ≤ q → A q := fun q h => by rw [← hAe]; exact Or.inr h
  have hl := lv_entry ([.ref p0, .int p1]) (n := 4) (Nat.le_of_ble_eq_true rfl)
  rw [lg_entry_eq]
  generalize (lg_sl ([.ref p0, .int p1]) ++ List.replicate (4 - (lg_sl ([.ref p0, .int p1])).length) Slot.unset).toArray = ls at hl ⊢
  have hl : lv_has ls 4 [(0, .ref p0), (1, .int p1)] := hl
  refine nameQ (fun Q hQ => ?_)
  have hw : WD D cy GG A s wr_X8_wishesUnlike wa_X8_wishesUnlike Ps w0 Ps w0 s.heap [] := ⟨hT, hP, hD, va_S.rf, FR.rf, hT.1, [], (List.append_nil _).symm⟩
  have B4 : ∀ (nf : Nat) (x2 : Int32) (x3 : Int32) (H : Heap) (locs : List Loc) (ls : Array Slot), 8 - x3.toInt < (nf : Int) → RI p1 (-2147483648) 2147483647 → RI x2 (-1) 5 → RI x3 0 8 → WD D cy GG A s wr_X8_wishesUnlike wa_X8_wishesUnlike Ps w0 Ps w0 H locs → lv_has ls 4 [(0, .ref p0), (1, .int p1), (2, .int x2), (3, .int x3)] → W p l e (headSpec (Cond.code yX8_wishesUnlike cX8_wishesUnlike 4 (some .boolean) :: gT) ({ frames := 0, cells := 0, slots := 0, locals := 200 } : Room)).room s m ([.ref p0, .int p1] : List Value).toArray below meth c H locs 0 0 Q (F0 m 4 ls []) := by
    intro nf4
    induction nf4 with
    | zero =>
      intro x2 x3 H locs ls hn4 r_p1 r_x2 r_x3 hw hl
      exact absurd hn4 (by have q0 := r_x3.1; have u0 := r_x3.2; omega)
    | succ nf4 ih4 =>
      have B44 : ∀ (x2 : Int32) (x3 : Int32) (H : Heap) (locs : List Loc) (ls : Array Slot), RI p1 (-1) 5 → RI x2 (-1) 5 → RI x3 0 7 → 8 - x3.toInt < ((nf4 + 1 : Nat) : Int) → WD D cy GG A s wr_X8_wishesUnlike wa_X8_wishesUnlike Ps w0 Ps w0 H locs → lv_has ls 4 [(0, .ref p0), (1, .int p1), (2, .int x2), (3, .int x3)] → W p l e (headSpec (Cond.code yX8_wishesUnlike cX8_wishesUnlike 4 (some .boolean) :: gT) ({ frames := 0, cells := 0, slots := 0, locals := 200 } : Room)).room s m ([.ref p0, .int p1] : List Value).toArray below meth c H locs 0 0 Q (F0 m 44 ls []) := by
        intro x2 x3 H locs ls r_p1 r_x2 r_x3 hn4 hw hl
        refine lv_aload_n hx hb dX8_wishesUnlike_44 rfl (lv_at hl 0 rfl) ?_
        refine tg_get (ci := 8) (ts := ty_WORLD) (C := RX8) (T := TX8) (N := 13) hx hb hts inX8 hown hK hw h_p0 rfl rfl 7 (by decide) (hts _ tw_265) (fun _ h9 => h9) (ft := vR 11) rfl dX8_wishesUnlike_45 (fun u_1 hv_u_1 m_u_1 => ?_)
        obtain ⟨vu_1, rfl, h_vu_1⟩ := hv_u_1
        refine lv_iload_n hx hb dX8_wishesUnlike_48 rfl (lv_at hl 3 rfl) ?_
        refine tg_iald (lo := 0) (hi := 5) hx hb hK hw h_vu_1 rfl 0 7 r_x3 (by decide) (by exact fun _ _ _ => ⟨Int.le_refl _, Int.le_refl _⟩) dX8_wishesUnlike_49 (fun v_2 r_v_2 m_v_2 o_v_2 => ?_)
        refine lv_istore_n (lv' := [(2, .int v_2), (0, .ref p0), (1, .int p1), (3, .int x3)]) hx hb dX8_wishesUnlike_50 rfl hl (by decide) rfl (fun ls hl => ?_)
        obtain ⟨v_3, e_v_3⟩ : ∃ q9 : Int32, q9 = x3 + Int32.ofInt 1 := ⟨_, rfl⟩
        obtain ⟨t_v_3, r_v_3⟩ := tq_add (lo := 1) (hi := 8) r_x3 (show RI (Int32.ofInt 1) 1 1 by unfold RI; decide +kernel) (by decide +kernel) e_v_3
        have t_v_3 : v_3.toInt = x3.toInt + 1 := t_v_3
        refine lv_iinc (v := v_3) (lv' := [(3, .int v_3), (2, .int v_2), (0, .ref p0), (1, .int p1)]) hx hb dX8_wishesUnlike_51 hl (k := 3) rfl e_v_3.symm (by decide) rfl (fun ls hl => ?_)
        refine lv_goto (tgt := 4) hx hb dX8_wishesUnlike_54 (by decide) ?_
        exact ih4 v_2 v_3 _ _ ls (by have q0 := r_v_3.1; have u0 := r_v_3.2; have o0 := r_x3.1; have p0 := r_x3.2; omega) (r_p1.to (by decide)) (r_v_2.to (by decide)) (r_v_3.to (by decide)) hw (lv_sub hl [2, 3, 1, 0] rfl)
      intro x2 x3 H locs ls hn4 r_p1 r_x2 r_x3 hw hl
      refine lv_iload_n hx hb dX8_wishesUnlike_4 rfl (lv_at hl 3 rfl) ?_
      refine lv_aload_n hx hb dX8_wishesUnlike_5 rfl (lv_at hl 0 rfl) ?_
      refine tg_get (ci := 8) (ts := ty_WORLD) (C := RX8) (T := TX8) (N := 13) hx hb hts inX8 hown hK hw h_p0 rfl rfl 0 (by decide) (hts _ tw_247) (fun _ h9 => h9) (ft := vR 25) rfl dX8_wishesUnlike_6 (fun u_4 hv_u_4 m_u_4 => ?_)
      obtain ⟨vu_4, rfl, h_vu_4⟩ := hv_u_4
      refine tg_getN (ci := 3) (ts := ty_POST) (C := RX3) (T := TX3) (N := 9) hx hb hts inX3 hown hK hw h_vu_4 rfl rfl 1 (by decide) (hSD.nest tn_203) (fun _ h9 => h9) (ft := vR 4) rfl dX8_wishesUnlike_9 (fun u_5 hv_u_5 m_u_5 => ?_)
      obtain ⟨vu_5, rfl, h_vu_5⟩ := hv_u_5
      refine lv_iconst (v := 3) hx hb dX8_wishesUnlike_12 (by decide) ?_
      refine tg_iald (lo := 0) (hi := 8) hx hb hK hw h_vu_5 rfl 3 3 rl_3 (by decide) (by decide +kernel) dX8_wishesUnlike_13 (fun v_6 r_v_6 m_v_6 o_v_6 => ?_)
      refine lv_icmp_ge (tgt := 57) hx hb dX8_wishesUnlike_14 (by decide) (fun c_14 => ?_) (fun c_14 => ?_)
      · refine lv_iconst (v := 0) hx hb dX8_wishesUnlike_57 (by decide) ?_
        subst hQ
        exact W.zret (v := 0) hx hb hr (rfl) (fun t ht hW => ⟨⟨0, (), rfl, ⟨rl_0.to (by decide), (fun h0 => trivial), (fun h0 => absurd rfl h0)⟩, by rw [ht]; exact hw.2.1, va_K.moved hW.alike hK, hw.2.2.1⟩, hw.2.2.2.1.F ht⟩) hw.2.2.2.1.2.2 dX8_wishesUnlike_58
      · have r_x3 : RI x3 0 7 := rc_lt1 r_x3 r_v_6 (ti_nle c_14) (by decide)
        have r_v_6 : RI v_6 1 8 := rc_lt2 r_x3 r_v_6 (ti_nle c_14) (by decide)
        refine lv_aload_n hx hb dX8_wishesUnlike_17 rfl (lv_at hl 0 rfl) ?_
        refine tg_get (ci := 8) (ts := ty_WORLD) (C := RX8) (T := TX8) (N := 13) hx hb hts inX8 hown hK hw h_p0 rfl rfl 8 (by decide) (hts _ tw_268) (fun _ h9 => h9) (ft := vR 12) rfl dX8_wishesUnlike_18 (fun u_7 hv_u_7 m_u_7 => ?_)
        obtain ⟨vu_7, rfl, h_vu_7⟩ := hv_u_7
        refine lv_iload_n hx hb dX8_wishesUnlike_21 rfl (lv_at hl 3 rfl) ?_
        refine tg_iald (lo := (-1)) (hi := 5) hx hb hK hw h_vu_7 rfl 0 7 r_x3 (by decide) (by exact fun _ _ _ => ⟨Int.le_refl _, Int.le_refl _⟩) dX8_wishesUnlike_22 (fun v_8 r_v_8 m_v_8 o_v_8 => ?_)
        refine lv_iload_n hx hb dX8_wishesUnlike_23 rfl (lv_at hl 1 rfl) ?_
        refine lv_icmp_ne (tgt := 51) hx hb dX8_wishesUnlike_24 (by decide) (fun c_24 => ?_) (fun c_24 => ?_)
        · obtain ⟨v_9, e_v_9⟩ : ∃ q9 : Int32, q9 = x3 + Int32.ofInt 1 := ⟨_, rfl⟩
          obtain ⟨t_v_9, r_v_9⟩ := tq_add (lo := 1) (hi := 8) r_x3 (show RI (Int32.ofInt 1) 1 1 by unfold RI; decide +kernel) (by decide +kernel) e_v_9
          have t_v_9 : v_9.toInt = x3.toInt + 1 := t_v_9
          refine lv_iinc (v := v_9) (lv' := [(3, .int v_9), (0, .ref p0), (1, .int p1), (2, .int x2)]) hx hb dX8_wishesUnlike_51 hl (k := 3) rfl e_v_9.symm (by decide) rfl (fun ls hl => ?_)
          refine lv_goto (tgt := 4) hx hb dX8_wishesUnlike_54 (by decide) ?_
          exact ih4 x2 v_9 _ _ ls (by have q0 := r_v_9.1; have u0 := r_v_9.2; have o0 := r_x3.1; have p0 := r_x3.2; omega) r_p1 r_x2 (r_v_9.to (by decide)) hw (lv_sub hl [1, 2, 3, 0] rfl)
        · have r_p1 : RI p1 (-1) 5 := rc_eq2 r_v_8 r_p1 (ti_eq c_24) (by decide)
          refine lv_iload_n hx hb dX8_wishesUnlike_27 rfl (lv_at hl 2 rfl) ?_
          refine lv_iconst (v := (-1)) hx hb dX8_wishesUnlike_28 (by decide) ?_
          refine lv_icmp_eq (tgt := 44) hx hb dX8_wishesUnlike_29 (by decide) (fun c_29 => ?_) (fun c_29 => ?_)
          · have r_x2 : RI x2 (-1) (-1) := rc_eq1 r_x2 rl_m1 (ti_eq c_29) (by decide)
            exact B44 x2 x3 _ _ ls r_p1 (r_x2.to (by decide)) r_x3 (by have q0 := r_x3.1; have u0 := r_x3.2; omega) hw hl
          · have r_x2 : RI x2 0 5 := rc_neL r_x2 rl_m1 (ti_ne c_29) (by decide)
            refine lv_aload_n hx hb dX8_wishesUnlike_32 rfl (lv_at hl 0 rfl) ?_
            refine tg_get (ci := 8) (ts := ty_WORLD) (C := RX8) (T := TX8) (N := 13) hx hb hts inX8 hown hK hw h_p0 rfl rfl 7 (by decide) (hts _ tw_265) (fun _ h9 => h9) (ft := vR 11) rfl dX8_wishesUnlike_33 (fun u_10 hv_u_10 m_u_10 => ?_)
            obtain ⟨vu_10, rfl, h_vu_10⟩ := hv_u_10
            refine lv_iload_n hx hb dX8_wishesUnlike_36 rfl (lv_at hl 3 rfl) ?_
            refine tg_iald (lo := 0) (hi := 5) hx hb hK hw h_vu_10 rfl 0 7 r_x3 (by decide) (by exact fun _ _ _ => ⟨Int.le_refl _, Int.le_refl _⟩) dX8_wishesUnlike_37 (fun v_11 r_v_11 m_v_11 o_v_11 => ?_)
            refine lv_iload_n hx hb dX8_wishesUnlike_38 rfl (lv_at hl 2 rfl) ?_
            refine lv_icmp_eq (tgt := 44) hx hb dX8_wishesUnlike_39 (by decide) (fun c_39 => ?_) (fun c_39 => ?_)
            · exact B44 x2 x3 _ _ ls r_p1 (r_x2.to (by decide)) r_x3 (by have q0 := r_x3.1; have u0 := r_x3.2; omega) hw hl
            · refine lv_iconst (v := 1) hx hb dX8_wishesUnlike_42 (by decide) ?_
              subst hQ
              exact W.zret (v := 1) hx hb hr (rfl) (fun t ht hW => ⟨⟨1, (), rfl, ⟨rl_1.to (by decide), (fun _ => trivial), (fun h0 => ⟨r_p1, trivial⟩)⟩, by rw [ht]; exact hw.2.1, va_K.moved hW.alike hK, hw.2.2.1⟩, hw.2.2.2.1.F ht⟩) hw.2.2.2.1.2.2 dX8_wishesUnlike_43
  refine lv_iconst (v := (-1)) hx hb dX8_wishesUnlike_0 (by decide) ?_
  refine lv_istore_n (lv' := [(2, .int (-1)), (0, .ref p0), (1, .int p1)]) hx hb dX8_wishesUnlike_1 rfl hl (by decide) rfl (fun ls hl => ?_)
  refine lv_iconst (v := 0) hx hb dX8_wishesUnlike_2 (by decide) ?_
  refine lv_istore_n (lv' := [(3, .int 0), (2, .int (-1)), (0, .ref p0), (1, .int p1)]) hx hb dX8_wishesUnlike_3 rfl hl (by decide) rfl (fun ls hl => ?_)
  exact B4 4294967298 (-1) 0 _ _ ls (by have q0 := rl_0.1; have u0 := rl_0.2; omega) r_p1 (rl_m1.to (by decide)) (rl_0.to (by decide)) hw (lv_sub hl [2, 3, 1, 0] rfl)
abbrev wr_X8_bulgesMore : List (Nat × Nat) := []
abbrev wa_X8_bulgesMore : List Nat := []
set_option maxHeartbeats 4000000 in
set_option maxRecDepth 100000 in
theorem c_X8_bulgesMore (l : Launch) (D : va_G) (cy : Nat → ClassId) (z : Nat → Nat) (sz : Nat) (Ps : PSI) (w0 : va_W) (hT : HT cy GG Ps w0) (p0 : Nat) (p1 : Int32) (p2 : Int32) (h_p0 : (p0, 24) ∈ Ps) (r_p1 : RI p1 0 5) (r_p2 : RI p2 (-2147483648) 2147483647) : Met l yX8_bulgesMore (Cond.code yX8_bulgesMore cX8_bulgesMore 4 (some .int) :: gT) ({ frames := 2, cells := 0, slots := 0, locals := 400 } : Room) (va_Pc [.ref p0, .int p1, .int p2] (PRE D cy z w0 sz)) (va_Qi (fun (r : Int32) (u : Unit) => RI r (-2147483648) 2147483647 ∧ (r = 0 → True) ∧ (¬ r = 0 → True)) (BB D cy (va_A w0 sz) (fun (u : Unit) => w0)) (va_A w0 sz)) 0 0 (va_A w0 sz) := by
  refine Met.ofW (cc := cX8_bulgesMore) (maxL := 4) (ret := (some .int)) (by decide) rfl ?_
  intro p e s m args below meth c s₁ B hml hv
  obtain ⟨rfl, hsz, hP, hK, hD0, hSD⟩ := hv
  have hx := B.exec
  have hb := B.bytes
  have hr := B.returns
  have hlocks := B.notSynchronized
  have hts : ∀ w ∈ gT, w.before _ s = true := fun w h => atoms_spec (ws := Cond.code yX8_bulgesMore cX8_bulgesMore 4 (some .int) :: gT) B.pre w (List.mem_cons_of_mem _ h)
  have hown : s.vm.findClass RX8 = some m.cls := findClass_of_methodNamed B.named
  subst hsz
  have hD := hD0.self (sz := s.heap.size)
  generalize hAe : va_A w0 s.heap.size = A at hD hSD ⊢
  have hA : ∀ q : Nat, s.heap.size ≤ q → A q := fun q h => by rw [← hAe]; exact Or.inr h
  have hl := lv_entry ([.ref p0, .int p1, .int p2]) (n := 4) (Nat.le_of_ble_eq_true rfl)
  rw [lg_entry_eq]
  generalize (lg_sl ([.ref p0, .int p1, .int p2]) ++ List.replicate (4 - (lg_sl ([.ref p0, .int p1, .int p2])).length) Slot.unset).toArray = ls at hl ⊢
  have hl : lv_has ls 4 [(0, .ref p0), (1, .int p1), (2, .int p2)] := hl
  refine nameQ (fun Q hQ => ?_)
  have hw : WD D cy GG A s wr_X8_bulgesMore wa_X8_bulgesMore Ps w0 Ps w0 s.heap [] := ⟨hT, hP, hD, va_S.rf, FR.rf, hT.1, [], (List.append_nil _).symm⟩
  have B21 : ∀ (y0 : Int32) (H : Heap) (locs : List Loc) (ls : Array Slot), RI p1 0 5 → RI p2 (-2147483648) 2147483647 → RI y0 0 1 → WD D cy GG A s wr_X8_bulgesMore wa_X8_bulgesMore Ps w0 Ps w0 H locs → lv_has ls 4 [(0, .ref p0), (1, .int p1), (2, .int p2)] → W p l e (headSpec (Cond.code yX8_bulgesMore cX8_bulgesMore 4 (some .int) :: gT) ({ frames := 2, cells := 0, slots := 0, locals := 400 } : Room)).room s m ([.ref p0, .int p1, .int p2] : List Value).toArray below meth c H locs 0 0 Q (F0 m 21 ls [.int y0]) := by
    intro y0 H locs ls r_p1 r_p2 r_y0 hw hl
    refine lv_istore_n (lv' := [(3, .int y0), (0, .ref p0), (1, .int p1), (2, .int p2)]) hx hb dX8_bulgesMore_21 rfl hl (by decide) rfl (fun ls hl => ?_)
    refine lv_iload_n hx hb dX8_bulgesMore_22 rfl (lv_at hl 0 rfl) ?_
    refine lv_if_eq (tgt := 42) hx hb dX8_bulgesMore_23 (by decide) (fun c_23 => ?_) (fun c_23 => ?_)
    · have r_y0 : RI y0 0 0 := rc_eq1 r_y0 rl_0 (ti_eq c_23) (by decide)
      refine lv_iconst (v := 0) hx hb dX8_bulgesMore_42 (by decide) ?_
      subst hQ
      exact W.iret (v := 0) hx hb hr (fun t ht hW => ⟨⟨0, (), rfl, ⟨rl_0.to (by decide), (fun h0 => trivial), (fun _ => trivial)⟩, by rw [ht]; exact hw.2.1, va_K.moved hW.alike hK, hw.2.2.1⟩, hw.2.2.2.1.F ht⟩) hw.2.2.2.1.2.2 dX8_bulgesMore_43
    · have r_y0 : RI y0 1 1 := rc_neL r_y0 rl_0 (ti_ne c_23) (by decide)
      refine lv_bipush (v := 99) hx hb dX8_bulgesMore_26 (by decide) ?_
      refine lv_aload_n hx hb dX8_bulgesMore_28 rfl (lv_at hl 1 rfl) ?_
      refine tg_get (ci := 8) (ts := ty_WORLD) (C := RX8) (T := TX8) (N := 13) hx hb hts inX8 hown hK hw h_p0 rfl rfl 4 (by decide) (hts _ tw_257) (fun _ h9 => h9) (ft := vR 10) rfl dX8_bulgesMore_29 (fun u_1 hv_u_1 m_u_1 => ?_)
      obtain ⟨vu_1, rfl, h_vu_1⟩ := hv_u_1
      refine lv_iload_n hx hb dX8_bulgesMore_32 rfl (lv_at hl 2 rfl) ?_
      refine tg_iald (lo := (-2147483648)) (hi := 2147483647) hx hb hK hw h_vu_1 rfl 0 5 r_p1 (by decide) (by exact fun _ _ _ => ⟨Int.le_refl _, Int.le_refl _⟩) dX8_bulgesMore_33 (fun v_2 r_v_2 m_v_2 o_v_2 => ?_)
      refine lv_isub hx hb dX8_bulgesMore_34 (lv_topi (fun v_3 e_v_3 => ?_))
      have r_v_3 := ri_any v_3
      refine lv_iload_n hx hb dX8_bulgesMore_35 rfl (lv_at hl 3 rfl) ?_
      refine va_mmin hx hb (hml.trans hl.1.symm) hown (hts _ tw_485) (hts _ tw_486) (hts _ tw_16) (hts _ tw_487) (Nat.le_of_ble_eq_true rfl) (Nat.le_of_ble_eq_true rfl) (Nat.le_of_ble_eq_true rfl) (Nat.le_of_ble_eq_true rfl) dX8_bulgesMore_36 (lv_topi (fun v_4 e_v_4 => ?_))
      have r_v_4 : RI v_4 (-2147483648) 2147483647 := by rw [e_v_4]; exact ri_min r_v_3 r_p2 (by decide)
      refine lv_goto (tgt := 43) hx hb dX8_bulgesMore_39 (by decide) ?_
      subst hQ
      exact W.iret (v := v_4) hx hb hr (fun t ht hW => ⟨⟨v_4, (), rfl, ⟨r_v_4.to (by decide), (fun h0 => trivial), (fun h0 => trivial)⟩, by rw [ht]; exact hw.2.1, va_K.moved hW.alike hK, hw.2.2.1⟩, hw.2.2.2.1.F ht⟩) hw.2.2.2.1.2.2 dX8_bulgesMore_43
  have B20 : ∀ (H : Heap) (locs : List Loc) (ls : Array Slot), RI p1 0 5 → RI p2 (-2147483648) 2147483647 → WD D cy GG A s wr_X8_bulgesMore wa_X8_bulgesMore Ps w0 Ps w0 H locs → lv_has ls 4 [(0, .ref p0), (1, .int p1), (2, .int p2)] → W p l e (headSpec (Cond.code yX8_bulgesMore cX8_bulgesMore 4 (some .int) :: gT) ({ frames := 2, cells := 0, slots := 0, locals := 400 } : Room)).room s m ([.ref p0, .int p1, .int p2] : List Value).toArray below meth c H locs 0 0 Q (F0 m 20 ls []) := by
    intro  H locs ls r_p1 r_p2 hw hl
    refine lv_iconst (v := 0) hx hb dX8_bulgesMore_20 (by decide) ?_
    exact B21 0 _ _ ls r_p1 r_p2 (rl_0.to (by decide)) hw hl
  refine lv_aload_n hx hb dX8_bulgesMore_0 rfl (lv_at hl 0 rfl) ?_
  refine lv_iload_n hx hb dX8_bulgesMore_1 rfl (lv_at hl 1 rfl) ?_
  refine tk_ir (va_runV (As := [.int p1]) (rest := []) ⟨hx, hb, hml, hown, hts⟩ (c_X8_isOpen l D cy z s.heap.size Ps w0 hw.1 p0 p1 h_p0 r_p1) (cwV 1 hts (gV tw_561 tw_562 tw_563 tw_12 tw_564) rfl rfl rfl (by decide +kernel) ⟨Nat.le_of_ble_eq_true rfl, Nat.le_of_ble_eq_true rfl⟩) (tg_preV hw hK hSD hA (ci := 8) (q := (RX8, TX8, 13)) rfl h_p0 rfl) rfl rfl hl.1 rfl (lv_room (Nat.le_of_ble_eq_true rfl)) dX8_bulgesMore_2 ⟨Nat.le_of_ble_eq_true rfl, Nat.le_of_ble_eq_true rfl⟩) hw hA (fun v_5  H locs hp_v_5 hw => ?_)
  have r_v_5 : RI v_5 0 1 := hp_v_5.1
  refine lv_if_ne (tgt := 20) hx hb dX8_bulgesMore_5 (by decide) (fun c_5 => ?_) (fun c_5 => ?_)
  · have r_v_5 : RI v_5 1 1 := rc_neL r_v_5 rl_0 (ti_ne c_5) (by decide)
    exact B20  _ _ ls r_p1 r_p2 hw hl
  · have r_v_5 : RI v_5 0 0 := rc_eq1 r_v_5 rl_0 (ti_eq c_5) (by decide)
    refine lv_aload_n hx hb dX8_bulgesMore_8 rfl (lv_at hl 0 rfl) ?_
    refine lv_iload_n hx hb dX8_bulgesMore_9 rfl (lv_at hl 1 rfl) ?_
    refine tk_ir (va_runV (As := [.int p1]) (rest := []) ⟨hx, hb, hml, hown, hts⟩ (c_X8_wishesUnlike l D cy z H.size Ps w0 hw.1 p0 p1 h_p0 (r_p1.to (by decide))) (cwV 1 hts (gV tw_705 tw_707 ts_16 tw_12 tw_708) rfl rfl rfl (by decide +kernel) ⟨Nat.le_of_ble_eq_true rfl, Nat.le_of_ble_eq_true rfl⟩) (tg_preV hw hK hSD hA (ci := 8) (q := (RX8, TX8, 13)) rfl h_p0 rfl) rfl rfl hl.1 rfl (lv_room (Nat.le_of_ble_eq_true rfl)) dX8_bulgesMore_10 ⟨Nat.le_of_ble_eq_true rfl, Nat.le_of_ble_eq_true rfl⟩) hw hA (fun v_6  H locs hp_v_6 hw => ?_)
    have r_v_6 : RI v_6 0 1 := hp_v_6.1
    refine lv_if_eq (tgt := 20) hx hb dX8_bulgesMore_13 (by decide) (fun c_13 => ?_) (fun c_13 => ?_)
    · have r_v_6 : RI v_6 0 0 := rc_eq1 r_v_6 rl_0 (ti_eq c_13) (by decide)
      exact B20  _ _ ls r_p1 r_p2 hw hl
    · have r_v_6 : RI v_6 1 1 := rc_neL r_v_6 rl_0 (ti_ne c_13) (by decide)
      refine lv_iconst (v := 1) hx hb dX8_bulgesMore_16 (by decide) ?_
      refine lv_goto (tgt := 21) hx hb dX8_bulgesMore_17 (by decide) ?_
      exact B21 1 _ _ ls r_p1 r_p2 (rl_1.to (by decide)) hw hl
abbrev wr_X8_carryTo : List (Nat × Nat) := []
abbrev wa_X8_carryTo : List Nat := [9]
set_option maxHeartbeats 4000000 in
set_option maxRecDepth 100000 in
theorem c_X8_carryTo (l : Launch) (D : va_G) (cy : Nat → ClassId) (z : Nat → Nat) (sz : Nat) (Ps : PSI) (w0 : va_W) (hT : HT cy GG Ps w0) (p0 : Nat) (p1 : Int32) (p2 : Int32) (h_p0 : (p0, 24) ∈ Ps) (r_p1 : RI p1 0 5) (r_p2 : RI p2 (-2147483648) 2147483647) : Met l yX8_carryTo (Cond.code yX8_carryTo cX8_carryTo 3 (some .int) :: gT) ({ frames := 2, cells := 0, slots := 0, locals := 400 } : Room) (va_Pc [.ref p0, .int p1, .int p2] (PRE D cy z w0 sz)) (va_Qi (fun (r : Int32) (u : va_W) => (RI r 0 2 ∧ (r = 0 → True) ∧ (¬ r = 0 → True)) ∧ HT cy GG Ps u ∧ FR wr_X8_carryTo wa_X8_carryTo Ps w0 u) (BB D cy (va_A w0 sz) (fun (u : va_W) => u)) (va_A w0 sz)) 0 0 (va_A w0 sz) := by
  refine Met.ofW (cc := cX8_carryTo) (maxL := 3) (ret := (some .int)) (by decide) rfl ?_
  intro p e s m args below meth c s₁ B hml hv
  obtain ⟨rfl, hsz, hP, hK, hD0, hSD⟩ := hv
  have hx := B.exec
  have hb := B.bytes
  have hr := B.returns
  have hlocks := B.notSynchronized
  have hts : ∀ w ∈ gT, w.before _ s = true := fun w h => atoms_spec (ws := Cond.code yX8_carryTo cX8_carryTo 3 (some .int) :: gT) B.pre w (List.mem_cons_of_mem _ h)
  have hown : s.vm.findClass RX8 = some m.cls := findClass_of_methodNamed B.named
  subst hsz
  have hD := hD0.self (sz := s.heap.size)
  generalize hAe : va_A w0 s.heap.size = A at hD hSD ⊢
  have hA : ∀ q : Nat, s.heap.size ≤ q → A q := fun q h => by rw [← hAe]; exact Or.inr h
  have hl := lv_entry ([.ref p0, .int p1, .int p2]) (n := 3) (Nat.le_of_ble_eq_true rfl)
  rw [lg_entry_eq]
  generalize (lg_sl ([.ref p0, .int p1, .int p2]) ++ List.replicate (3 - (lg_sl ([.ref p0, .int p1, .int p2])).length) Slot.unset).toArray = ls at hl ⊢
  have hl : lv_has ls 3 [(0, .ref p0), (1, .int p1), (2, .int p2)] := hl
  refine nameQ (fun Q hQ => ?_)
  have hw : WD D cy GG A s wr_X8_carryTo wa_X8_carryTo Ps w0 Ps w0 s.heap [] := ⟨hT, hP, hD, va_S.rf, FR.rf, hT.1, [], (List.append_nil _).symm⟩
  refine lv_aload_n hx hb dX8_carryTo_0 rfl (lv_at hl 0 rfl) ?_
  refine lv_iload_n hx hb dX8_carryTo_1 rfl (lv_at hl 1 rfl) ?_
  refine tk_ir (va_runV (As := [.int p1]) (rest := []) ⟨hx, hb, hml, hown, hts⟩ (c_X8_isOpen l D cy z s.heap.size Ps w0 hw.1 p0 p1 h_p0 r_p1) (cwV 1 hts (gV tw_561 tw_562 tw_563 tw_12 tw_564) rfl rfl rfl (by decide +kernel) ⟨Nat.le_of_ble_eq_true rfl, Nat.le_of_ble_eq_true rfl⟩) (tg_preV hw hK hSD hA (ci := 8) (q := (RX8, TX8, 13)) rfl h_p0 rfl) rfl rfl hl.1 rfl (lv_room (Nat.le_of_ble_eq_true rfl)) dX8_carryTo_2 ⟨Nat.le_of_ble_eq_true rfl, Nat.le_of_ble_eq_true rfl⟩) hw hA (fun v_1  H locs hp_v_1 hw => ?_)
  have r_v_1 : RI v_1 0 1 := hp_v_1.1
  refine lv_if_eq (tgt := 10) hx hb dX8_carryTo_5 (by decide) (fun c_5 => ?_) (fun c_5 => ?_)
  · have r_v_1 : RI v_1 0 0 := rc_eq1 r_v_1 rl_0 (ti_eq c_5) (by decide)
    refine lv_aload_n hx hb dX8_carryTo_10 rfl (lv_at hl 0 rfl) ?_
    refine tg_get (ci := 8) (ts := ty_WORLD) (C := RX8) (T := TX8) (N := 13) hx hb hts inX8 hown hK hw h_p0 rfl rfl 3 (by decide) (hts _ tw_253) (fun _ h9 => h9) (ft := vR 9) rfl dX8_carryTo_11 (fun u_2 hv_u_2 m_u_2 => ?_)
    obtain ⟨vu_2, rfl, h_vu_2⟩ := hv_u_2
    refine lv_iload_n hx hb dX8_carryTo_14 rfl (lv_at hl 1 rfl) ?_
    refine tg_iald (lo := (-2147483648)) (hi := 2147483647) hx hb hK hw h_vu_2 rfl 0 5 r_p1 (by decide) (by exact fun _ _ _ => ⟨Int.le_refl _, Int.le_refl _⟩) dX8_carryTo_15 (fun v_3 r_v_3 m_v_3 o_v_3 => ?_)
    refine lv_iload_n hx hb dX8_carryTo_16 rfl (lv_at hl 2 rfl) ?_
    refine lv_icmp_ne (tgt := 22) hx hb dX8_carryTo_17 (by decide) (fun c_17 => ?_) (fun c_17 => ?_)
    · refine lv_aload_n hx hb dX8_carryTo_22 rfl (lv_at hl 0 rfl) ?_
      refine tg_mem (ci := 8) (C := RX8) (T := TX8) (N := 13) hx hb hts inX8 hown hK hw 3 m_u_2 rfl (by decide) (hts _ tw_253) (fun _ h9 => h9) dX8_carryTo_23 ?_
      refine lv_iload_n hx hb dX8_carryTo_26 rfl (lv_at hl 1 rfl) ?_
      refine lv_iload_n hx hb dX8_carryTo_27 rfl (lv_at hl 2 rfl) ?_
      refine tg_iast hx hb hK hw h_vu_2 rfl 0 5 r_p1 (by decide) r_p2 (by exact fun _ _ _ => by decide) (fun _ _ _ _ _ => trivial) (by decide) dX8_carryTo_28 (fun ws H locs hw hF9 hU9 => ?_)
      refine lv_iconst (v := 0) hx hb dX8_carryTo_29 (by decide) ?_
      subst hQ
      exact W.iret (v := 0) hx hb hr (fun t ht hW => ⟨⟨0, ws, rfl, ⟨⟨rl_0.to (by decide), (fun h0 => trivial), (fun _ => trivial)⟩, hw.1, hw.2.2.2.2.1⟩, by rw [ht]; exact hw.2.1, va_K.moved hW.alike hK, hw.2.2.1⟩, hw.2.2.2.1.F ht⟩) hw.2.2.2.1.2.2 dX8_carryTo_30
    · refine lv_iconst (v := 2) hx hb dX8_carryTo_20 (by decide) ?_
      subst hQ
      exact W.iret (v := 2) hx hb hr (fun t ht hW => ⟨⟨2, w0, rfl, ⟨⟨rl_2.to (by decide), (fun _ => trivial), (fun h0 => trivial)⟩, hw.1, hw.2.2.2.2.1⟩, by rw [ht]; exact hw.2.1, va_K.moved hW.alike hK, hw.2.2.1⟩, hw.2.2.2.1.F ht⟩) hw.2.2.2.1.2.2 dX8_carryTo_21
  · have r_v_1 : RI v_1 1 1 := rc_neL r_v_1 rl_0 (ti_ne c_5) (by decide)
    refine lv_iconst (v := 1) hx hb dX8_carryTo_8 (by decide) ?_
    subst hQ
    exact W.iret (v := 1) hx hb hr (fun t ht hW => ⟨⟨1, w0, rfl, ⟨⟨rl_1.to (by decide), (fun _ => trivial), (fun h0 => trivial)⟩, hw.1, hw.2.2.2.2.1⟩, by rw [ht]; exact hw.2.1, va_K.moved hW.alike hK, hw.2.2.1⟩, hw.2.2.2.1.F ht⟩) hw.2.2.2.1.2.2 dX8_carryTo_9
abbrev wr_X8_daysLeft : List (Nat × Nat) := []
abbrev wa_X8_daysLeft : List Nat := []
set_option maxHeartbeats 4000000 in
set_option maxRecDepth 100000 in
theorem c_X8_daysLeft (l : Launch) (D : va_G) (cy : Nat → ClassId) (z : Nat → Nat) (sz : Nat) (Ps : PSI) (w0 : va_W) (hT : HT cy GG Ps w0) (p0 : Nat) (h_p0 : (p0, 24) ∈ Ps) : Met l yX8_daysLeft (Cond.code yX8_daysLeft cX8_daysLeft 1 (some .int) :: gT) ({ frames := 2, cells := 0, slots := 0, locals := 400 } : Room) (va_Pc [.ref p0] (PRE D cy z w0 sz)) (va_Qi (fun (r : Int32) (u : Unit) => RI r 0 2147483647 ∧ (r = 0 → True) ∧ (¬ r = 0 → True)) (BB D cy (va_A w0 sz) (fun (u : Unit) => w0)) (va_A w0 sz)) 0 0 (va_A w0 sz) := by
  refine Met.ofW (cc := cX8_daysLeft) (maxL := 1) (ret := (some .int)) (by decide) rfl ?_
  intro p e s m args below meth c s₁ B hml hv
  obtain ⟨rfl, hsz, hP, hK, hD0, hSD⟩ := hv
  have hx := B.exec
  have hb := B.bytes
  have hr := B.returns
  have hlocks := B.notSynchronized
  have hts : ∀ w ∈ gT, w.before _ s = true := fun w h => atoms_spec (ws := Cond.code yX8_daysLeft cX8_daysLeft 1 (some .int) :: gT) B.pre w (List.mem_cons_of_mem _ h)
  have hown : s.vm.findClass RX8 = some m.cls := findClass_of_methodNamed B.named
  subst hsz
  have hD := hD0.self (sz := s.heap.size)
  generalize hAe : va_A w0 s.heap.size = A at hD hSD ⊢
  have hA : ∀ q : Nat, s.heap.size ≤ q → A q := fun q h => by rw [← hAe]; exact Or.inr h
  have hl := lv_entry ([.ref p0]) (n := 1) (Nat.le_of_ble_eq_true rfl)
  rw [lg_entry_eq]
  generalize (lg_sl ([.ref p0]) ++ List.replicate (1 - (lg_sl ([.ref p0])).length) Slot.unset).toArray = ls at hl ⊢
  have hl : lv_has ls 1 [(0, .ref p0)] := hl
  refine nameQ (fun Q hQ => ?_)
  have hw : WD D cy GG A s wr_X8_daysLeft wa_X8_daysLeft Ps w0 Ps w0 s.heap [] := ⟨hT, hP, hD, va_S.rf, FR.rf, hT.1, [], (List.append_nil _).symm⟩
  refine lv_iconst (v := 0) hx hb dX8_daysLeft_0 (by decide) ?_
  refine lv_sipush (v := 400) hx hb dX8_daysLeft_1 (by decide) ?_
  refine lv_aload_n hx hb dX8_daysLeft_4 rfl (lv_at hl 0 rfl) ?_
  refine tg_get (ci := 8) (ts := ty_WORLD) (C := RX8) (T := TX8) (N := 13) hx hb hts inX8 hown hK hw h_p0 rfl rfl 1 (by decide) (hts _ tw_250) (fun _ h9 => h9) (ft := vI (-2147483648) 2147483647) rfl dX8_daysLeft_5 (fun u_1 hv_u_1 m_u_1 => ?_)
  obtain ⟨vu_1, rfl, r_vu_1⟩ := hv_u_1
  refine lv_isub hx hb dX8_daysLeft_8 (lv_topi (fun v_2 e_v_2 => ?_))
  have r_v_2 := ri_any v_2
  refine va_mmax hx hb (hml.trans hl.1.symm) hown (hts _ tw_488) (hts _ tw_489) (hts _ tw_16) (hts _ tw_490) (Nat.le_of_ble_eq_true rfl) (Nat.le_of_ble_eq_true rfl) (Nat.le_of_ble_eq_true rfl) (Nat.le_of_ble_eq_true rfl) dX8_daysLeft_9 (lv_topi (fun v_3 e_v_3 => ?_))
  have r_v_3 : RI v_3 0 2147483647 := by rw [e_v_3]; exact ri_max rl_0 r_v_2 (by decide)
  subst hQ
  exact W.iret (v := v_3) hx hb hr (fun t ht hW => ⟨⟨v_3, (), rfl, ⟨r_v_3.to (by decide), (fun h0 => trivial), (fun h0 => trivial)⟩, by rw [ht]; exact hw.2.1, va_K.moved hW.alike hK, hw.2.2.1⟩, hw.2.2.2.1.F ht⟩) hw.2.2.2.1.2.2 dX8_daysLeft_12
abbrev wr_X8_givesTo : List (Nat × Nat) := []
abbrev wa_X8_givesTo : List Nat := []
set_option maxHeartbeats 4000000 in
set_option maxRecDepth 100000 in
theorem c_X8_givesTo (l : Launch) (D : va_G) (cy : Nat → ClassId) (z : Nat → Nat) (sz : Nat) (Ps : PSI) (w0 : va_W) (hT : HT cy GG Ps w0) (p0 : Nat) (p1 : Int32) (p2 : Int32) (h_p0 : (p0, 24) ∈ Ps) (r_p1 : RI p1 0 7) (r_p2 : RI p2 0 5) : Met l yX8_givesTo (Cond.code yX8_givesTo cX8_givesTo 4 (some .int) :: gT) ({ frames := 0, cells := 0, slots := 0, locals := 200 } : Room) (va_Pc [.ref p0, .int p1, .int p2] (PRE D cy z w0 sz)) (va_Qi (fun (r : Int32) (u : Unit) => RI r (-2147483648) 2147483647 ∧ (r = 0 → True) ∧ (¬ r = 0 → True)) (BB D cy (va_A w0 sz) (fun (u : Unit) => w0)) (va_A w0 sz)) 0 0 (va_A w0 sz) := by
  refine Met.ofW (cc := cX8_givesTo) (maxL := 4) (ret := (some .int)) (by decide) rfl ?_
  intro p e s m args below meth c s₁ B hml hv
  obtain ⟨rfl, hsz, hP, hK, hD0, hSD⟩ := hv
  have hx := B.exec
  have hb := B.bytes
  have hr := B.returns
  have hlocks := B.notSynchronized
  have hts : ∀ w ∈ gT, w.before _ s = true := fun w h => atoms_spec (ws := Cond.code yX8_givesTo cX8_givesTo 4 (some .int) :: gT) B.pre w (List.mem_cons_of_mem _ h)
  have hown : s.vm.findClass RX8 = some m.cls := findClass_of_methodNamed B.named
  subst hsz
  have hD := hD0.self (sz := s.heap.size)
  generalize hAe : va_A w0 s.heap.size = A at hD hSD ⊢
  have hA : ∀ q : Nat, s.heap.size ≤ q → A q := fun q h => by rw [← hAe]; exact Or.inr h
  have hl := lv_entry ([.ref p0, .int p1, .int p2]) (n := 4) (Nat.le_of_ble_eq_true rfl)
  rw [lg_entry_eq]
  generalize (lg_sl ([.ref p0, .int p1, .int p2]) ++ List.replicate (4 - (lg_sl ([.ref p0, .int p1, .int p2])).length) Slot.unset).toArray = ls at hl ⊢
  have hl : lv_has ls 4 [(0, .ref p0), (1, .int p1), (2, .int p2)] := hl
  refine nameQ (fun Q hQ => ?_)
  have hw : WD D cy GG A s wr_X8_givesTo wa_X8_givesTo Ps w0 Ps w0 s.heap [] := ⟨hT, hP, hD, va_S.rf, FR.rf, hT.1, [], (List.append_nil _).symm⟩
  refine lv_aload_n hx hb dX8_givesTo_0 rfl (lv_at hl 0 rfl) ?_
  refine tg_get (ci := 8) (ts := ty_WORLD) (C := RX8) (T := TX8) (N := 13) hx hb hts inX8 hown hK hw h_p0 rfl rfl 8 (by decide) (hts _ tw_268) (fun _ h9 => h9) (ft := vR 12) rfl dX8_givesTo_1 (fun u_1 hv_u_1 m_u_1 => ?_)
  obtain ⟨vu_1, rfl, h_vu_1⟩ := hv_u_1
  refine lv_iload_n hx hb dX8_givesTo_4 rfl (lv_at hl 1 rfl) ?_
  refine tg_iald (lo := (-1)) (hi := 5) hx hb hK hw h_vu_1 rfl 0 7 r_p1 (by decide) (by exact fun _ _ _ => ⟨Int.le_refl _, Int.le_refl _⟩) dX8_givesTo_5 (fun v_2 r_v_2 m_v_2 o_v_2 => ?_)
  refine lv_istore_n (lv' := [(3, .int v_2), (0, .ref p0), (1, .int p1), (2, .int p2)]) hx hb dX8_givesTo_6 rfl hl (by decide) rfl (fun ls hl => ?_)
  refine lv_iload_n hx hb dX8_givesTo_7 rfl (lv_at hl 0 rfl) ?_
  refine lv_iconst (v := (-1)) hx hb dX8_givesTo_8 (by decide) ?_
  refine lv_icmp_eq (tgt := 30) hx hb dX8_givesTo_9 (by decide) (fun c_9 => ?_) (fun c_9 => ?_)
  · have r_v_2 : RI v_2 (-1) (-1) := rc_eq1 r_v_2 rl_m1 (ti_eq c_9) (by decide)
    refine lv_iconst (v := 0) hx hb dX8_givesTo_30 (by decide) ?_
    subst hQ
    exact W.iret (v := 0) hx hb hr (fun t ht hW => ⟨⟨0, (), rfl, ⟨rl_0.to (by decide), (fun h0 => trivial), (fun _ => trivial)⟩, by rw [ht]; exact hw.2.1, va_K.moved hW.alike hK, hw.2.2.1⟩, hw.2.2.2.1.F ht⟩) hw.2.2.2.1.2.2 dX8_givesTo_31
  · have r_v_2 : RI v_2 0 5 := rc_neL r_v_2 rl_m1 (ti_ne c_9) (by decide)
    refine lv_aload_n hx hb dX8_givesTo_12 rfl (lv_at hl 1 rfl) ?_
    refine tg_get (ci := 8) (ts := ty_WORLD) (C := RX8) (T := TX8) (N := 13) hx hb hts inX8 hown hK hw h_p0 rfl rfl 5 (by decide) (hts _ tw_260) (fun _ h9 => h9) (ft := vR 10) rfl dX8_givesTo_13 (fun u_3 hv_u_3 m_u_3 => ?_)
    obtain ⟨vu_3, rfl, h_vu_3⟩ := hv_u_3
    refine lv_iload_n hx hb dX8_givesTo_16 rfl (lv_at hl 0 rfl) ?_
    refine tg_iald (lo := (-2147483648)) (hi := 2147483647) hx hb hK hw h_vu_3 rfl 0 5 r_v_2 (by decide) (by exact fun _ _ _ => ⟨Int.le_refl _, Int.le_refl _⟩) dX8_givesTo_17 (fun v_4 r_v_4 m_v_4 o_v_4 => ?_)
    refine lv_if_ne (tgt := 30) hx hb dX8_givesTo_18 (by decide) (fun c_18 => ?_) (fun c_18 => ?_)
    · refine lv_iconst (v := 0) hx hb dX8_givesTo_30 (by decide) ?_
      subst hQ
      exact W.iret (v := 0) hx hb hr (fun t ht hW => ⟨⟨0, (), rfl, ⟨rl_0.to (by decide), (fun h0 => trivial), (fun _ => trivial)⟩, by rw [ht]; exact hw.2.1, va_K.moved hW.alike hK, hw.2.2.1⟩, hw.2.2.2.1.F ht⟩) hw.2.2.2.1.2.2 dX8_givesTo_31
    · have r_v_4 : RI v_4 0 0 := rc_eq1 r_v_4 rl_0 (ti_eq c_18) (by decide)
      refine lv_aload_n hx hb dX8_givesTo_21 rfl (lv_at hl 1 rfl) ?_
      refine tg_mem (ci := 8) (C := RX8) (T := TX8) (N := 13) hx hb hts inX8 hown hK hw 5 m_u_3 rfl (by decide) (hts _ tw_260) (fun _ h9 => h9) dX8_givesTo_22 ?_
      refine lv_iload_n hx hb dX8_givesTo_25 rfl (lv_at hl 3 rfl) ?_
      refine tg_iald (lo := (-2147483648)) (hi := 2147483647) hx hb hK hw h_vu_3 rfl 0 5 r_p2 (by decide) (by exact fun _ _ _ => ⟨Int.le_refl _, Int.le_refl _⟩) dX8_givesTo_26 (fun v_5 r_v_5 m_v_5 o_v_5 => ?_)
      refine lv_if_eq (tgt := 32) hx hb dX8_givesTo_27 (by decide) (fun c_27 => ?_) (fun c_27 => ?_)
      · have r_v_5 : RI v_5 0 0 := rc_eq1 r_v_5 rl_0 (ti_eq c_27) (by decide)
        refine lv_iload_n hx hb dX8_givesTo_32 rfl (lv_at hl 0 rfl) ?_
        refine lv_iload_n hx hb dX8_givesTo_33 rfl (lv_at hl 3 rfl) ?_
        refine lv_icmp_ne (tgt := 47) hx hb dX8_givesTo_34 (by decide) (fun c_34 => ?_) (fun c_34 => ?_)
        · refine lv_aload_n hx hb dX8_givesTo_47 rfl (lv_at hl 1 rfl) ?_
          refine tg_get (ci := 8) (ts := ty_WORLD) (C := RX8) (T := TX8) (N := 13) hx hb hts inX8 hown hK hw h_p0 rfl rfl 3 (by decide) (hts _ tw_253) (fun _ h9 => h9) (ft := vR 9) rfl dX8_givesTo_48 (fun u_6 hv_u_6 m_u_6 => ?_)
          obtain ⟨vu_6, rfl, h_vu_6⟩ := hv_u_6
          refine lv_iload_n hx hb dX8_givesTo_51 rfl (lv_at hl 0 rfl) ?_
          refine tg_iald (lo := (-2147483648)) (hi := 2147483647) hx hb hK hw h_vu_6 rfl 0 5 r_v_2 (by decide) (by exact fun _ _ _ => ⟨Int.le_refl _, Int.le_refl _⟩) dX8_givesTo_52 (fun v_7 r_v_7 m_v_7 o_v_7 => ?_)
          refine lv_aload_n hx hb dX8_givesTo_53 rfl (lv_at hl 1 rfl) ?_
          refine tg_mem (ci := 8) (C := RX8) (T := TX8) (N := 13) hx hb hts inX8 hown hK hw 3 m_u_6 rfl (by decide) (hts _ tw_253) (fun _ h9 => h9) dX8_givesTo_54 ?_
          refine lv_iload_n hx hb dX8_givesTo_57 rfl (lv_at hl 3 rfl) ?_
          refine tg_iald (lo := (-2147483648)) (hi := 2147483647) hx hb hK hw h_vu_6 rfl 0 5 r_p2 (by decide) (by exact fun _ _ _ => ⟨Int.le_refl _, Int.le_refl _⟩) dX8_givesTo_58 (fun v_8 r_v_8 m_v_8 o_v_8 => ?_)
          refine lv_icmp_ne (tgt := 72) hx hb dX8_givesTo_59 (by decide) (fun c_59 => ?_) (fun c_59 => ?_)
          · refine lv_iconst (v := 0) hx hb dX8_givesTo_72 (by decide) ?_
            subst hQ
            exact W.iret (v := 0) hx hb hr (fun t ht hW => ⟨⟨0, (), rfl, ⟨rl_0.to (by decide), (fun h0 => trivial), (fun _ => trivial)⟩, by rw [ht]; exact hw.2.1, va_K.moved hW.alike hK, hw.2.2.1⟩, hw.2.2.2.1.F ht⟩) hw.2.2.2.1.2.2 dX8_givesTo_73
          · refine lv_aload_n hx hb dX8_givesTo_62 rfl (lv_at hl 1 rfl) ?_
            refine tg_get (ci := 8) (ts := ty_WORLD) (C := RX8) (T := TX8) (N := 13) hx hb hts inX8 hown hK hw h_p0 rfl rfl 0 (by decide) (hts _ tw_247) (fun _ h9 => h9) (ft := vR 25) rfl dX8_givesTo_63 (fun u_9 hv_u_9 m_u_9 => ?_)
            obtain ⟨vu_9, rfl, h_vu_9⟩ := hv_u_9
            refine tg_getN (ci := 3) (ts := ty_POST) (C := RX3) (T := TX3) (N := 9) hx hb hts inX3 hown hK hw h_vu_9 rfl rfl 5 (by decide) (hSD.nest tn_214) (fun _ h9 => h9) (ft := vI (-2147483648) 2147483647) rfl dX8_givesTo_66 (fun u_10 hv_u_10 m_u_10 => ?_)
            obtain ⟨vu_10, rfl, r_vu_10⟩ := hv_u_10
            refine lv_goto (tgt := 73) hx hb dX8_givesTo_69 (by decide) ?_
            subst hQ
            exact W.iret (v := vu_10) hx hb hr (fun t ht hW => ⟨⟨vu_10, (), rfl, ⟨r_vu_10.to (by decide), (fun h0 => trivial), (fun h0 => trivial)⟩, by rw [ht]; exact hw.2.1, va_K.moved hW.alike hK, hw.2.2.1⟩, hw.2.2.2.1.F ht⟩) hw.2.2.2.1.2.2 dX8_givesTo_73
        · refine lv_aload_n hx hb dX8_givesTo_37 rfl (lv_at hl 1 rfl) ?_
          refine tg_get (ci := 8) (ts := ty_WORLD) (C := RX8) (T := TX8) (N := 13) hx hb hts inX8 hown hK hw h_p0 rfl rfl 0 (by decide) (hts _ tw_247) (fun _ h9 => h9) (ft := vR 25) rfl dX8_givesTo_38 (fun u_11 hv_u_11 m_u_11 => ?_)
          obtain ⟨vu_11, rfl, h_vu_11⟩ := hv_u_11
          refine tg_getN (ci := 3) (ts := ty_POST) (C := RX3) (T := TX3) (N := 9) hx hb hts inX3 hown hK hw h_vu_11 rfl rfl 4 (by decide) (hSD.nest tn_212) (fun _ h9 => h9) (ft := vR 7) rfl dX8_givesTo_41 (fun u_12 hv_u_12 m_u_12 => ?_)
          obtain ⟨vu_12, rfl, h_vu_12⟩ := hv_u_12
          refine lv_iload_n hx hb dX8_givesTo_44 rfl (lv_at hl 2 rfl) ?_
          refine tg_iald (lo := (-2147483648)) (hi := 2147483647) hx hb hK hw h_vu_12 rfl 0 7 r_p1 (by decide) (by exact fun _ _ _ => ⟨Int.le_refl _, Int.le_refl _⟩) dX8_givesTo_45 (fun v_13 r_v_13 m_v_13 o_v_13 => ?_)
          subst hQ
          exact W.iret (v := v_13) hx hb hr (fun t ht hW => ⟨⟨v_13, (), rfl, ⟨r_v_13.to (by decide), (fun h0 => trivial), (fun h0 => trivial)⟩, by rw [ht]; exact hw.2.1, va_K.moved hW.alike hK, hw.2.2.1⟩, hw.2.2.2.1.F ht⟩) hw.2.2.2.1.2.2 dX8_givesTo_46
      · refine lv_iconst (v := 0) hx hb dX8_givesTo_30 (by decide) ?_
        subst hQ
        exact W.iret (v := 0) hx hb hr (fun t ht hW => ⟨⟨0, (), rfl, ⟨rl_0.to (by decide), (fun h0 => trivial), (fun _ => trivial)⟩, by rw [ht]; exact hw.2.1, va_K.moved hW.alike hK, hw.2.2.1⟩, hw.2.2.2.1.F ht⟩) hw.2.2.2.1.2.2 dX8_givesTo_31
abbrev wr_J7_fill_53178__6 : List (Nat × Nat) := []
abbrev wa_J7_fill_53178__6 : List Nat := [14]
set_option maxHeartbeats 4000000 in
set_option maxRecDepth 100000 in
theorem c_J7_fill_53178__6 (l : Launch) (D : va_G) (cy : Nat → ClassId) (z : Nat → Nat) (sz : Nat) (Ps : PSI) (w0 : va_W) (hT : HT cy GG Ps w0) (p0 : Nat) (p1 : Int32) (h_p0 : (p0, 14) ∈ Ps) (r_p1 : RI p1 0 0) : Met l yJ7_fill_53178 (Cond.code yJ7_fill_53178 cJ7_fill_53178 4 none :: gT) ({ frames := 0, cells := 0, slots := 0, locals := 200 } : Room) (va_Pc [.ref p0, .int p1] (PRE D cy z w0 sz)) (va_Qv (fun (u : va_W) => (True) ∧ HT cy GG Ps u ∧ FR wr_J7_fill_53178__6 wa_J7_fill_53178__6 Ps w0 u) (BB D cy (va_A w0 sz) (fun (u : va_W) => u)) (va_A w0 sz)) 0 0 (va_A w0 sz) := by
  refine Met.ofW (cc := cJ7_fill_53178) (maxL := 4) (ret := none) (by decide) rfl ?_
  intro p e s m args below meth c s₁ B hml hv
  obtain ⟨rfl, hsz, hP, hK, hD0, hSD⟩ := hv
  have hx := B.exec
  have hb := B.bytes
  have hr := B.returns
  have hlocks := B.notSynchronized
  have hts : ∀ w ∈ gT, w.before _ s = true := fun w h => atoms_spec (ws := Cond.code yJ7_fill_53178 cJ7_fill_53178 4 none :: gT) B.pre w (List.mem_cons_of_mem _ h)
  have hown : s.vm.findClass RJ7 = some m.cls := findClass_of_methodNamed B.named
  subst hsz
  have hD := hD0.self (sz := s.heap.size)
  generalize hAe : va_A w0 s.heap.size = A at hD hSD ⊢
  have hA : ∀ q : Nat, s.heap.size ≤ q → A q := fun q h => by rw [← hAe]; exact Or.inr h
  have hl := lv_entry ([.ref p0, .int p1]) (n := 4) (Nat.le_of_ble_eq_true rfl)
  rw [lg_entry_eq]
  generalize (lg_sl ([.ref p0, .int p1]) ++ List.replicate (4 - (lg_sl ([.ref p0, .int p1])).length) Slot.unset).toArray = ls at hl ⊢
  have hl : lv_has ls 4 [(0, .ref p0), (1, .int p1)] := hl
  refine nameQ (fun Q hQ => ?_)
  have hw : WD D cy GG A s wr_J7_fill_53178__6 wa_J7_fill_53178__6 Ps w0 Ps w0 s.heap [] := ⟨hT, hP, hD, va_S.rf, FR.rf, hT.1, [], (List.append_nil _).symm⟩
  have B5 : ∀ (nf : Nat) (x2 : Int32) (x3 : Int32) (ws : va_W) (H : Heap) (locs : List Loc) (ls : Array Slot), 6 - x2.toInt < (nf : Int) → RI p1 0 0 → RI x2 0 6 → RI x3 6 6 → WD D cy GG A s wr_J7_fill_53178__6 wa_J7_fill_53178__6 Ps w0 Ps ws H locs → lv_has ls 4 [(0, .ref p0), (1, .int p1), (2, .int x2), (3, .int x3)] → W p l e (headSpec (Cond.code yJ7_fill_53178 cJ7_fill_53178 4 none :: gT) ({ frames := 0, cells := 0, slots := 0, locals := 200 } : Room)).room s m ([.ref p0, .int p1] : List Value).toArray below meth c H locs 0 0 Q (F0 m 5 ls []) := by
    intro nf5
    induction nf5 with
    | zero =>
      intro x2 x3 ws H locs ls hn5 r_p1 r_x2 r_x3 hw hl
      exact absurd hn5 (by have q0 := r_x2.1; have u0 := r_x2.2; omega)
    | succ nf5 ih5 =>
      intro x2 x3 ws H locs ls hn5 r_p1 r_x2 r_x3 hw hl
      refine lv_iload_n hx hb dJ7_fill_53178_5 rfl (lv_at hl 2 rfl) ?_
      refine lv_iload_n hx hb dJ7_fill_53178_6 rfl (lv_at hl 3 rfl) ?_
      refine lv_icmp_ge (tgt := 20) hx hb dJ7_fill_53178_7 (by decide) (fun c_7 => ?_) (fun c_7 => ?_)
      · have r_x2 : RI x2 6 6 := rc_le2 r_x3 r_x2 (ti_le c_7) (by decide)
        subst hQ
        exact W.vret hx hb hr (fun t ht hW => ⟨⟨ws, rfl, ⟨trivial, hw.1, hw.2.2.2.2.1⟩, by rw [ht]; exact hw.2.1, va_K.moved hW.alike hK, hw.2.2.1⟩, hw.2.2.2.1.F ht⟩) hw.2.2.2.1.2.2 dJ7_fill_53178_20
      · have r_x2 : RI x2 0 5 := rc_lt1 r_x2 r_x3 (ti_nle c_7) (by decide)
        refine lv_aload_n hx hb dJ7_fill_53178_10 rfl (lv_at hl 0 rfl) ?_
        refine lv_iload_n hx hb dJ7_fill_53178_11 rfl (lv_at hl 2 rfl) ?_
        refine lv_iload_n hx hb dJ7_fill_53178_12 rfl (lv_at hl 1 rfl) ?_
        refine tg_iast hx hb hK hw h_p0 rfl 0 5 r_x2 (by decide) r_p1 (by exact fun _ _ _ => by decide) (fun _ _ _ _ _ => trivial) (by decide) dJ7_fill_53178_13 (fun ws H locs hw hF9 hU9 => ?_)
        obtain ⟨v_1, e_v_1⟩ : ∃ q9 : Int32, q9 = x2 + Int32.ofInt 1 := ⟨_, rfl⟩
        obtain ⟨t_v_1, r_v_1⟩ := tq_add (lo := 1) (hi := 6) r_x2 (show RI (Int32.ofInt 1) 1 1 by unfold RI; decide +kernel) (by decide +kernel) e_v_1
        have t_v_1 : v_1.toInt = x2.toInt + 1 := t_v_1
        refine lv_iinc (v := v_1) (lv' := [(2, .int v_1), (0, .ref p0), (1, .int p1), (3, .int x3)]) hx hb dJ7_fill_53178_14 hl (k := 2) rfl e_v_1.symm (by decide) rfl (fun ls hl => ?_)
        refine lv_goto (tgt := 5) hx hb dJ7_fill_53178_17 (by decide) ?_
        exact ih5 v_1 x3 ws _ _ ls (by have q0 := r_v_1.1; have u0 := r_v_1.2; have o0 := r_x2.1; have p0 := r_x2.2; omega) r_p1 (r_v_1.to (by decide)) r_x3 hw (lv_sub hl [1, 2, 0, 3] rfl)
  refine lv_iconst (v := 0) hx hb dJ7_fill_53178_0 (by decide) ?_
  refine lv_istore_n (lv' := [(2, .int 0), (0, .ref p0), (1, .int p1)]) hx hb dJ7_fill_53178_1 rfl hl (by decide) rfl (fun ls hl => ?_)
  refine lv_aload_n hx hb dJ7_fill_53178_2 rfl (lv_at hl 1 rfl) ?_
  refine tg_alenI (t0 := 1) (v := 6) hx hb hK hw h_p0 rfl rfl rfl dJ7_fill_53178_3 ?_
  refine lv_istore_n (lv' := [(3, .int 6), (2, .int 0), (0, .ref p0), (1, .int p1)]) hx hb dJ7_fill_53178_4 rfl hl (by decide) rfl (fun ls hl => ?_)
  exact B5 4294967298 0 6 w0 _ _ ls (by have q0 := rl_0.1; have u0 := rl_0.2; omega) r_p1 (rl_0.to (by decide)) rl_6 hw (lv_sub hl [2, 3, 1, 0] rfl)
abbrev wr_X8_reckonGain : List (Nat × Nat) := []
abbrev wa_X8_reckonGain : List Nat := [14]
set_option maxHeartbeats 4000000 in
set_option maxRecDepth 100000 in
theorem c_X8_reckonGain (l : Launch) (D : va_G) (cy : Nat → ClassId) (z : Nat → Nat) (sz : Nat) (Ps : PSI) (w0 : va_W) (hT : HT cy GG Ps w0) (p0 : Nat) (p1 : Int32) (h_p0 : (p0, 24) ∈ Ps) (r_p1 : RI p1 0 5) : Met l yX8_reckonGain (Cond.code yX8_reckonGain cX8_reckonGain 5 (some .boolean) :: gT) ({ frames := 2, cells := 0, slots := 0, locals := 400 } : Room) (va_Pc [.ref p0, .int p1] (PRE D cy z w0 sz)) (va_Qi (fun (r : Int32) (u : va_W) => (RI r 0 1 ∧ (r = 0 → True) ∧ (¬ r = 0 → True)) ∧ HT cy GG Ps u ∧ FR wr_X8_reckonGain wa_X8_reckonGain Ps w0 u) (BB D cy (va_A w0 sz) (fun (u : va_W) => u)) (va_A w0 sz)) 0 0 (va_A w0 sz) := by
  refine Met.ofW (cc := cX8_reckonGain) (maxL := 5) (ret := (some .boolean)) (by decide) rfl ?_
  intro p e s m args below meth c s₁ B hml hv
  obtain ⟨rfl, hsz, hP, hK, hD0, hSD⟩ := hv
  have hx := B.exec
  have hb := B.bytes
  have hr := B.returns
  have hlocks := B.notSynchronized
  have hts : ∀ w ∈ gT, w.before _ s = true := fun w h => atoms_spec (ws := Cond.code yX8_reckonGain cX8_reckonGain 5 (some .boolean) :: gT) B.pre w (List.mem_cons_of_mem _ h)
  have hown : s.vm.findClass RX8 = some m.cls := findClass_of_methodNamed B.named
  subst hsz
  have hD := hD0.self (sz := s.heap.size)
  generalize hAe : va_A w0 s.heap.size = A at hD hSD ⊢
  have hA : ∀ q : Nat, s.heap.size ≤ q → A q := fun q h => by rw [← hAe]; exact Or.inr h
  have hl := lv_entry ([.ref p0, .int p1]) (n := 5) (Nat.le_of_ble_eq_true rfl)
  rw [lg_entry_eq]
  generalize (lg_sl ([.ref p0, .int p1]) ++ List.replicate (5 - (lg_sl ([.ref p0, .int p1])).length) Slot.unset).toArray = ls at hl ⊢
  have hl : lv_has ls 5 [(0, .ref p0), (1, .int p1)] := hl
  refine nameQ (fun Q hQ => ?_)
  have hw : WD D cy GG A s wr_X8_reckonGain wa_X8_reckonGain Ps w0 Ps w0 s.heap [] := ⟨hT, hP, hD, va_S.rf, FR.rf, hT.1, [], (List.append_nil _).symm⟩
  have B12 : ∀ (nf : Nat) (x2 : Int32) (x3 : Int32) (ws : va_W) (H : Heap) (locs : List Loc) (ls : Array Slot), 8 - x3.toInt < (nf : Int) → RI p1 0 5 → RI x2 0 1 → RI x3 0 8 → WD D cy GG A s wr_X8_reckonGain wa_X8_reckonGain Ps w0 Ps ws H locs → lv_has ls 5 [(0, .ref p0), (1, .int p1), (2, .int x2), (3, .int x3)] → W p l e (headSpec (Cond.code yX8_reckonGain cX8_reckonGain 5 (some .boolean) :: gT) ({ frames := 2, cells := 0, slots := 0, locals := 400 } : Room)).room s m ([.ref p0, .int p1] : List Value).toArray below meth c H locs 0 0 Q (F0 m 12 ls []) := by
    intro nf12
    induction nf12 with
    | zero =>
      intro x2 x3 ws H locs ls hn12 r_p1 r_x2 r_x3 hw hl
      exact absurd hn12 (by have q0 := r_x3.1; have u0 := r_x3.2; omega)
    | succ nf12 ih12 =>
      intro x2 x3 ws H locs ls hn12 r_p1 r_x2 r_x3 hw hl
      refine lv_iload_n hx hb dX8_reckonGain_12 rfl (lv_at hl 3 rfl) ?_
      refine lv_aload_n hx hb dX8_reckonGain_13 rfl (lv_at hl 0 rfl) ?_
      refine tg_get (ci := 8) (ts := ty_WORLD) (C := RX8) (T := TX8) (N := 13) hx hb hts inX8 hown hK hw h_p0 rfl rfl 0 (by decide) (hts _ tw_247) (fun _ h9 => h9) (ft := vR 25) rfl dX8_reckonGain_14 (fun u_1 hv_u_1 m_u_1 => ?_)
      obtain ⟨vu_1, rfl, h_vu_1⟩ := hv_u_1
      refine tg_getN (ci := 3) (ts := ty_POST) (C := RX3) (T := TX3) (N := 9) hx hb hts inX3 hown hK hw h_vu_1 rfl rfl 1 (by decide) (hSD.nest tn_203) (fun _ h9 => h9) (ft := vR 4) rfl dX8_reckonGain_17 (fun u_2 hv_u_2 m_u_2 => ?_)
      obtain ⟨vu_2, rfl, h_vu_2⟩ := hv_u_2
      refine lv_iconst (v := 3) hx hb dX8_reckonGain_20 (by decide) ?_
      refine tg_iald (lo := 0) (hi := 8) hx hb hK hw h_vu_2 rfl 3 3 rl_3 (by decide) (by decide +kernel) dX8_reckonGain_21 (fun v_3 r_v_3 m_v_3 o_v_3 => ?_)
      refine lv_icmp_ge (tgt := 62) hx hb dX8_reckonGain_22 (by decide) (fun c_22 => ?_) (fun c_22 => ?_)
      · refine lv_iload_n hx hb dX8_reckonGain_62 rfl (lv_at hl 2 rfl) ?_
        subst hQ
        exact W.zret (v := x2) hx hb hr (tq_nz (r_x2.to (by decide))) (fun t ht hW => ⟨⟨x2, ws, rfl, ⟨⟨r_x2.to (by decide), (fun h0 => trivial), (fun h0 => trivial)⟩, hw.1, hw.2.2.2.2.1⟩, by rw [ht]; exact hw.2.1, va_K.moved hW.alike hK, hw.2.2.1⟩, hw.2.2.2.1.F ht⟩) hw.2.2.2.1.2.2 dX8_reckonGain_63
      · have r_x3 : RI x3 0 7 := rc_lt1 r_x3 r_v_3 (ti_nle c_22) (by decide)
        have r_v_3 : RI v_3 1 8 := rc_lt2 r_x3 r_v_3 (ti_nle c_22) (by decide)
        refine lv_aload_n hx hb dX8_reckonGain_25 rfl (lv_at hl 0 rfl) ?_
        refine lv_iload_n hx hb dX8_reckonGain_26 rfl (lv_at hl 3 rfl) ?_
        refine lv_iload_n hx hb dX8_reckonGain_27 rfl (lv_at hl 1 rfl) ?_
        refine tk_ir (va_runV (As := [.int x3, .int p1]) (rest := []) ⟨hx, hb, hml, hown, hts⟩ (c_X8_givesTo l D cy z H.size Ps ws hw.1 p0 x3 p1 h_p0 r_x3 r_p1) (cwV 2 hts (gV tw_693 tw_695 ts_14 tw_12 tw_696) rfl rfl rfl (by decide +kernel) ⟨Nat.le_of_ble_eq_true rfl, Nat.le_of_ble_eq_true rfl⟩) (tg_preV hw hK hSD hA (ci := 8) (q := (RX8, TX8, 13)) rfl h_p0 rfl) rfl rfl hl.1 rfl (lv_room (Nat.le_of_ble_eq_true rfl)) dX8_reckonGain_28 ⟨Nat.le_of_ble_eq_true rfl, Nat.le_of_ble_eq_true rfl⟩) hw hA (fun v_4  H locs hp_v_4 hw => ?_)
        have r_v_4 : RI v_4 (-2147483648) 2147483647 := hp_v_4.1
        refine lv_istore (lv' := [(4, .int v_4), (0, .ref p0), (1, .int p1), (2, .int x2), (3, .int x3)]) hx hb dX8_reckonGain_31 hl (by decide) rfl (fun ls hl => ?_)
        refine lv_iload hx hb dX8_reckonGain_33 (lv_at hl 0 rfl) ?_
        refine lv_if_le (tgt := 56) hx hb dX8_reckonGain_35 (by decide) (fun c_35 => ?_) (fun c_35 => ?_)
        · have r_v_4 : RI v_4 (-2147483648) 0 := rc_le1 r_v_4 rl_0 (ti_le c_35) (by decide)
          obtain ⟨v_5, e_v_5⟩ : ∃ q9 : Int32, q9 = x3 + Int32.ofInt 1 := ⟨_, rfl⟩
          obtain ⟨t_v_5, r_v_5⟩ := tq_add (lo := 1) (hi := 8) r_x3 (show RI (Int32.ofInt 1) 1 1 by unfold RI; decide +kernel) (by decide +kernel) e_v_5
          have t_v_5 : v_5.toInt = x3.toInt + 1 := t_v_5
          refine lv_iinc (v := v_5) (lv' := [(3, .int v_5), (4, .int v_4), (0, .ref p0), (1, .int p1), (2, .int x2)]) hx hb dX8_reckonGain_56 hl (k := 4) rfl e_v_5.symm (by decide) rfl (fun ls hl => ?_)
          refine lv_goto (tgt := 12) hx hb dX8_reckonGain_59 (by decide) ?_
          exact ih12 x2 v_5 ws _ _ ls (by have q0 := r_v_5.1; have u0 := r_v_5.2; have o0 := r_x3.1; have p0 := r_x3.2; omega) r_p1 r_x2 (r_v_5.to (by decide)) hw (lv_sub hl [2, 3, 4, 0] rfl)
        · have r_v_4 : RI v_4 1 2147483647 := rc_lt2 rl_0 r_v_4 (ti_nle c_35) (by decide)
          refine lv_aload_n hx hb dX8_reckonGain_38 rfl (lv_at hl 1 rfl) ?_
          refine tg_get (ci := 8) (ts := ty_WORLD) (C := RX8) (T := TX8) (N := 13) hx hb hts inX8 hown hK hw h_p0 rfl rfl 11 (by decide) (hts _ tw_275) (fun _ h9 => h9) (ft := vR 14) rfl dX8_reckonGain_39 (fun u_6 hv_u_6 m_u_6 => ?_)
          obtain ⟨vu_6, rfl, h_vu_6⟩ := hv_u_6
          refine lv_aload_n hx hb dX8_reckonGain_42 rfl (lv_at hl 1 rfl) ?_
          refine tg_get (ci := 8) (ts := ty_WORLD) (C := RX8) (T := TX8) (N := 13) hx hb hts inX8 hown hK hw h_p0 rfl rfl 7 (by decide) (hts _ tw_265) (fun _ h9 => h9) (ft := vR 11) rfl dX8_reckonGain_43 (fun u_7 hv_u_7 m_u_7 => ?_)
          obtain ⟨vu_7, rfl, h_vu_7⟩ := hv_u_7
          refine lv_iload_n hx hb dX8_reckonGain_46 rfl (lv_at hl 4 rfl) ?_
          refine tg_iald (lo := 0) (hi := 5) hx hb hK hw h_vu_7 rfl 0 7 r_x3 (by decide) (by exact fun _ _ _ => ⟨Int.le_refl _, Int.le_refl _⟩) dX8_reckonGain_47 (fun v_8 r_v_8 m_v_8 o_v_8 => ?_)
          refine lv_dup2_11 hx hb dX8_reckonGain_48 rfl rfl ?_
          refine tg_iald (lo := (-2147483648)) (hi := 2147483647) hx hb hK hw h_vu_6 rfl 0 5 r_v_8 (by decide) (by exact fun _ _ _ => ⟨Int.le_refl _, Int.le_refl _⟩) dX8_reckonGain_49 (fun v_9 r_v_9 m_v_9 o_v_9 => ?_)
          refine lv_iload hx hb dX8_reckonGain_50 (lv_at hl 0 rfl) ?_
          refine lv_iadd hx hb dX8_reckonGain_52 (lv_topi (fun v_10 e_v_10 => ?_))
          have r_v_10 := ri_any v_10
          refine tg_iast hx hb hK hw h_vu_6 rfl 0 5 r_v_8 (by decide) r_v_10 (by exact fun _ _ _ => by decide) (fun _ _ _ _ _ => trivial) (by decide) dX8_reckonGain_53 (fun ws H locs hw hF9 hU9 => ?_)
          refine lv_iconst (v := 1) hx hb dX8_reckonGain_54 (by decide) ?_
          refine lv_istore_n (lv' := [(2, .int 1), (4, .int v_4), (0, .ref p0), (1, .int p1), (3, .int x3)]) hx hb dX8_reckonGain_55 rfl hl (by decide) rfl (fun ls hl => ?_)
          obtain ⟨v_11, e_v_11⟩ : ∃ q9 : Int32, q9 = x3 + Int32.ofInt 1 := ⟨_, rfl⟩
          obtain ⟨t_v_11, r_v_11⟩ := tq_add (lo := 1) (hi := 8) r_x3 (show RI (Int32.ofInt 1) 1 1 by unfold RI; decide +kernel) (by decide +kernel) e_v_11
          have t_v_11 : v_11.toInt = x3.toInt + 1 := t_v_11
          refine lv_iinc (v := v_11) (lv' := [(3, .int v_11), (2, .int 1), (4, .int v_4), (0, .ref p0), (1, .int p1)]) hx hb dX8_reckonGain_56 hl (k := 4) rfl e_v_11.symm (by decide) rfl (fun ls hl => ?_)
          refine lv_goto (tgt := 12) hx hb dX8_reckonGain_59 (by decide) ?_
          exact ih12 1 v_11 ws _ _ ls (by have q0 := r_v_11.1; have u0 := r_v_11.2; have o0 := r_x3.1; have p0 := r_x3.2; omega) r_p1 (rl_1.to (by decide)) (r_v_11.to (by decide)) hw (lv_sub hl [3, 4, 1, 0] rfl)
  refine lv_aload_n hx hb dX8_reckonGain_0 rfl (lv_at hl 0 rfl) ?_
  refine tg_get (ci := 8) (ts := ty_WORLD) (C := RX8) (T := TX8) (N := 13) hx hb hts inX8 hown hK hw h_p0 rfl rfl 11 (by decide) (hts _ tw_275) (fun _ h9 => h9) (ft := vR 14) rfl dX8_reckonGain_1 (fun u_12 hv_u_12 m_u_12 => ?_)
  obtain ⟨vu_12, rfl, h_vu_12⟩ := hv_u_12
  refine lv_iconst (v := 0) hx hb dX8_reckonGain_4 (by decide) ?_
  refine tk_v (va_runS (As := [.ref vu_12, .int 0]) (rest := []) ⟨hx, hb, hml, hown, hts⟩ (c_J7_fill_53178__6 l D cy z s.heap.size Ps w0 hw.1 vu_12 0 h_vu_12 rl_0) (va_cwS 2 hts (gS tw_246 tw_167 tw_9 tw_168) rfl rfl rfl (by decide +kernel) ⟨Nat.le_of_ble_eq_true rfl, Nat.le_of_ble_eq_true rfl⟩) (tg_preS hw hK hSD hA) rfl rfl hl.1 rfl (lv_room (Nat.le_of_ble_eq_true rfl)) dX8_reckonGain_5 ⟨Nat.le_of_ble_eq_true rfl, Nat.le_of_ble_eq_true rfl⟩) hw hA ⟨by decide, by decide⟩ (fun ws H locs hp_v_13 hw hF9 => ?_)
  refine lv_iconst (v := 0) hx hb dX8_reckonGain_8 (by decide) ?_
  refine lv_istore_n (lv' := [(2, .int 0), (0, .ref p0), (1, .int p1)]) hx hb dX8_reckonGain_9 rfl hl (by decide) rfl (fun ls hl => ?_)
  refine lv_iconst (v := 0) hx hb dX8_reckonGain_10 (by decide) ?_
  refine lv_istore_n (lv' := [(3, .int 0), (2, .int 0), (0, .ref p0), (1, .int p1)]) hx hb dX8_reckonGain_11 rfl hl (by decide) rfl (fun ls hl => ?_)
  exact B12 4294967298 0 0 ws _ _ ls (by have q0 := rl_0.1; have u0 := rl_0.2; omega) r_p1 (rl_0.to (by decide)) (rl_0.to (by decide)) hw (lv_sub hl [2, 3, 1, 0] rfl)
abbrev wr_X8_willHave__1 : List (Nat × Nat) := []
abbrev wa_X8_willHave__1 : List Nat := []
set_option maxHeartbeats 4000000 in
set_option maxRecDepth 100000 in
theorem c_X8_willHave__1 (l : Launch) (D : va_G) (cy : Nat → ClassId) (z : Nat → Nat) (sz : Nat) (Ps : PSI) (w0 : va_W) (hT : HT cy GG Ps w0) (p0 : Nat) (p1 : Int32) (p2 : Int32) (p3 : Int32) (h_p0 : (p0, 24) ∈ Ps) (r_p1 : RI p1 0 5) (r_p2 : RI p2 0 5) (r_p3 : RI p3 0 0) : Met l yX8_willHave (Cond.code yX8_willHave cX8_willHave 5 (some .int) :: gT) ({ frames := 0, cells := 0, slots := 0, locals := 200 } : Room) (va_Pc [.ref p0, .int p1, .int p2, .int p3] (PRE D cy z w0 sz)) (va_Qi (fun (r : Int32) (u : Unit) => RI r (-2147483648) 99 ∧ (r = 0 → True) ∧ (¬ r = 0 → True) ∧ (WX (fun f g h => Int32.toInt r = min (f (6 * Int32.toNatClampNeg p1 + Int32.toNatClampNeg p2)).toInt 99) Ps w0 p0 ∧ True) ∧ (r.toInt < 0 → True) ∧ (0 ≤ r.toInt → True)) (BB D cy (va_A w0 sz) (fun (u : Unit) => w0)) (va_A w0 sz)) 0 0 (va_A w0 sz) := by
  refine Met.ofW (cc := cX8_willHave) (maxL := 5) (ret := (some .int)) (by decide) rfl ?_
  intro p e s m args below meth c s₁ B hml hv
  obtain ⟨rfl, hsz, hP, hK, hD0, hSD⟩ := hv
  have hx := B.exec
  have hb := B.bytes
  have hr := B.returns
  have hlocks := B.notSynchronized
  have hts : ∀ w ∈ gT, w.before _ s = true := fun w h => atoms_spec (ws := Cond.code yX8_willHave cX8_willHave 5 (some .int) :: gT) B.pre w (List.mem_cons_of_mem _ h)
  have hown : s.vm.findClass RX8 = some m.cls := findClass_of_methodNamed B.named
  subst hsz
  have hD := hD0.self (sz := s.heap.size)
  generalize hAe : va_A w0 s.heap.size = A at hD hSD ⊢
  have hA : ∀ q : Nat, s.heap.size ≤ q → A q := fun q h => by rw [← hAe]; exact Or.inr h
  have hl := lv_entry ([.ref p0, .int p1, .int p2, .int p3]) (n := 5) (Nat.le_of_ble_eq_true rfl)
  rw [lg_entry_eq]
  generalize (lg_sl ([.ref p0, .int p1, .int p2, .int p3]) ++ List.replicate (5 - (lg_sl ([.ref p0, .int p1, .int p2, .int p3])).length) Slot.unset).toArray = ls at hl ⊢
  have hl : lv_has ls 5 [(0, .ref p0), (1, .int p1), (2, .int p2), (3, .int p3)] := hl
  refine nameQ (fun Q hQ => ?_)
  have hw : WD D cy GG A s wr_X8_willHave__1 wa_X8_willHave__1 Ps w0 Ps w0 s.heap [] := ⟨hT, hP, hD, va_S.rf, FR.rf, hT.1, [], (List.append_nil _).symm⟩
  refine lv_aload_n hx hb dX8_willHave_0 rfl (lv_at hl 0 rfl) ?_
  refine tg_get (ci := 8) (ts := ty_WORLD) (C := RX8) (T := TX8) (N := 13) hx hb hts inX8 hown hK hw h_p0 rfl rfl 2 (by decide) (hts _ tw_252) (fun _ h9 => h9) (ft := vR 8) rfl dX8_willHave_1 (fun u_1 hv_u_1 m_u_1 => ?_)
  obtain ⟨vu_1, rfl, h_vu_1⟩ := hv_u_1
  refine lv_iload_n hx hb dX8_willHave_4 rfl (lv_at hl 1 rfl) ?_
  refine lv_bipush (v := 6) hx hb dX8_willHave_5 (by decide) ?_
  refine lv_imul hx hb dX8_willHave_7 (lv_topi (fun v_2 e_v_2 => ?_))
  obtain ⟨t_v_2, r_v_2⟩ := tq_mul (lo := 0) (hi := 30) r_p1 rl_6 (by decide +kernel) e_v_2
  have t_v_2 : v_2.toInt = p1.toInt * 6 := t_v_2
  refine lv_iload_n hx hb dX8_willHave_8 rfl (lv_at hl 2 rfl) ?_
  refine lv_iadd hx hb dX8_willHave_9 (lv_topi (fun v_3 e_v_3 => ?_))
  obtain ⟨t_v_3, r_v_3⟩ := tq_add (lo := 0) (hi := 35) r_v_2 r_p2 (by decide +kernel) e_v_3
  refine tg_iald (lo := (-2147483648)) (hi := 2147483647) hx hb hK hw h_vu_1 rfl 0 35 r_v_3 (by decide) (by exact fun _ _ _ => ⟨Int.le_refl _, Int.le_refl _⟩) dX8_willHave_10 (fun v_4 r_v_4 m_v_4 o_v_4 => ?_)
  refine lv_iload_n hx hb dX8_willHave_11 rfl (lv_at hl 3 rfl) ?_
  refine lv_aload_n hx hb dX8_willHave_12 rfl (lv_at hl 0 rfl) ?_
  refine tg_get (ci := 8) (ts := ty_WORLD) (C := RX8) (T := TX8) (N := 13) hx hb hts inX8 hown hK hw h_p0 rfl rfl 11 (by decide) (hts _ tw_275) (fun _ h9 => h9) (ft := vR 14) rfl dX8_willHave_13 (fun u_5 hv_u_5 m_u_5 => ?_)
  obtain ⟨vu_5, rfl, h_vu_5⟩ := hv_u_5
  refine lv_iload_n hx hb dX8_willHave_16 rfl (lv_at hl 2 rfl) ?_
  refine tg_iald (lo := (-2147483648)) (hi := 2147483647) hx hb hK hw h_vu_5 rfl 0 5 r_p2 (by decide) (by exact fun _ _ _ => ⟨Int.le_refl _, Int.le_refl _⟩) dX8_willHave_17 (fun v_6 r_v_6 m_v_6 o_v_6 => ?_)
  refine lv_imul hx hb dX8_willHave_18 (lv_topi (fun v_7 e_v_7 => ?_))
  obtain ⟨t_v_7, r_v_7⟩ := tq_mul (lo := 0) (hi := 0) r_p3 r_v_6 (by decide +kernel) e_v_7
  refine lv_iadd hx hb dX8_willHave_19 (lv_topi (fun v_8 e_v_8 => ?_))
  obtain ⟨t_v_8, r_v_8⟩ := tq_add (lo := (-2147483648)) (hi := 2147483647) r_v_4 r_v_7 (by decide +kernel) e_v_8
  refine lv_istore (lv' := [(4, .int v_8), (0, .ref p0), (1, .int p1), (2, .int p2), (3, .int p3)]) hx hb dX8_willHave_20 hl (by decide) rfl (fun ls hl => ?_)
  refine lv_iload hx hb dX8_willHave_22 (lv_at hl 0 rfl) ?_
  refine lv_bipush (v := 99) hx hb dX8_willHave_24 (by decide) ?_
  refine lv_icmp_ge (tgt := 34) hx hb dX8_willHave_26 (by decide) (fun c_26 => ?_) (fun c_26 => ?_)
  · have r_v_8 : RI v_8 99 2147483647 := rc_le2 rl_99 r_v_8 (ti_le c_26) (by decide)
    refine lv_bipush (v := 99) hx hb dX8_willHave_34 (by decide) ?_
    have x_WHQ_p0_p1_p2_99 : WX (fun f g h => Int32.toInt 99 = min (f (6 * Int32.toNatClampNeg p1 + Int32.toNatClampNeg p2)).toInt 99) Ps w0 p0 := WX.mk hw h_p0 (fun f9 g9 h9 e9 _ _ => by have q9 := e9 _ _ _ m_u_1 m_v_4; have j9 : Int32.toNatClampNeg v_3 = 6 * Int32.toNatClampNeg p1 + Int32.toNatClampNeg p2 := (by have k1 := r_v_3.cl (by decide); have k2 := r_p1.cl (by decide); have k3 := r_p2.cl (by decide); omega); rw [j9] at q9; show _ = _; rw [q9]; have k6 := r_v_7.eq; have k4 := ti_le c_26; have k5 : (99 : Int32).toInt = 99 := (by decide); omega)
    subst hQ
    exact W.iret (v := 99) hx hb hr (fun t ht hW => ⟨⟨99, (), rfl, ⟨rl_99.to (by decide), (fun _ => trivial), (fun h0 => trivial), ⟨x_WHQ_p0_p1_p2_99, trivial⟩, (fun _ => trivial), (fun _ => trivial)⟩, by rw [ht]; exact hw.2.1, va_K.moved hW.alike hK, hw.2.2.1⟩, hw.2.2.2.1.F ht⟩) hw.2.2.2.1.2.2 dX8_willHave_36
  · have r_v_8 : RI v_8 (-2147483648) 98 := rc_lt1 r_v_8 rl_99 (ti_nle c_26) (by decide)
    refine lv_iload hx hb dX8_willHave_29 (lv_at hl 0 rfl) ?_
    refine lv_goto (tgt := 36) hx hb dX8_willHave_31 (by decide) ?_
    have x_WHQ_p0_p1_p2_v_8 : WX (fun f g h => Int32.toInt v_8 = min (f (6 * Int32.toNatClampNeg p1 + Int32.toNatClampNeg p2)).toInt 99) Ps w0 p0 := WX.mk hw h_p0 (fun f9 g9 h9 e9 _ _ => by have q9 := e9 _ _ _ m_u_1 m_v_4; have j9 : Int32.toNatClampNeg v_3 = 6 * Int32.toNatClampNeg p1 + Int32.toNatClampNeg p2 := (by have k1 := r_v_3.cl (by decide); have k2 := r_p1.cl (by decide); have k3 := r_p2.cl (by decide); omega); rw [j9] at q9; show _ = _; rw [q9]; have k6 := r_v_7.eq; have k4 := ti_nle c_26; have k5 : (99 : Int32).toInt = 99 := (by decide); omega)
    subst hQ
    exact W.iret (v := v_8) hx hb hr (fun t ht hW => ⟨⟨v_8, (), rfl, ⟨r_v_8.to (by decide), (fun h0 => trivial), (fun h0 => trivial), ⟨x_WHQ_p0_p1_p2_v_8, trivial⟩, (fun _ => trivial), (fun _ => trivial)⟩, by rw [ht]; exact hw.2.1, va_K.moved hW.alike hK, hw.2.2.1⟩, hw.2.2.2.1.F ht⟩) hw.2.2.2.1.2.2 dX8_willHave_36
abbrev wr_X8_becomes__1 : List (Nat × Nat) := []
abbrev wa_X8_becomes__1 : List Nat := []
set_option maxHeartbeats 4000000 in
set_option maxRecDepth 100000 in
theorem c_X8_becomes__1 (l : Launch) (D : va_G) (cy : Nat → ClassId) (z : Nat → Nat) (sz : Nat) (Ps : PSI) (w0 : va_W) (hT : HT cy GG Ps w0) (p0 : Nat) (p1 : Int32) (p2 : Int32) (h_p0 : (p0, 24) ∈ Ps) (r_p1 : RI p1 0 5) (r_p2 : RI p2 0 0) : Met l yX8_becomes (Cond.code yX8_becomes cX8_becomes 7 (some .int) :: gT) ({ frames := 2, cells := 0, slots := 0, locals := 400 } : Room) (va_Pc [.ref p0, .int p1, .int p2] (PRE D cy z w0 sz)) (va_Qi (fun (r : Int32) (u : Unit) => RI r (-1) 5 ∧ (r = 0 → True) ∧ (¬ r = 0 → True) ∧ (True) ∧ (r.toInt < 0 → WX (fun f g h => NBq f g h p1) Ps w0 p0 ∧ True) ∧ (0 ≤ r.toInt → WX (fun f g h => WBq f g h p1) Ps w0 p0 ∧ True)) (BB D cy (va_A w0 sz) (fun (u : Unit) => w0)) (va_A w0 sz)) 0 0 (va_A w0 sz) := by
  refine Met.ofW (cc := cX8_becomes) (maxL := 7) (ret := (some .int)) (by decide) rfl ?_
  intro p e s m args below meth c s₁ B hml hv
  obtain ⟨rfl, hsz, hP, hK, hD0, hSD⟩ := hv
  have hx := B.exec
  have hb := B.bytes
  have hr := B.returns
  have hlocks := B.notSynchronized
  have hts : ∀ w ∈ gT, w.before _ s = true := fun w h => atoms_spec (ws := Cond.code yX8_becomes cX8_becomes 7 (some .int) :: gT) B.pre w (List.mem_cons_of_mem _ h)
  have hown : s.vm.findClass RX8 = some m.cls := findClass_of_methodNamed B.named
  subst hsz
  have hD := hD0.self (sz := s.heap.size)
  generalize hAe : va_A w0 s.heap.size = A at hD hSD ⊢
  have hA : ∀ q : Nat, s.heap.size ≤ q → A q := fun q h => by rw [← hAe]; exact Or.inr h
  have hl := lv_entry ([.ref p0, .int p1, .int p2]) (n := 7) (Nat.le_of_ble_eq_true rfl)
  rw [lg_entry_eq]
  generalize (lg_sl ([.ref p0, .int p1, .int p2]) ++ List.replicate (7 - (lg_sl ([.ref p0, .int p1, .int p2])).length) Slot.unset).toArray = ls at hl ⊢
  have hl : lv_has ls 7 [(0, .ref p0), (1, .int p1), (2, .int p2)] := hl
  refine nameQ (fun Q hQ => ?_)
  have hw : WD D cy GG A s wr_X8_becomes__1 wa_X8_becomes__1 Ps w0 Ps w0 s.heap [] := ⟨hT, hP, hD, va_S.rf, FR.rf, hT.1, [], (List.append_nil _).symm⟩
  have B8 : ∀ (nf : Nat) (x3 : Int32) (x4 : Int32) (x5 : Int32) (H : Heap) (locs : List Loc) (ls : Array Slot), 6 - x5.toInt < (nf : Int) → RI p1 0 5 → RI p2 0 0 → RI x3 (-1) 5 → RI x4 0 99 → RI x5 0 6 → WX (fun f g h => BIp f g h p1 x3 x4 x5) Ps w0 p0 → WD D cy GG A s wr_X8_becomes__1 wa_X8_becomes__1 Ps w0 Ps w0 H locs → lv_has ls 7 [(0, .ref p0), (1, .int p1), (2, .int p2), (3, .int x3), (4, .int x4), (5, .int x5)] → W p l e (headSpec (Cond.code yX8_becomes cX8_becomes 7 (some .int) :: gT) ({ frames := 2, cells := 0, slots := 0, locals := 400 } : Room)).room s m ([.ref p0, .int p1, .int p2] : List Value).toArray below meth c H locs 0 0 Q (F0 m 8 ls []) := by
    intro nf8
    induction nf8 with
    | zero =>
      intro x3 x4 x5 H locs ls hn8 r_p1 r_p2 r_x3 r_x4 r_x5 x_BI_p0_p1__3__4__5 hw hl
      exact absurd hn8 (by have q0 := r_x5.1; have u0 := r_x5.2; omega)
    | succ nf8 ih8 =>
      intro x3 x4 x5 H locs ls hn8 r_p1 r_p2 r_x3 r_x4 r_x5 x_BI_p0_p1__3__4__5 hw hl
      refine lv_iload hx hb dX8_becomes_8 (lv_at hl 5 rfl) ?_
      refine lv_aload_n hx hb dX8_becomes_10 rfl (lv_at hl 0 rfl) ?_
      refine tg_get (ci := 8) (ts := ty_WORLD) (C := RX8) (T := TX8) (N := 13) hx hb hts inX8 hown hK hw h_p0 rfl rfl 0 (by decide) (hts _ tw_247) (fun _ h9 => h9) (ft := vR 25) rfl dX8_becomes_11 (fun u_1 hv_u_1 m_u_1 => ?_)
      obtain ⟨vu_1, rfl, h_vu_1⟩ := hv_u_1
      refine tg_getN (ci := 3) (ts := ty_POST) (C := RX3) (T := TX3) (N := 9) hx hb hts inX3 hown hK hw h_vu_1 rfl rfl 1 (by decide) (hSD.nest tn_203) (fun _ h9 => h9) (ft := vR 4) rfl dX8_becomes_14 (fun u_2 hv_u_2 m_u_2 => ?_)
      obtain ⟨vu_2, rfl, h_vu_2⟩ := hv_u_2
      refine lv_iconst (v := 0) hx hb dX8_becomes_17 (by decide) ?_
      refine tg_iald (lo := 0) (hi := 6) hx hb hK hw h_vu_2 rfl 0 0 rl_0 (by decide) (by decide +kernel) dX8_becomes_18 (fun v_3 r_v_3 m_v_3 o_v_3 => ?_)
      refine lv_icmp_ge (tgt := 67) hx hb dX8_becomes_19 (by decide) (fun c_19 => ?_) (fun c_19 => ?_)
      · by_cases c8_x3 : x3.toInt < 0
        · have r_x3 : RI x3 (-1) (-1) := by have k1 := r_x3.1; have k2 := r_x3.2; exact ⟨by omega, by omega⟩
          have x_G9 : WX (fun f g h => g 0 = v_3) Ps w0 p0 := WX.mk hw h_p0 (fun f9 g9 h9 _ e8 _ => e8 _ _ _ _ m_u_1 m_u_2 m_v_3)
          have x_NBQ_p0_p1 : WX (fun f g h => NBq f g h p1) Ps w0 p0 := WX.imp (WX.and hw x_BI_p0_p1__3__4__5 x_G9) (fun f9 g9 h9 q9 => BI_nb q9.1 r_x3 q9.2 c_19)
          refine lv_iload_n hx hb dX8_becomes_67 rfl (lv_at hl 3 rfl) ?_
          subst hQ
          exact W.iret (v := x3) hx hb hr (fun t ht hW => ⟨⟨x3, (), rfl, ⟨r_x3.to (by decide), (fun _ => trivial), (fun h0 => trivial), trivial, (fun h0 => ⟨x_NBQ_p0_p1, trivial⟩), (fun h0 => absurd h0 (by have h8 := r_x3; unfold RI at h8; omega))⟩, by rw [ht]; exact hw.2.1, va_K.moved hW.alike hK, hw.2.2.1⟩, hw.2.2.2.1.F ht⟩) hw.2.2.2.1.2.2 dX8_becomes_68
        · have r_x3 : RI x3 0 5 := by have k1 := r_x3.1; have k2 := r_x3.2; exact ⟨by omega, by omega⟩
          have x_WBQ_p0_p1 : WX (fun f g h => WBq f g h p1) Ps w0 p0 := WX.imp x_BI_p0_p1__3__4__5 (fun f9 g9 h9 q9 => q9.2.2 r_x3.1)
          refine lv_iload_n hx hb dX8_becomes_67 rfl (lv_at hl 3 rfl) ?_
          subst hQ
          exact W.iret (v := x3) hx hb hr (fun t ht hW => ⟨⟨x3, (), rfl, ⟨r_x3.to (by decide), (fun h0 => trivial), (fun h0 => trivial), trivial, (fun h0 => absurd h0 (by have h8 := r_x3; unfold RI at h8; omega)), (fun h0 => ⟨x_WBQ_p0_p1, trivial⟩)⟩, by rw [ht]; exact hw.2.1, va_K.moved hW.alike hK, hw.2.2.1⟩, hw.2.2.2.1.F ht⟩) hw.2.2.2.1.2.2 dX8_becomes_68
      · have r_x5 : RI x5 0 5 := rc_lt1 r_x5 r_v_3 (ti_nle c_19) (by decide)
        have r_v_3 : RI v_3 1 6 := rc_lt2 r_x5 r_v_3 (ti_nle c_19) (by decide)
        refine lv_aload_n hx hb dX8_becomes_22 rfl (lv_at hl 0 rfl) ?_
        refine lv_iload_n hx hb dX8_becomes_23 rfl (lv_at hl 1 rfl) ?_
        refine lv_iload hx hb dX8_becomes_24 (lv_at hl 5 rfl) ?_
        refine lv_iload_n hx hb dX8_becomes_26 rfl (lv_at hl 2 rfl) ?_
        refine tk_ir (va_runV (As := [.int p1, .int x5, .int p2]) (rest := []) ⟨hx, hb, hml, hown, hts⟩ (c_X8_willHave__1 l D cy z H.size Ps w0 hw.1 p0 p1 x5 p2 h_p0 r_p1 r_x5 r_p2) (cwV 3 hts (gV tw_577 tw_579 ts_11 tw_12 tw_580) rfl rfl rfl (by decide +kernel) ⟨Nat.le_of_ble_eq_true rfl, Nat.le_of_ble_eq_true rfl⟩) (tg_preV hw hK hSD hA (ci := 8) (q := (RX8, TX8, 13)) rfl h_p0 rfl) rfl rfl hl.1 rfl (lv_room (Nat.le_of_ble_eq_true rfl)) dX8_becomes_27 ⟨Nat.le_of_ble_eq_true rfl, Nat.le_of_ble_eq_true rfl⟩) hw hA (fun v_4  H locs hp_v_4 hw => ?_)
        have r_v_4 : RI v_4 (-2147483648) 99 := hp_v_4.1
        have x_WHQ_p0_p1_x5_v_4 := hp_v_4.2.2.2.1.1
        refine lv_istore (lv' := [(6, .int v_4), (0, .ref p0), (1, .int p1), (2, .int p2), (3, .int x3), (4, .int x4), (5, .int x5)]) hx hb dX8_becomes_30 hl (by decide) rfl (fun ls hl => ?_)
        refine lv_iload hx hb dX8_becomes_32 (lv_at hl 0 rfl) ?_
        refine lv_aload_n hx hb dX8_becomes_34 rfl (lv_at hl 1 rfl) ?_
        refine tg_mem (ci := 8) (C := RX8) (T := TX8) (N := 13) hx hb hts inX8 hown hK hw 0 m_u_1 rfl (by decide) (hts _ tw_247) (fun _ h9 => h9) dX8_becomes_35 ?_
        refine tg_getN (ci := 3) (ts := ty_POST) (C := RX3) (T := TX3) (N := 9) hx hb hts inX3 hown hK hw h_vu_1 rfl rfl 2 (by decide) (hSD.nest tn_206) (fun _ h9 => h9) (ft := vR 5) rfl dX8_becomes_38 (fun u_5 hv_u_5 m_u_5 => ?_)
        obtain ⟨vu_5, rfl, h_vu_5⟩ := hv_u_5
        refine lv_iload hx hb dX8_becomes_41 (lv_at hl 6 rfl) ?_
        refine tg_iald (lo := (-2147483648)) (hi := 2147483647) hx hb hK hw h_vu_5 rfl 0 5 r_x5 (by decide) (by exact fun _ _ _ => ⟨Int.le_refl _, Int.le_refl _⟩) dX8_becomes_43 (fun v_6 r_v_6 m_v_6 o_v_6 => ?_)
        refine lv_icmp_lt (tgt := 61) hx hb dX8_becomes_44 (by decide) (fun c_44 => ?_) (fun c_44 => ?_)
        · have r_v_6 : RI v_6 (-2147483647) 2147483647 := rc_lt2 r_v_4 r_v_6 (ti_lt c_44) (by decide)
          have x_G9 : WX (fun f g h => h (Int32.toNatClampNeg x5) = v_6) Ps w0 p0 := WX.mk hw h_p0 (fun f9 g9 h9 _ e8 e9 => e9 _ _ _ _ m_u_1 m_u_5 m_v_6)
          have x_BJ_p0_p1_x3_x4_x5 : WX (fun f g h => ∀ k9 : Int32, k9.toInt = Int32.toInt x5 + 1 → BIp f g h p1 x3 x4 k9) Ps w0 p0 := WX.imp (WX.and hw (WX.and hw x_BI_p0_p1__3__4__5 x_WHQ_p0_p1_x5_v_4) x_G9) (fun f9 g9 h9 q9 => fun k9 e9 => BI_a q9.1.1 q9.1.2 q9.2 c_44 e9)
          obtain ⟨v_7, e_v_7⟩ : ∃ q9 : Int32, q9 = x5 + Int32.ofInt 1 := ⟨_, rfl⟩
          obtain ⟨t_v_7, r_v_7⟩ := tq_add (lo := 1) (hi := 6) r_x5 (show RI (Int32.ofInt 1) 1 1 by unfold RI; decide +kernel) (by decide +kernel) e_v_7
          have t_v_7 : v_7.toInt = x5.toInt + 1 := t_v_7
          refine lv_iinc (v := v_7) (lv' := [(5, .int v_7), (6, .int v_4), (0, .ref p0), (1, .int p1), (2, .int p2), (3, .int x3), (4, .int x4)]) hx hb dX8_becomes_61 hl (k := 6) rfl e_v_7.symm (by decide) rfl (fun ls hl => ?_)
          refine lv_goto (tgt := 8) hx hb dX8_becomes_64 (by decide) ?_
          have x_BI_p0_p1_x3_x4_v_7 : WX (fun f g h => BIp f g h p1 x3 x4 v_7) Ps w0 p0 := WX.imp x_BJ_p0_p1_x3_x4_x5 (fun f9 g9 h9 q9 => q9 _ t_v_7)
          exact ih8 x3 x4 v_7 _ _ ls (by have q0 := r_v_7.1; have u0 := r_v_7.2; have o0 := r_x5.1; have p0 := r_x5.2; omega) r_p1 r_p2 r_x3 r_x4 (r_v_7.to (by decide)) x_BI_p0_p1_x3_x4_v_7 hw (lv_sub hl [2, 3, 4, 5, 6, 0] rfl)
        · have r_v_6 : RI v_6 (-2147483648) 99 := rc_le1 r_v_6 r_v_4 (ti_nlt c_44) (by decide)
          refine lv_iload hx hb dX8_becomes_47 (lv_at hl 0 rfl) ?_
          refine lv_iload hx hb dX8_becomes_49 (lv_at hl 5 rfl) ?_
          refine lv_icmp_le (tgt := 61) hx hb dX8_becomes_51 (by decide) (fun c_51 => ?_) (fun c_51 => ?_)
          · have x_BJ_p0_p1_x3_x4_x5 : WX (fun f g h => ∀ k9 : Int32, k9.toInt = Int32.toInt x5 + 1 → BIp f g h p1 x3 x4 k9) Ps w0 p0 := WX.imp (WX.and hw x_BI_p0_p1__3__4__5 x_WHQ_p0_p1_x5_v_4) (fun f9 g9 h9 q9 => fun k9 e9 => BI_b q9.1 q9.2 c_51 e9)
            obtain ⟨v_8, e_v_8⟩ : ∃ q9 : Int32, q9 = x5 + Int32.ofInt 1 := ⟨_, rfl⟩
            obtain ⟨t_v_8, r_v_8⟩ := tq_add (lo := 1) (hi := 6) r_x5 (show RI (Int32.ofInt 1) 1 1 by unfold RI; decide +kernel) (by decide +kernel) e_v_8
            have t_v_8 : v_8.toInt = x5.toInt + 1 := t_v_8
            refine lv_iinc (v := v_8) (lv' := [(5, .int v_8), (6, .int v_4), (0, .ref p0), (1, .int p1), (2, .int p2), (3, .int x3), (4, .int x4)]) hx hb dX8_becomes_61 hl (k := 6) rfl e_v_8.symm (by decide) rfl (fun ls hl => ?_)
            refine lv_goto (tgt := 8) hx hb dX8_becomes_64 (by decide) ?_
            have x_BI_p0_p1_x3_x4_v_8 : WX (fun f g h => BIp f g h p1 x3 x4 v_8) Ps w0 p0 := WX.imp x_BJ_p0_p1_x3_x4_x5 (fun f9 g9 h9 q9 => q9 _ t_v_8)
            exact ih8 x3 x4 v_8 _ _ ls (by have q0 := r_v_8.1; have u0 := r_v_8.2; have o0 := r_x5.1; have p0 := r_x5.2; omega) r_p1 r_p2 r_x3 r_x4 (r_v_8.to (by decide)) x_BI_p0_p1_x3_x4_v_8 hw (lv_sub hl [2, 3, 4, 5, 6, 0] rfl)
          · have r_x4 : RI x4 0 98 := rc_lt1 r_x4 r_v_4 (ti_nle c_51) (by decide)
            have r_v_4 : RI v_4 1 99 := rc_lt2 r_x4 r_v_4 (ti_nle c_51) (by decide)
            refine lv_iload hx hb dX8_becomes_54 (lv_at hl 6 rfl) ?_
            refine lv_istore_n (lv' := [(3, .int x5), (6, .int v_4), (0, .ref p0), (1, .int p1), (2, .int p2), (4, .int x4), (5, .int x5)]) hx hb dX8_becomes_56 rfl hl (by decide) rfl (fun ls hl => ?_)
            refine lv_iload hx hb dX8_becomes_57 (lv_at hl 1 rfl) ?_
            refine lv_istore (lv' := [(4, .int v_4), (3, .int x5), (6, .int v_4), (0, .ref p0), (1, .int p1), (2, .int p2), (5, .int x5)]) hx hb dX8_becomes_59 hl (by decide) rfl (fun ls hl => ?_)
            have x_G9 : WX (fun f g h => h (Int32.toNatClampNeg x5) = v_6 ∧ g 0 = v_3) Ps w0 p0 := WX.mk hw h_p0 (fun f9 g9 h9 _ e8 e9 => ⟨e9 _ _ _ _ m_u_1 m_u_5 m_v_6, e8 _ _ _ _ m_u_1 m_u_2 m_v_3⟩)
            have x_BJ_p0_p1_x5_v_4_x5 : WX (fun f g h => ∀ k9 : Int32, k9.toInt = Int32.toInt x5 + 1 → BIp f g h p1 x5 v_4 k9) Ps w0 p0 := WX.imp (WX.and hw (WX.and hw x_BI_p0_p1__3__4__5 x_WHQ_p0_p1_x5_v_4) x_G9) (fun f9 g9 h9 q9 => fun k9 e9 => BI_c q9.1.1 (r_x5.to (by decide)) (r_x4.to (by decide)) q9.1.2 q9.2.1 q9.2.2 c_44 c_51 c_19 e9)
            obtain ⟨v_9, e_v_9⟩ : ∃ q9 : Int32, q9 = x5 + Int32.ofInt 1 := ⟨_, rfl⟩
            obtain ⟨t_v_9, r_v_9⟩ := tq_add (lo := 1) (hi := 6) r_x5 (show RI (Int32.ofInt 1) 1 1 by unfold RI; decide +kernel) (by decide +kernel) e_v_9
            have t_v_9 : v_9.toInt = x5.toInt + 1 := t_v_9
            refine lv_iinc (v := v_9) (lv' := [(5, .int v_9), (4, .int v_4), (3, .int x5), (6, .int v_4), (0, .ref p0), (1, .int p1), (2, .int p2)]) hx hb dX8_becomes_61 hl (k := 6) rfl e_v_9.symm (by decide) rfl (fun ls hl => ?_)
            refine lv_goto (tgt := 8) hx hb dX8_becomes_64 (by decide) ?_
            have x_BI_p0_p1_x5_v_4_v_9 : WX (fun f g h => BIp f g h p1 x5 v_4 v_9) Ps w0 p0 := WX.imp x_BJ_p0_p1_x5_v_4_x5 (fun f9 g9 h9 q9 => q9 _ t_v_9)
            exact ih8 x5 v_4 v_9 _ _ ls (by have q0 := r_v_9.1; have u0 := r_v_9.2; have o0 := r_x5.1; have p0 := r_x5.2; omega) r_p1 r_p2 (r_x5.to (by decide)) (r_v_4.to (by decide)) (r_v_9.to (by decide)) x_BI_p0_p1_x5_v_4_v_9 hw (lv_sub hl [4, 5, 6, 2, 1, 0] rfl)
  refine lv_iconst (v := (-1)) hx hb dX8_becomes_0 (by decide) ?_
  refine lv_istore_n (lv' := [(3, .int (-1)), (0, .ref p0), (1, .int p1), (2, .int p2)]) hx hb dX8_becomes_1 rfl hl (by decide) rfl (fun ls hl => ?_)
  refine lv_iconst (v := 0) hx hb dX8_becomes_2 (by decide) ?_
  refine lv_istore (lv' := [(4, .int 0), (3, .int (-1)), (0, .ref p0), (1, .int p1), (2, .int p2)]) hx hb dX8_becomes_3 hl (by decide) rfl (fun ls hl => ?_)
  refine lv_iconst (v := 0) hx hb dX8_becomes_5 (by decide) ?_
  refine lv_istore (lv' := [(5, .int 0), (4, .int 0), (3, .int (-1)), (0, .ref p0), (1, .int p1), (2, .int p2)]) hx hb dX8_becomes_6 hl (by decide) rfl (fun ls hl => ?_)
  have x_BI_p0_p1___1__0_0 : WX (fun f g h => BIp f g h p1 (-1) 0 0) Ps w0 p0 := WX.mk hw h_p0 (fun f9 g9 h9 _ _ _ => BI_start)
  exact B8 4294967298 (-1) 0 0 _ _ ls (by have q0 := rl_0.1; have u0 := rl_0.2; omega) r_p1 r_p2 (rl_m1.to (by decide)) (rl_0.to (by decide)) (rl_0.to (by decide)) x_BI_p0_p1___1__0_0 hw (lv_sub hl [3, 4, 5, 2, 1, 0] rfl)
abbrev wr_X8_grow : List (Nat × Nat) := []
abbrev wa_X8_grow : List Nat := [8, 10]
set_option maxHeartbeats 4000000 in
set_option maxRecDepth 100000 in
theorem c_X8_grow (l : Launch) (D : va_G) (cy : Nat → ClassId) (z : Nat → Nat) (sz : Nat) (Ps : PSI) (w0 : va_W) (hT : HT cy GG Ps w0) (p0 : Nat) (p1 : Int32) (h_p0 : (p0, 24) ∈ Ps) (r_p1 : RI p1 0 5) : Met l yX8_grow (Cond.code yX8_grow cX8_grow 3 none :: gT) ({ frames := 3, cells := 0, slots := 0, locals := 600 } : Room) (va_Pc [.ref p0, .int p1] (PRE D cy z w0 sz)) (va_Qv (fun (u : va_W) => (True) ∧ HT cy GG Ps u ∧ FR wr_X8_grow wa_X8_grow Ps w0 u) (BB D cy (va_A w0 sz) (fun (u : va_W) => u)) (va_A w0 sz)) 0 0 (va_A w0 sz) := by
  refine Met.ofW (cc := cX8_grow) (maxL := 3) (ret := none) (by decide) rfl ?_
  intro p e s m args below meth c s₁ B hml hv
  obtain ⟨rfl, hsz, hP, hK, hD0, hSD⟩ := hv
  have hx := B.exec
  have hb := B.bytes
  have hr := B.returns
  have hlocks := B.notSynchronized
  have hts : ∀ w ∈ gT, w.before _ s = true := fun w h => atoms_spec (ws := Cond.code yX8_grow cX8_grow 3 none :: gT) B.pre w (List.mem_cons_of_mem _ h)
  have hown : s.vm.findClass RX8 = some m.cls := findClass_of_methodNamed B.named
  subst hsz
  have hD := hD0.self (sz := s.heap.size)
  generalize hAe : va_A w0 s.heap.size = A at hD hSD ⊢
  have hA : ∀ q : Nat, s.heap.size ≤ q → A q := fun q h => by rw [← hAe]; exact Or.inr h
  have hl := lv_entry ([.ref p0, .int p1]) (n := 3) (Nat.le_of_ble_eq_true rfl)
  rw [lg_entry_eq]
  generalize (lg_sl ([.ref p0, .int p1]) ++ List.replicate (3 - (lg_sl ([.ref p0, .int p1])).length) Slot.unset).toArray = ls at hl ⊢
  have hl : lv_has ls 3 [(0, .ref p0), (1, .int p1)] := hl
  refine nameQ (fun Q hQ => ?_)
  have hw : WD D cy GG A s wr_X8_grow wa_X8_grow Ps w0 Ps w0 s.heap [] := ⟨hT, hP, hD, va_S.rf, FR.rf, hT.1, [], (List.append_nil _).symm⟩
  have B27 : ∀ (nf : Nat) (x2 : Int32) (ws : va_W) (H : Heap) (locs : List Loc) (ls : Array Slot), 6 - x2.toInt < (nf : Int) → RI p1 0 5 → RI x2 0 6 → WD D cy GG A s wr_X8_grow wa_X8_grow Ps w0 Ps ws H locs → lv_has ls 3 [(0, .ref p0), (1, .int p1), (2, .int x2)] → W p l e (headSpec (Cond.code yX8_grow cX8_grow 3 none :: gT) ({ frames := 3, cells := 0, slots := 0, locals := 600 } : Room)).room s m ([.ref p0, .int p1] : List Value).toArray below meth c H locs 0 0 Q (F0 m 27 ls []) := by
    intro nf27
    induction nf27 with
    | zero =>
      intro x2 ws H locs ls hn27 r_p1 r_x2 hw hl
      exact absurd hn27 (by have q0 := r_x2.1; have u0 := r_x2.2; omega)
    | succ nf27 ih27 =>
      intro x2 ws H locs ls hn27 r_p1 r_x2 hw hl
      refine lv_iload_n hx hb dX8_grow_27 rfl (lv_at hl 2 rfl) ?_
      refine lv_aload_n hx hb dX8_grow_28 rfl (lv_at hl 0 rfl) ?_
      refine tg_get (ci := 8) (ts := ty_WORLD) (C := RX8) (T := TX8) (N := 13) hx hb hts inX8 hown hK hw h_p0 rfl rfl 0 (by decide) (hts _ tw_247) (fun _ h9 => h9) (ft := vR 25) rfl dX8_grow_29 (fun u_1 hv_u_1 m_u_1 => ?_)
      obtain ⟨vu_1, rfl, h_vu_1⟩ := hv_u_1
      refine tg_getN (ci := 3) (ts := ty_POST) (C := RX3) (T := TX3) (N := 9) hx hb hts inX3 hown hK hw h_vu_1 rfl rfl 1 (by decide) (hSD.nest tn_203) (fun _ h9 => h9) (ft := vR 4) rfl dX8_grow_32 (fun u_2 hv_u_2 m_u_2 => ?_)
      obtain ⟨vu_2, rfl, h_vu_2⟩ := hv_u_2
      refine lv_iconst (v := 0) hx hb dX8_grow_35 (by decide) ?_
      refine tg_iald (lo := 0) (hi := 6) hx hb hK hw h_vu_2 rfl 0 0 rl_0 (by decide) (by decide +kernel) dX8_grow_36 (fun v_3 r_v_3 m_v_3 o_v_3 => ?_)
      refine lv_icmp_ge (tgt := 64) hx hb dX8_grow_37 (by decide) (fun c_37 => ?_) (fun c_37 => ?_)
      · refine lv_aload_n hx hb dX8_grow_64 rfl (lv_at hl 0 rfl) ?_
        refine tg_get (ci := 8) (ts := ty_WORLD) (C := RX8) (T := TX8) (N := 13) hx hb hts inX8 hown hK hw h_p0 rfl rfl 4 (by decide) (hts _ tw_257) (fun _ h9 => h9) (ft := vR 10) rfl dX8_grow_65 (fun u_4 hv_u_4 m_u_4 => ?_)
        obtain ⟨vu_4, rfl, h_vu_4⟩ := hv_u_4
        refine lv_iload_n hx hb dX8_grow_68 rfl (lv_at hl 1 rfl) ?_
        refine lv_dup2_11 hx hb dX8_grow_69 rfl rfl ?_
        refine tg_iald (lo := (-2147483648)) (hi := 2147483647) hx hb hK hw h_vu_4 rfl 0 5 r_p1 (by decide) (by exact fun _ _ _ => ⟨Int.le_refl _, Int.le_refl _⟩) dX8_grow_70 (fun v_5 r_v_5 m_v_5 o_v_5 => ?_)
        refine lv_aload_n hx hb dX8_grow_71 rfl (lv_at hl 0 rfl) ?_
        refine lv_iload_n hx hb dX8_grow_72 rfl (lv_at hl 1 rfl) ?_
        refine lv_iconst (v := 1) hx hb dX8_grow_73 (by decide) ?_
        refine tk_ir (va_runV (As := [.int p1, .int 1]) (rest := [.int v_5, .int p1, .ref vu_4]) ⟨hx, hb, hml, hown, hts⟩ (c_X8_bulgesMore l D cy z H.size Ps ws hw.1 p0 p1 1 h_p0 r_p1 (rl_1.to (by decide))) (cwV 2 hts (gV tw_701 tw_702 tw_703 tw_12 tw_704) rfl rfl rfl (by decide +kernel) ⟨Nat.le_of_ble_eq_true rfl, Nat.le_of_ble_eq_true rfl⟩) (tg_preV hw hK hSD hA (ci := 8) (q := (RX8, TX8, 13)) rfl h_p0 rfl) rfl rfl hl.1 rfl (lv_room (Nat.le_of_ble_eq_true rfl)) dX8_grow_74 ⟨Nat.le_of_ble_eq_true rfl, Nat.le_of_ble_eq_true rfl⟩) hw hA (fun v_6  H locs hp_v_6 hw => ?_)
        have r_v_6 : RI v_6 (-2147483648) 2147483647 := hp_v_6.1
        refine lv_iadd hx hb dX8_grow_77 (lv_topi (fun v_7 e_v_7 => ?_))
        have r_v_7 := ri_any v_7
        refine tg_iast hx hb hK hw h_vu_4 rfl 0 5 r_p1 (by decide) r_v_7 (by exact fun _ _ _ => by decide) (fun _ _ _ _ _ => trivial) (by decide) dX8_grow_78 (fun ws H locs hw hF9 hU9 => ?_)
        subst hQ
        exact W.vret hx hb hr (fun t ht hW => ⟨⟨ws, rfl, ⟨trivial, hw.1, hw.2.2.2.2.1⟩, by rw [ht]; exact hw.2.1, va_K.moved hW.alike hK, hw.2.2.1⟩, hw.2.2.2.1.F ht⟩) hw.2.2.2.1.2.2 dX8_grow_79
      · have r_x2 : RI x2 0 5 := rc_lt1 r_x2 r_v_3 (ti_nle c_37) (by decide)
        have r_v_3 : RI v_3 1 6 := rc_lt2 r_x2 r_v_3 (ti_nle c_37) (by decide)
        refine lv_aload_n hx hb dX8_grow_40 rfl (lv_at hl 0 rfl) ?_
        refine tg_get (ci := 8) (ts := ty_WORLD) (C := RX8) (T := TX8) (N := 13) hx hb hts inX8 hown hK hw h_p0 rfl rfl 2 (by decide) (hts _ tw_252) (fun _ h9 => h9) (ft := vR 8) rfl dX8_grow_41 (fun u_8 hv_u_8 m_u_8 => ?_)
        obtain ⟨vu_8, rfl, h_vu_8⟩ := hv_u_8
        refine lv_iload_n hx hb dX8_grow_44 rfl (lv_at hl 1 rfl) ?_
        refine lv_bipush (v := 6) hx hb dX8_grow_45 (by decide) ?_
        refine lv_imul hx hb dX8_grow_47 (lv_topi (fun v_9 e_v_9 => ?_))
        obtain ⟨t_v_9, r_v_9⟩ := tq_mul (lo := 0) (hi := 30) r_p1 rl_6 (by decide +kernel) e_v_9
        have t_v_9 : v_9.toInt = p1.toInt * 6 := t_v_9
        refine lv_iload_n hx hb dX8_grow_48 rfl (lv_at hl 2 rfl) ?_
        refine lv_iadd hx hb dX8_grow_49 (lv_topi (fun v_10 e_v_10 => ?_))
        obtain ⟨t_v_10, r_v_10⟩ := tq_add (lo := 0) (hi := 35) r_v_9 r_x2 (by decide +kernel) e_v_10
        refine lv_aload_n hx hb dX8_grow_50 rfl (lv_at hl 0 rfl) ?_
        refine lv_iload_n hx hb dX8_grow_51 rfl (lv_at hl 1 rfl) ?_
        refine lv_iload_n hx hb dX8_grow_52 rfl (lv_at hl 2 rfl) ?_
        refine lv_iconst (v := 1) hx hb dX8_grow_53 (by decide) ?_
        refine tk_ir (va_runV (As := [.int p1, .int x2, .int 1]) (rest := [.int v_10, .ref vu_8]) ⟨hx, hb, hml, hown, hts⟩ (c_X8_willHave l D cy z H.size Ps ws hw.1 p0 p1 x2 1 h_p0 r_p1 r_x2 (rl_1.to (by decide))) (cwV 3 hts (gV tw_577 tw_579 ts_11 tw_12 tw_580) rfl rfl rfl (by decide +kernel) ⟨Nat.le_of_ble_eq_true rfl, Nat.le_of_ble_eq_true rfl⟩) (tg_preV hw hK hSD hA (ci := 8) (q := (RX8, TX8, 13)) rfl h_p0 rfl) rfl rfl hl.1 rfl (lv_room (Nat.le_of_ble_eq_true rfl)) dX8_grow_54 ⟨Nat.le_of_ble_eq_true rfl, Nat.le_of_ble_eq_true rfl⟩) hw hA (fun v_11  H locs hp_v_11 hw => ?_)
        have r_v_11 : RI v_11 (-2147483648) 99 := hp_v_11.1
        refine tg_iast hx hb hK hw h_vu_8 rfl 0 35 r_v_10 (by decide) r_v_11 (by exact fun _ _ _ => by decide) (fun _ _ _ _ _ => trivial) (by decide) dX8_grow_57 (fun ws H locs hw hF9 hU9 => ?_)
        obtain ⟨v_12, e_v_12⟩ : ∃ q9 : Int32, q9 = x2 + Int32.ofInt 1 := ⟨_, rfl⟩
        obtain ⟨t_v_12, r_v_12⟩ := tq_add (lo := 1) (hi := 6) r_x2 (show RI (Int32.ofInt 1) 1 1 by unfold RI; decide +kernel) (by decide +kernel) e_v_12
        have t_v_12 : v_12.toInt = x2.toInt + 1 := t_v_12
        refine lv_iinc (v := v_12) (lv' := [(2, .int v_12), (0, .ref p0), (1, .int p1)]) hx hb dX8_grow_58 hl (k := 2) rfl e_v_12.symm (by decide) rfl (fun ls hl => ?_)
        refine lv_goto (tgt := 27) hx hb dX8_grow_61 (by decide) ?_
        exact ih27 v_12 ws _ _ ls (by have q0 := r_v_12.1; have u0 := r_v_12.2; have o0 := r_x2.1; have p0 := r_x2.2; omega) r_p1 (r_v_12.to (by decide)) hw (lv_sub hl [1, 2, 0] rfl)
  have B25 : ∀ (ws : va_W) (H : Heap) (locs : List Loc) (ls : Array Slot), RI p1 0 5 → WD D cy GG A s wr_X8_grow wa_X8_grow Ps w0 Ps ws H locs → lv_has ls 3 [(0, .ref p0), (1, .int p1)] → W p l e (headSpec (Cond.code yX8_grow cX8_grow 3 none :: gT) ({ frames := 3, cells := 0, slots := 0, locals := 600 } : Room)).room s m ([.ref p0, .int p1] : List Value).toArray below meth c H locs 0 0 Q (F0 m 25 ls []) := by
    intro  ws H locs ls r_p1 hw hl
    refine lv_iconst (v := 0) hx hb dX8_grow_25 (by decide) ?_
    refine lv_istore_n (lv' := [(2, .int 0), (0, .ref p0), (1, .int p1)]) hx hb dX8_grow_26 rfl hl (by decide) rfl (fun ls hl => ?_)
    exact B27 4294967298 0 ws _ _ ls (by have q0 := rl_0.1; have u0 := rl_0.2; omega) r_p1 (rl_0.to (by decide)) hw (lv_sub hl [1, 2, 0] rfl)
  refine lv_aload_n hx hb dX8_grow_0 rfl (lv_at hl 0 rfl) ?_
  refine lv_iload_n hx hb dX8_grow_1 rfl (lv_at hl 1 rfl) ?_
  refine lv_iconst (v := 1) hx hb dX8_grow_2 (by decide) ?_
  refine tk_ir (va_runV (As := [.int p1, .int 1]) (rest := []) ⟨hx, hb, hml, hown, hts⟩ (c_X8_becomes l D cy z s.heap.size Ps w0 hw.1 p0 p1 1 h_p0 r_p1 (rl_1.to (by decide))) (cwV 2 hts (gV tw_573 tw_574 tw_575 tw_12 tw_576) rfl rfl rfl (by decide +kernel) ⟨Nat.le_of_ble_eq_true rfl, Nat.le_of_ble_eq_true rfl⟩) (tg_preV hw hK hSD hA (ci := 8) (q := (RX8, TX8, 13)) rfl h_p0 rfl) rfl rfl hl.1 rfl (lv_room (Nat.le_of_ble_eq_true rfl)) dX8_grow_3 ⟨Nat.le_of_ble_eq_true rfl, Nat.le_of_ble_eq_true rfl⟩) hw hA (fun v_13  H locs hp_v_13 hw => ?_)
  have r_v_13 : RI v_13 (-1) 5 := hp_v_13.1
  refine lv_aload_n hx hb dX8_grow_6 rfl (lv_at hl 0 rfl) ?_
  refine lv_iload_n hx hb dX8_grow_7 rfl (lv_at hl 1 rfl) ?_
  refine lv_iconst (v := 0) hx hb dX8_grow_8 (by decide) ?_
  refine tk_ir (va_runV (As := [.int p1, .int 0]) (rest := [.int v_13]) ⟨hx, hb, hml, hown, hts⟩ (c_X8_becomes__1 l D cy z H.size Ps w0 hw.1 p0 p1 0 h_p0 r_p1 rl_0) (cwV 2 hts (gV tw_573 tw_574 tw_575 tw_12 tw_576) rfl rfl rfl (by decide +kernel) ⟨Nat.le_of_ble_eq_true rfl, Nat.le_of_ble_eq_true rfl⟩) (tg_preV hw hK hSD hA (ci := 8) (q := (RX8, TX8, 13)) rfl h_p0 rfl) rfl rfl hl.1 rfl (lv_room (Nat.le_of_ble_eq_true rfl)) dX8_grow_9 ⟨Nat.le_of_ble_eq_true rfl, Nat.le_of_ble_eq_true rfl⟩) hw hA (fun v_14  H locs hp_v_14 hw => ?_)
  have r_v_14 : RI v_14 (-1) 5 := hp_v_14.1
  by_cases c9_v_14 : v_14.toInt < 0
  · have r_v_14 : RI v_14 (-1) (-1) := by unfold RI at r_v_14 ⊢; omega
    have x_NBQ_p0_p1 := (hp_v_14.2.2.2.2.1 (by omega)).1
    refine lv_icmp_eq (tgt := 25) hx hb dX8_grow_12 (by decide) (fun c_12 => ?_) (fun c_12 => ?_)
    · have r_v_13 : RI v_13 (-1) (-1) := rc_eq1 r_v_13 r_v_14 (ti_eq c_12) (by decide)
      exact B25  w0 _ _ ls r_p1 hw hl
    · have r_v_13 : RI v_13 0 5 := rc_neL r_v_13 r_v_14 (ti_ne c_12) (by decide)
      refine lv_aload_n hx hb dX8_grow_15 rfl (lv_at hl 0 rfl) ?_
      refine tg_get (ci := 8) (ts := ty_WORLD) (C := RX8) (T := TX8) (N := 13) hx hb hts inX8 hown hK hw h_p0 rfl rfl 6 (by decide) (hts _ tw_262) (fun _ h9 => h9) (ft := vR 10) rfl dX8_grow_16 (fun u_15 hv_u_15 m_u_15 => ?_)
      obtain ⟨vu_15, rfl, h_vu_15⟩ := hv_u_15
      refine lv_iload_n hx hb dX8_grow_19 rfl (lv_at hl 1 rfl) ?_
      refine lv_dup2_11 hx hb dX8_grow_20 rfl rfl ?_
      refine tg_iald (lo := (-2147483648)) (hi := 2147483647) hx hb hK hw h_vu_15 rfl 0 5 r_p1 (by decide) (by exact fun _ _ _ => ⟨Int.le_refl _, Int.le_refl _⟩) dX8_grow_21 (fun v_16 r_v_16 m_v_16 o_v_16 => ?_)
      refine lv_iconst (v := 1) hx hb dX8_grow_22 (by decide) ?_
      refine lv_iadd hx hb dX8_grow_23 (lv_topi (fun v_17 e_v_17 => ?_))
      have r_v_17 := ri_any v_17
      refine tg_iast hx hb hK hw h_vu_15 rfl 0 5 r_p1 (by decide) r_v_17 (by exact fun _ _ _ => by decide) (fun _ _ _ _ _ => trivial) (by decide) dX8_grow_24 (fun ws H locs hw hF9 hU9 => ?_)
      have x_NBQ_p0_p1 := WX.over hF9 x_NBQ_p0_p1 (by decide)
      exact B25  ws _ _ ls r_p1 hw hl
  · have r_v_14 : RI v_14 0 5 := by unfold RI at r_v_14 ⊢; omega
    have x_WBQ_p0_p1 := (hp_v_14.2.2.2.2.2 (by omega)).1
    refine lv_icmp_eq (tgt := 25) hx hb dX8_grow_12 (by decide) (fun c_12 => ?_) (fun c_12 => ?_)
    · have r_v_13 : RI v_13 0 5 := rc_eq1 r_v_13 r_v_14 (ti_eq c_12) (by decide)
      exact B25  w0 _ _ ls r_p1 hw hl
    · refine lv_aload_n hx hb dX8_grow_15 rfl (lv_at hl 0 rfl) ?_
      refine tg_get (ci := 8) (ts := ty_WORLD) (C := RX8) (T := TX8) (N := 13) hx hb hts inX8 hown hK hw h_p0 rfl rfl 6 (by decide) (hts _ tw_262) (fun _ h9 => h9) (ft := vR 10) rfl dX8_grow_16 (fun u_18 hv_u_18 m_u_18 => ?_)
      obtain ⟨vu_18, rfl, h_vu_18⟩ := hv_u_18
      refine lv_iload_n hx hb dX8_grow_19 rfl (lv_at hl 1 rfl) ?_
      refine lv_dup2_11 hx hb dX8_grow_20 rfl rfl ?_
      refine tg_iald (lo := (-2147483648)) (hi := 2147483647) hx hb hK hw h_vu_18 rfl 0 5 r_p1 (by decide) (by exact fun _ _ _ => ⟨Int.le_refl _, Int.le_refl _⟩) dX8_grow_21 (fun v_19 r_v_19 m_v_19 o_v_19 => ?_)
      refine lv_iconst (v := 1) hx hb dX8_grow_22 (by decide) ?_
      refine lv_iadd hx hb dX8_grow_23 (lv_topi (fun v_20 e_v_20 => ?_))
      have r_v_20 := ri_any v_20
      refine tg_iast hx hb hK hw h_vu_18 rfl 0 5 r_p1 (by decide) r_v_20 (by exact fun _ _ _ => by decide) (fun _ _ _ _ _ => trivial) (by decide) dX8_grow_24 (fun ws H locs hw hF9 hU9 => ?_)
      have x_WBQ_p0_p1 := WX.over hF9 x_WBQ_p0_p1 (by decide)
      exact B25  ws _ _ ls r_p1 hw hl
abbrev wr_X8_goDay : List (Nat × Nat) := [(8, 1)]
abbrev wa_X8_goDay : List Nat := [8, 10, 14]
set_option maxHeartbeats 4000000 in
set_option maxRecDepth 100000 in
theorem c_X8_goDay (l : Launch) (D : va_G) (cy : Nat → ClassId) (z : Nat → Nat) (sz : Nat) (Ps : PSI) (w0 : va_W) (hT : HT cy GG Ps w0) (p0 : Nat) (h_p0 : (p0, 24) ∈ Ps) : Met l yX8_goDay (Cond.code yX8_goDay cX8_goDay 2 none :: gT) ({ frames := 4, cells := 0, slots := 0, locals := 800 } : Room) (va_Pc [.ref p0] (PRE D cy z w0 sz)) (va_Qv (fun (u : va_W) => (True) ∧ HT cy GG Ps u ∧ FR wr_X8_goDay wa_X8_goDay Ps w0 u) (BB D cy (va_A w0 sz) (fun (u : va_W) => u)) (va_A w0 sz)) 0 0 (va_A w0 sz) := by
  refine Met.ofW (cc := cX8_goDay) (maxL := 2) (ret := none) (by decide) rfl ?_
  intro p e s m args below meth c s₁ B hml hv
  obtain ⟨rfl, hsz, hP, hK, hD0, hSD⟩ := hv
  have hx := B.exec
  have hb := B.bytes
  have hr := B.returns
  have hlocks := B.notSynchronized
  have hts : ∀ w ∈ gT, w.before _ s = true := fun w h => atoms_spec (ws := Cond.code yX8_goDay cX8_goDay 2 none :: gT) B.pre w (List.mem_cons_of_mem _ h)
  have hown : s.vm.findClass RX8 = some m.cls := findClass_of_methodNamed B.named
  subst hsz
  have hD := hD0.self (sz := s.heap.size)
  generalize hAe : va_A w0 s.heap.size = A at hD hSD ⊢
  have hA : ∀ q : Nat, s.heap.size ≤ q → A q := fun q h => by rw [← hAe]; exact Or.inr h
  have hl := lv_entry ([.ref p0]) (n := 2) (Nat.le_of_ble_eq_true rfl)
  rw [lg_entry_eq]
  generalize (lg_sl ([.ref p0]) ++ List.replicate (2 - (lg_sl ([.ref p0])).length) Slot.unset).toArray = ls at hl ⊢
  have hl : lv_has ls 2 [(0, .ref p0)] := hl
  refine nameQ (fun Q hQ => ?_)
  have hw : WD D cy GG A s wr_X8_goDay wa_X8_goDay Ps w0 Ps w0 s.heap [] := ⟨hT, hP, hD, va_S.rf, FR.rf, hT.1, [], (List.append_nil _).symm⟩
  have B2 : ∀ (nf : Nat) (x1 : Int32) (ws : va_W) (H : Heap) (locs : List Loc) (ls : Array Slot), 6 - x1.toInt < (nf : Int) → RI x1 0 6 → WD D cy GG A s wr_X8_goDay wa_X8_goDay Ps w0 Ps ws H locs → lv_has ls 2 [(0, .ref p0), (1, .int x1)] → W p l e (headSpec (Cond.code yX8_goDay cX8_goDay 2 none :: gT) ({ frames := 4, cells := 0, slots := 0, locals := 800 } : Room)).room s m ([.ref p0] : List Value).toArray below meth c H locs 0 0 Q (F0 m 2 ls []) := by
    intro nf2
    induction nf2 with
    | zero =>
      intro x1 ws H locs ls hn2 r_x1 hw hl
      exact absurd hn2 (by have q0 := r_x1.1; have u0 := r_x1.2; omega)
    | succ nf2 ih2 =>
      intro x1 ws H locs ls hn2 r_x1 hw hl
      refine lv_iload_n hx hb dX8_goDay_2 rfl (lv_at hl 1 rfl) ?_
      refine lv_aload_n hx hb dX8_goDay_3 rfl (lv_at hl 0 rfl) ?_
      refine tg_get (ci := 8) (ts := ty_WORLD) (C := RX8) (T := TX8) (N := 13) hx hb hts inX8 hown hK hw h_p0 rfl rfl 0 (by decide) (hts _ tw_247) (fun _ h9 => h9) (ft := vR 25) rfl dX8_goDay_4 (fun u_1 hv_u_1 m_u_1 => ?_)
      obtain ⟨vu_1, rfl, h_vu_1⟩ := hv_u_1
      refine tg_getN (ci := 3) (ts := ty_POST) (C := RX3) (T := TX3) (N := 9) hx hb hts inX3 hown hK hw h_vu_1 rfl rfl 1 (by decide) (hSD.nest tn_203) (fun _ h9 => h9) (ft := vR 4) rfl dX8_goDay_7 (fun u_2 hv_u_2 m_u_2 => ?_)
      obtain ⟨vu_2, rfl, h_vu_2⟩ := hv_u_2
      refine lv_iconst (v := 2) hx hb dX8_goDay_10 (by decide) ?_
      refine tg_iald (lo := 0) (hi := 6) hx hb hK hw h_vu_2 rfl 2 2 rl_2 (by decide) (by decide +kernel) dX8_goDay_11 (fun v_3 r_v_3 m_v_3 o_v_3 => ?_)
      refine lv_icmp_ge (tgt := 34) hx hb dX8_goDay_12 (by decide) (fun c_12 => ?_) (fun c_12 => ?_)
      · refine lv_aload_n hx hb dX8_goDay_34 rfl (lv_at hl 0 rfl) ?_
        refine lv_dup hx hb dX8_goDay_35 rfl ?_
        refine tg_get (ci := 8) (ts := ty_WORLD) (C := RX8) (T := TX8) (N := 13) hx hb hts inX8 hown hK hw h_p0 rfl rfl 1 (by decide) (hts _ tw_250) (fun _ h9 => h9) (ft := vI (-2147483648) 2147483647) rfl dX8_goDay_36 (fun u_4 hv_u_4 m_u_4 => ?_)
        obtain ⟨vu_4, rfl, r_vu_4⟩ := hv_u_4
        refine lv_iconst (v := 1) hx hb dX8_goDay_39 (by decide) ?_
        refine lv_iadd hx hb dX8_goDay_40 (lv_topi (fun v_5 e_v_5 => ?_))
        have r_v_5 := ri_any v_5
        refine tg_put (ci := 8) (ts := ty_WORLD) (v := .int v_5) (ty := .int) (C := RX8) (T := TX8) (N := 13) hx hb hts inX8 tyX8 tyX8_ok nmX8 hown hK hw h_p0 rfl rfl 1 (by decide) (hts _ tw_250) (fun _ h9 => h9) rfl (by decide +kernel) rfl rfl (ft := vI (-2147483648) 2147483647) rfl ⟨_, rfl, r_v_5⟩ (by decide) dX8_goDay_41 (fun ws H locs hw n_k_6 hF9 => ?_)
        subst hQ
        exact W.vret hx hb hr (fun t ht hW => ⟨⟨ws, rfl, ⟨trivial, hw.1, hw.2.2.2.2.1⟩, by rw [ht]; exact hw.2.1, va_K.moved hW.alike hK, hw.2.2.1⟩, hw.2.2.2.1.F ht⟩) hw.2.2.2.1.2.2 dX8_goDay_44
      · have r_x1 : RI x1 0 5 := rc_lt1 r_x1 r_v_3 (ti_nle c_12) (by decide)
        have r_v_3 : RI v_3 1 6 := rc_lt2 r_x1 r_v_3 (ti_nle c_12) (by decide)
        refine lv_aload_n hx hb dX8_goDay_15 rfl (lv_at hl 0 rfl) ?_
        refine lv_iload_n hx hb dX8_goDay_16 rfl (lv_at hl 1 rfl) ?_
        refine tk_i (va_runV (As := [.int x1]) (rest := []) ⟨hx, hb, hml, hown, hts⟩ (c_X8_reckonGain l D cy z H.size Ps ws hw.1 p0 x1 h_p0 r_x1) (cwV 1 hts (gV tw_689 tw_690 tw_691 tw_12 tw_692) rfl rfl rfl (by decide +kernel) ⟨Nat.le_of_ble_eq_true rfl, Nat.le_of_ble_eq_true rfl⟩) (tg_preV hw hK hSD hA (ci := 8) (q := (RX8, TX8, 13)) rfl h_p0 rfl) rfl rfl hl.1 rfl (lv_room (Nat.le_of_ble_eq_true rfl)) dX8_goDay_17 ⟨Nat.le_of_ble_eq_true rfl, Nat.le_of_ble_eq_true rfl⟩) hw hA ⟨by decide, by decide⟩ (fun v_7 ws H locs hp_v_7 hw hF9 => ?_)
        have r_v_7 : RI v_7 0 1 := hp_v_7.1
        refine lv_if_eq (tgt := 28) hx hb dX8_goDay_20 (by decide) (fun c_20 => ?_) (fun c_20 => ?_)
        · have r_v_7 : RI v_7 0 0 := rc_eq1 r_v_7 rl_0 (ti_eq c_20) (by decide)
          obtain ⟨v_8, e_v_8⟩ : ∃ q9 : Int32, q9 = x1 + Int32.ofInt 1 := ⟨_, rfl⟩
          obtain ⟨t_v_8, r_v_8⟩ := tq_add (lo := 1) (hi := 6) r_x1 (show RI (Int32.ofInt 1) 1 1 by unfold RI; decide +kernel) (by decide +kernel) e_v_8
          have t_v_8 : v_8.toInt = x1.toInt + 1 := t_v_8
          refine lv_iinc (v := v_8) (lv' := [(1, .int v_8), (0, .ref p0)]) hx hb dX8_goDay_28 hl (k := 1) rfl e_v_8.symm (by decide) rfl (fun ls hl => ?_)
          refine lv_goto (tgt := 2) hx hb dX8_goDay_31 (by decide) ?_
          exact ih2 v_8 ws _ _ ls (by have q0 := r_v_8.1; have u0 := r_v_8.2; have o0 := r_x1.1; have p0 := r_x1.2; omega) (r_v_8.to (by decide)) hw (lv_sub hl [1, 0] rfl)
        · have r_v_7 : RI v_7 1 1 := rc_neL r_v_7 rl_0 (ti_ne c_20) (by decide)
          refine lv_aload_n hx hb dX8_goDay_23 rfl (lv_at hl 0 rfl) ?_
          refine lv_iload_n hx hb dX8_goDay_24 rfl (lv_at hl 1 rfl) ?_
          refine tk_v (va_runV (As := [.int x1]) (rest := []) ⟨hx, hb, hml, hown, hts⟩ (c_X8_grow l D cy z H.size Ps ws hw.1 p0 x1 h_p0 r_x1) (cwV 1 hts (gV tw_697 tw_699 ts_15 tw_12 tw_700) rfl rfl rfl (by decide +kernel) ⟨Nat.le_of_ble_eq_true rfl, Nat.le_of_ble_eq_true rfl⟩) (tg_preV hw hK hSD hA (ci := 8) (q := (RX8, TX8, 13)) rfl h_p0 rfl) rfl rfl hl.1 rfl (lv_room (Nat.le_of_ble_eq_true rfl)) dX8_goDay_25 ⟨Nat.le_of_ble_eq_true rfl, Nat.le_of_ble_eq_true rfl⟩) hw hA ⟨by decide, by decide⟩ (fun ws H locs hp_v_9 hw hF9 => ?_)
          obtain ⟨v_10, e_v_10⟩ : ∃ q9 : Int32, q9 = x1 + Int32.ofInt 1 := ⟨_, rfl⟩
          obtain ⟨t_v_10, r_v_10⟩ := tq_add (lo := 1) (hi := 6) r_x1 (show RI (Int32.ofInt 1) 1 1 by unfold RI; decide +kernel) (by decide +kernel) e_v_10
          have t_v_10 : v_10.toInt = x1.toInt + 1 := t_v_10
          refine lv_iinc (v := v_10) (lv' := [(1, .int v_10), (0, .ref p0)]) hx hb dX8_goDay_28 hl (k := 1) rfl e_v_10.symm (by decide) rfl (fun ls hl => ?_)
          refine lv_goto (tgt := 2) hx hb dX8_goDay_31 (by decide) ?_
          exact ih2 v_10 ws _ _ ls (by have q0 := r_v_10.1; have u0 := r_v_10.2; have o0 := r_x1.1; have p0 := r_x1.2; omega) (r_v_10.to (by decide)) hw (lv_sub hl [1, 0] rfl)
  refine lv_iconst (v := 0) hx hb dX8_goDay_0 (by decide) ?_
  refine lv_istore_n (lv' := [(1, .int 0), (0, .ref p0)]) hx hb dX8_goDay_1 rfl hl (by decide) rfl (fun ls hl => ?_)
  exact B2 4294967298 0 w0 _ _ ls (by have q0 := rl_0.1; have u0 := rl_0.2; omega) (rl_0.to (by decide)) hw (lv_sub hl [1, 0] rfl)
abbrev wr_X8_draw : List (Nat × Nat) := [(8, 12)]
abbrev wa_X8_draw : List Nat := []
set_option maxHeartbeats 4000000 in
set_option maxRecDepth 100000 in
theorem c_X8_draw (l : Launch) (D : va_G) (cy : Nat → ClassId) (z : Nat → Nat) (sz : Nat) (Ps : PSI) (w0 : va_W) (hT : HT cy GG Ps w0) (p0 : Nat) (p1 : Int32) (h_p0 : (p0, 24) ∈ Ps) (r_p1 : RI p1 1 6) : Met l yX8_draw (Cond.code yX8_draw cX8_draw 2 (some .int) :: gT) ({ frames := 0, cells := 0, slots := 0, locals := 200 } : Room) (va_Pc [.ref p0, .int p1] (PRE D cy z w0 sz)) (va_Qi (fun (r : Int32) (u : va_W) => (RI r 0 5 ∧ (r = 0 → True) ∧ (¬ r = 0 → True)) ∧ HT cy GG Ps u ∧ FR wr_X8_draw wa_X8_draw Ps w0 u) (BB D cy (va_A w0 sz) (fun (u : va_W) => u)) (va_A w0 sz)) 0 0 (va_A w0 sz) := by
  refine Met.ofW (cc := cX8_draw) (maxL := 2) (ret := (some .int)) (by decide) rfl ?_
  intro p e s m args below meth c s₁ B hml hv
  obtain ⟨rfl, hsz, hP, hK, hD0, hSD⟩ := hv
  have hx := B.exec
  have hb := B.bytes
  have hr := B.returns
  have hlocks := B.notSynchronized
  have hts : ∀ w ∈ gT, w.before _ s = true := fun w h => atoms_spec (ws := Cond.code yX8_draw cX8_draw 2 (some .int) :: gT) B.pre w (List.mem_cons_of_mem _ h)
  have hown : s.vm.findClass RX8 = some m.cls := findClass_of_methodNamed B.named
  subst hsz
  have hD := hD0.self (sz := s.heap.size)
  generalize hAe : va_A w0 s.heap.size = A at hD hSD ⊢
  have hA : ∀ q : Nat, s.heap.size ≤ q → A q := fun q h => by rw [← hAe]; exact Or.inr h
  have hl := lv_entry ([.ref p0, .int p1]) (n := 2) (Nat.le_of_ble_eq_true rfl)
  rw [lg_entry_eq]
  generalize (lg_sl ([.ref p0, .int p1]) ++ List.replicate (2 - (lg_sl ([.ref p0, .int p1])).length) Slot.unset).toArray = ls at hl ⊢
  have hl : lv_has ls 2 [(0, .ref p0), (1, .int p1)] := hl
  refine nameQ (fun Q hQ => ?_)
  have hw : WD D cy GG A s wr_X8_draw wa_X8_draw Ps w0 Ps w0 s.heap [] := ⟨hT, hP, hD, va_S.rf, FR.rf, hT.1, [], (List.append_nil _).symm⟩
  refine lv_aload_n hx hb dX8_draw_0 rfl (lv_at hl 0 rfl) ?_
  refine lv_aload_n hx hb dX8_draw_1 rfl (lv_at hl 0 rfl) ?_
  refine tg_get (ci := 8) (ts := ty_WORLD) (C := RX8) (T := TX8) (N := 13) hx hb hts inX8 hown hK hw h_p0 rfl rfl 12 (by decide) (hts _ tw_276) (fun _ h9 => h9) (ft := vI (-2147483648) 2147483647) rfl dX8_draw_2 (fun u_1 hv_u_1 m_u_1 => ?_)
  obtain ⟨vu_1, rfl, r_vu_1⟩ := hv_u_1
  refine lv_ldc (v := 1103515245) hx hb hown (hts _ tw_874) dX8_draw_5 ?_
  refine lv_imul hx hb dX8_draw_7 (lv_topi (fun v_2 e_v_2 => ?_))
  have r_v_2 := ri_any v_2
  refine lv_sipush (v := 12345) hx hb dX8_draw_8 (by decide) ?_
  refine lv_iadd hx hb dX8_draw_11 (lv_topi (fun v_3 e_v_3 => ?_))
  have r_v_3 := ri_any v_3
  refine tg_put (ci := 8) (ts := ty_WORLD) (v := .int v_3) (ty := .int) (C := RX8) (T := TX8) (N := 13) hx hb hts inX8 tyX8 tyX8_ok nmX8 hown hK hw h_p0 rfl rfl 12 (by decide) (hts _ tw_276) (fun _ h9 => h9) rfl (by decide +kernel) rfl rfl (ft := vI (-2147483648) 2147483647) rfl ⟨_, rfl, r_v_3⟩ (by decide) dX8_draw_12 (fun ws H locs hw n_k_4 hF9 => ?_)
  refine lv_iload_n hx hb dX8_draw_15 rfl (lv_at hl 1 rfl) ?_
  refine lv_if_le (tgt := 31) hx hb dX8_draw_16 (by decide) (fun c_16 => ?_) (fun c_16 => ?_)
  · have r_p1 : RI p1 1 0 := rc_le1 r_p1 rl_0 (ti_le c_16) (by decide)
    exact (r_p1.no (by decide)).elim
  · refine lv_aload_n hx hb dX8_draw_19 rfl (lv_at hl 0 rfl) ?_
    refine tg_mem (ci := 8) (C := RX8) (T := TX8) (N := 13) hx hb hts inX8 hown hK hw 12 n_k_4 rfl (by decide) (hts _ tw_276) (fun _ h9 => h9) dX8_draw_20 ?_
    refine lv_bipush (v := 8) hx hb dX8_draw_23 (by decide) ?_
    obtain ⟨v_5, e_v_5⟩ : ∃ q9 : Int32, (Int32.toUInt32 v_3 >>> (Int32.toUInt32 8 &&& Int32.toUInt32 31)).toInt32 = q9 := ⟨_, rfl⟩
    refine lv_iushr (v := v_5) hx hb dX8_draw_25 e_v_5 ?_
    have r_v_5 : RI v_5 0 16777215 := by rw [← e_v_5]; exact ri_ushr8 _
    refine lv_iload_n hx hb dX8_draw_26 rfl (lv_at hl 1 rfl) ?_
    refine lv_irem hx hb dX8_draw_27 (ri_ne0 r_p1 (by decide)) (lv_topi (fun v_6 e_v_6 => ?_))
    have r_v_6 : RI v_6 0 5 := by rw [e_v_6]; exact ri_rem (b := 16777215) (r_v_5.to (by decide)) r_p1 (by decide)
    refine lv_goto (tgt := 32) hx hb dX8_draw_28 (by decide) ?_
    subst hQ
    exact W.iret (v := v_6) hx hb hr (fun t ht hW => ⟨⟨v_6, ws, rfl, ⟨⟨r_v_6.to (by decide), (fun h0 => trivial), (fun h0 => trivial)⟩, hw.1, hw.2.2.2.2.1⟩, by rw [ht]; exact hw.2.1, va_K.moved hW.alike hK, hw.2.2.1⟩, hw.2.2.2.1.F ht⟩) hw.2.2.2.1.2.2 dX8_draw_32
abbrev wr_X8_wishFor : List (Nat × Nat) := []
abbrev wa_X8_wishFor : List Nat := [11]
set_option maxHeartbeats 4000000 in
set_option maxRecDepth 100000 in
theorem c_X8_wishFor (l : Launch) (D : va_G) (cy : Nat → ClassId) (z : Nat → Nat) (sz : Nat) (Ps : PSI) (w0 : va_W) (hT : HT cy GG Ps w0) (p0 : Nat) (p1 : Int32) (p2 : Int32) (h_p0 : (p0, 24) ∈ Ps) (r_p1 : RI p1 0 7) (r_p2 : RI p2 0 5) : Met l yX8_wishFor (Cond.code yX8_wishFor cX8_wishFor 3 (some .int) :: gT) ({ frames := 0, cells := 0, slots := 0, locals := 200 } : Room) (va_Pc [.ref p0, .int p1, .int p2] (PRE D cy z w0 sz)) (va_Qi (fun (r : Int32) (u : va_W) => (RI r 0 1 ∧ (r = 0 → True) ∧ (¬ r = 0 → True)) ∧ HT cy GG Ps u ∧ FR wr_X8_wishFor wa_X8_wishFor Ps w0 u) (BB D cy (va_A w0 sz) (fun (u : va_W) => u)) (va_A w0 sz)) 0 0 (va_A w0 sz) := by
  refine Met.ofW (cc := cX8_wishFor) (maxL := 3) (ret := (some .int)) (by decide) rfl ?_
  intro p e s m args below meth c s₁ B hml hv
  obtain ⟨rfl, hsz, hP, hK, hD0, hSD⟩ := hv
  have hx := B.exec
  have hb := B.bytes
  have hr := B.returns
  have hlocks := B.notSynchronized
  have hts : ∀ w ∈ gT, w.before _ s = true := fun w h => atoms_spec (ws := Cond.code yX8_wishFor cX8_wishFor 3 (some .int) :: gT) B.pre w (List.mem_cons_of_mem _ h)
  have hown : s.vm.findClass RX8 = some m.cls := findClass_of_methodNamed B.named
  subst hsz
  have hD := hD0.self (sz := s.heap.size)
  generalize hAe : va_A w0 s.heap.size = A at hD hSD ⊢
  have hA : ∀ q : Nat, s.heap.size ≤ q → A q := fun q h => by rw [← hAe]; exact Or.inr h
  have hl := lv_entry ([.ref p0, .int p1, .int p2]) (n := 3) (Nat.le_of_ble_eq_true rfl)
  rw [lg_entry_eq]
  generalize (lg_sl ([.ref p0, .int p1, .int p2]) ++ List.replicate (3 - (lg_sl ([.ref p0, .int p1, .int p2])).length) Slot.unset).toArray = ls at hl ⊢
  have hl : lv_has ls 3 [(0, .ref p0), (1, .int p1), (2, .int p2)] := hl
  refine nameQ (fun Q hQ => ?_)
  have hw : WD D cy GG A s wr_X8_wishFor wa_X8_wishFor Ps w0 Ps w0 s.heap [] := ⟨hT, hP, hD, va_S.rf, FR.rf, hT.1, [], (List.append_nil _).symm⟩
  refine lv_aload_n hx hb dX8_wishFor_0 rfl (lv_at hl 0 rfl) ?_
  refine tg_get (ci := 8) (ts := ty_WORLD) (C := RX8) (T := TX8) (N := 13) hx hb hts inX8 hown hK hw h_p0 rfl rfl 7 (by decide) (hts _ tw_265) (fun _ h9 => h9) (ft := vR 11) rfl dX8_wishFor_1 (fun u_1 hv_u_1 m_u_1 => ?_)
  obtain ⟨vu_1, rfl, h_vu_1⟩ := hv_u_1
  refine lv_iload_n hx hb dX8_wishFor_4 rfl (lv_at hl 1 rfl) ?_
  refine tg_iald (lo := 0) (hi := 5) hx hb hK hw h_vu_1 rfl 0 7 r_p1 (by decide) (by exact fun _ _ _ => ⟨Int.le_refl _, Int.le_refl _⟩) dX8_wishFor_5 (fun v_2 r_v_2 m_v_2 o_v_2 => ?_)
  refine lv_iload_n hx hb dX8_wishFor_6 rfl (lv_at hl 2 rfl) ?_
  refine lv_icmp_ne (tgt := 12) hx hb dX8_wishFor_7 (by decide) (fun c_7 => ?_) (fun c_7 => ?_)
  · refine lv_aload_n hx hb dX8_wishFor_12 rfl (lv_at hl 0 rfl) ?_
    refine tg_mem (ci := 8) (C := RX8) (T := TX8) (N := 13) hx hb hts inX8 hown hK hw 7 m_u_1 rfl (by decide) (hts _ tw_265) (fun _ h9 => h9) dX8_wishFor_13 ?_
    refine lv_iload_n hx hb dX8_wishFor_16 rfl (lv_at hl 1 rfl) ?_
    refine lv_iload_n hx hb dX8_wishFor_17 rfl (lv_at hl 2 rfl) ?_
    refine tg_iast hx hb hK hw h_vu_1 rfl 0 7 r_p1 (by decide) r_p2 (by exact fun _ _ _ => by decide) (fun _ _ _ _ _ => trivial) (by decide) dX8_wishFor_18 (fun ws H locs hw hF9 hU9 => ?_)
    refine lv_iconst (v := 0) hx hb dX8_wishFor_19 (by decide) ?_
    subst hQ
    exact W.iret (v := 0) hx hb hr (fun t ht hW => ⟨⟨0, ws, rfl, ⟨⟨rl_0.to (by decide), (fun h0 => trivial), (fun _ => trivial)⟩, hw.1, hw.2.2.2.2.1⟩, by rw [ht]; exact hw.2.1, va_K.moved hW.alike hK, hw.2.2.1⟩, hw.2.2.2.1.F ht⟩) hw.2.2.2.1.2.2 dX8_wishFor_20
  · refine lv_iconst (v := 1) hx hb dX8_wishFor_10 (by decide) ?_
    subst hQ
    exact W.iret (v := 1) hx hb hr (fun t ht hW => ⟨⟨1, w0, rfl, ⟨⟨rl_1.to (by decide), (fun _ => trivial), (fun h0 => trivial)⟩, hw.1, hw.2.2.2.2.1⟩, by rw [ht]; exact hw.2.1, va_K.moved hW.alike hK, hw.2.2.1⟩, hw.2.2.2.1.F ht⟩) hw.2.2.2.1.2.2 dX8_wishFor_11
abbrev wr_X8_draw__1 : List (Nat × Nat) := [(8, 12)]
abbrev wa_X8_draw__1 : List Nat := []
set_option maxHeartbeats 4000000 in
set_option maxRecDepth 100000 in
theorem c_X8_draw__1 (l : Launch) (D : va_G) (cy : Nat → ClassId) (z : Nat → Nat) (sz : Nat) (Ps : PSI) (w0 : va_W) (hT : HT cy GG Ps w0) (p0 : Nat) (p1 : Int32) (h_p0 : (p0, 24) ∈ Ps) (r_p1 : RI p1 8 8) : Met l yX8_draw (Cond.code yX8_draw cX8_draw 2 (some .int) :: gT) ({ frames := 0, cells := 0, slots := 0, locals := 200 } : Room) (va_Pc [.ref p0, .int p1] (PRE D cy z w0 sz)) (va_Qi (fun (r : Int32) (u : va_W) => (RI r 0 7 ∧ (r = 0 → True) ∧ (¬ r = 0 → True)) ∧ HT cy GG Ps u ∧ FR wr_X8_draw__1 wa_X8_draw__1 Ps w0 u) (BB D cy (va_A w0 sz) (fun (u : va_W) => u)) (va_A w0 sz)) 0 0 (va_A w0 sz) := by
  refine Met.ofW (cc := cX8_draw) (maxL := 2) (ret := (some .int)) (by decide) rfl ?_
  intro p e s m args below meth c s₁ B hml hv
  obtain ⟨rfl, hsz, hP, hK, hD0, hSD⟩ := hv
  have hx := B.exec
  have hb := B.bytes
  have hr := B.returns
  have hlocks := B.notSynchronized
  have hts : ∀ w ∈ gT, w.before _ s = true := fun w h => atoms_spec (ws := Cond.code yX8_draw cX8_draw 2 (some .int) :: gT) B.pre w (List.mem_cons_of_mem _ h)
  have hown : s.vm.findClass RX8 = some m.cls := findClass_of_methodNamed B.named
  subst hsz
  have hD := hD0.self (sz := s.heap.size)
  generalize hAe : va_A w0 s.heap.size = A at hD hSD ⊢
  have hA : ∀ q : Nat, s.heap.size ≤ q → A q := fun q h => by rw [← hAe]; exact Or.inr h
  have hl := lv_entry ([.ref p0, .int p1]) (n := 2) (Nat.le_of_ble_eq_true rfl)
  rw [lg_entry_eq]
  generalize (lg_sl ([.ref p0, .int p1]) ++ List.replicate (2 - (lg_sl ([.ref p0, .int p1])).length) Slot.unset).toArray = ls at hl ⊢
  have hl : lv_has ls 2 [(0, .ref p0), (1, .int p1)] := hl
  refine nameQ (fun Q hQ => ?_)
  have hw : WD D cy GG A s wr_X8_draw__1 wa_X8_draw__1 Ps w0 Ps w0 s.heap [] := ⟨hT, hP, hD, va_S.rf, FR.rf, hT.1, [], (List.append_nil _).symm⟩
  refine lv_aload_n hx hb dX8_draw_0 rfl (lv_at hl 0 rfl) ?_
  refine lv_aload_n hx hb dX8_draw_1 rfl (lv_at hl 0 rfl) ?_
  refine tg_get (ci := 8) (ts := ty_WORLD) (C := RX8) (T := TX8) (N := 13) hx hb hts inX8 hown hK hw h_p0 rfl rfl 12 (by decide) (hts _ tw_276) (fun _ h9 => h9) (ft := vI (-2147483648) 2147483647) rfl dX8_draw_2 (fun u_1 hv_u_1 m_u_1 => ?_)
  obtain ⟨vu_1, rfl, r_vu_1⟩ := hv_u_1
  refine lv_ldc (v := 1103515245) hx hb hown (hts _ tw_874) dX8_draw_5 ?_
  refine lv_imul hx hb dX8_draw_7 (lv_topi (fun v_2 e_v_2 => ?_))
  have r_v_2 := ri_any v_2
  refine lv_sipush (v := 12345) hx hb dX8_draw_8 (by decide) ?_
  refine lv_iadd hx hb dX8_draw_11 (lv_topi (fun v_3 e_v_3 => ?_))
  have r_v_3 := ri_any v_3
  refine tg_put (ci := 8) (ts := ty_WORLD) (v := .int v_3) (ty := .int) (C := RX8) (T := TX8) (N := 13) hx hb hts inX8 tyX8 tyX8_ok nmX8 hown hK hw h_p0 rfl rfl 12 (by decide) (hts _ tw_276) (fun _ h9 => h9) rfl (by decide +kernel) rfl rfl (ft := vI (-2147483648) 2147483647) rfl ⟨_, rfl, r_v_3⟩ (by decide) dX8_draw_12 (fun ws H locs hw n_k_4 hF9 => ?_)
  refine lv_iload_n hx hb dX8_draw_15 rfl (lv_at hl 1 rfl) ?_
  refine lv_if_le (tgt := 31) hx hb dX8_draw_16 (by decide) (fun c_16 => ?_) (fun c_16 => ?_)
  · have r_p1 : RI p1 8 0 := rc_le1 r_p1 rl_0 (ti_le c_16) (by decide)
    exact (r_p1.no (by decide)).elim
  · refine lv_aload_n hx hb dX8_draw_19 rfl (lv_at hl 0 rfl) ?_
    refine tg_mem (ci := 8) (C := RX8) (T := TX8) (N := 13) hx hb hts inX8 hown hK hw 12 n_k_4 rfl (by decide) (hts _ tw_276) (fun _ h9 => h9) dX8_draw_20 ?_
    refine lv_bipush (v := 8) hx hb dX8_draw_23 (by decide) ?_
    obtain ⟨v_5, e_v_5⟩ : ∃ q9 : Int32, (Int32.toUInt32 v_3 >>> (Int32.toUInt32 8 &&& Int32.toUInt32 31)).toInt32 = q9 := ⟨_, rfl⟩
    refine lv_iushr (v := v_5) hx hb dX8_draw_25 e_v_5 ?_
    have r_v_5 : RI v_5 0 16777215 := by rw [← e_v_5]; exact ri_ushr8 _
    refine lv_iload_n hx hb dX8_draw_26 rfl (lv_at hl 1 rfl) ?_
    refine lv_irem hx hb dX8_draw_27 (ri_ne0 r_p1 (by decide)) (lv_topi (fun v_6 e_v_6 => ?_))
    have r_v_6 : RI v_6 0 7 := by rw [e_v_6]; exact ri_rem (b := 16777215) (r_v_5.to (by decide)) r_p1 (by decide)
    refine lv_goto (tgt := 32) hx hb dX8_draw_28 (by decide) ?_
    subst hQ
    exact W.iret (v := v_6) hx hb hr (fun t ht hW => ⟨⟨v_6, ws, rfl, ⟨⟨r_v_6.to (by decide), (fun h0 => trivial), (fun h0 => trivial)⟩, hw.1, hw.2.2.2.2.1⟩, by rw [ht]; exact hw.2.1, va_K.moved hW.alike hK, hw.2.2.1⟩, hw.2.2.2.1.F ht⟩) hw.2.2.2.1.2.2 dX8_draw_32
abbrev wr_X8_sitDown : List (Nat × Nat) := []
abbrev wa_X8_sitDown : List Nat := [12]
set_option maxHeartbeats 4000000 in
set_option maxRecDepth 100000 in
theorem c_X8_sitDown (l : Launch) (D : va_G) (cy : Nat → ClassId) (z : Nat → Nat) (sz : Nat) (Ps : PSI) (w0 : va_W) (hT : HT cy GG Ps w0) (p0 : Nat) (p1 : Int32) (p2 : Int32) (h_p0 : (p0, 24) ∈ Ps) (r_p1 : RI p1 0 7) (r_p2 : RI p2 (-1) 5) : Met l yX8_sitDown (Cond.code yX8_sitDown cX8_sitDown 3 (some .int) :: gT) ({ frames := 0, cells := 0, slots := 0, locals := 200 } : Room) (va_Pc [.ref p0, .int p1, .int p2] (PRE D cy z w0 sz)) (va_Qi (fun (r : Int32) (u : va_W) => (RI r 0 1 ∧ (r = 0 → True) ∧ (¬ r = 0 → True)) ∧ HT cy GG Ps u ∧ FR wr_X8_sitDown wa_X8_sitDown Ps w0 u) (BB D cy (va_A w0 sz) (fun (u : va_W) => u)) (va_A w0 sz)) 0 0 (va_A w0 sz) := by
  refine Met.ofW (cc := cX8_sitDown) (maxL := 3) (ret := (some .int)) (by decide) rfl ?_
  intro p e s m args below meth c s₁ B hml hv
  obtain ⟨rfl, hsz, hP, hK, hD0, hSD⟩ := hv
  have hx := B.exec
  have hb := B.bytes
  have hr := B.returns
  have hlocks := B.notSynchronized
  have hts : ∀ w ∈ gT, w.before _ s = true := fun w h => atoms_spec (ws := Cond.code yX8_sitDown cX8_sitDown 3 (some .int) :: gT) B.pre w (List.mem_cons_of_mem _ h)
  have hown : s.vm.findClass RX8 = some m.cls := findClass_of_methodNamed B.named
  subst hsz
  have hD := hD0.self (sz := s.heap.size)
  generalize hAe : va_A w0 s.heap.size = A at hD hSD ⊢
  have hA : ∀ q : Nat, s.heap.size ≤ q → A q := fun q h => by rw [← hAe]; exact Or.inr h
  have hl := lv_entry ([.ref p0, .int p1, .int p2]) (n := 3) (Nat.le_of_ble_eq_true rfl)
  rw [lg_entry_eq]
  generalize (lg_sl ([.ref p0, .int p1, .int p2]) ++ List.replicate (3 - (lg_sl ([.ref p0, .int p1, .int p2])).length) Slot.unset).toArray = ls at hl ⊢
  have hl : lv_has ls 3 [(0, .ref p0), (1, .int p1), (2, .int p2)] := hl
  refine nameQ (fun Q hQ => ?_)
  have hw : WD D cy GG A s wr_X8_sitDown wa_X8_sitDown Ps w0 Ps w0 s.heap [] := ⟨hT, hP, hD, va_S.rf, FR.rf, hT.1, [], (List.append_nil _).symm⟩
  refine lv_aload_n hx hb dX8_sitDown_0 rfl (lv_at hl 0 rfl) ?_
  refine tg_get (ci := 8) (ts := ty_WORLD) (C := RX8) (T := TX8) (N := 13) hx hb hts inX8 hown hK hw h_p0 rfl rfl 8 (by decide) (hts _ tw_268) (fun _ h9 => h9) (ft := vR 12) rfl dX8_sitDown_1 (fun u_1 hv_u_1 m_u_1 => ?_)
  obtain ⟨vu_1, rfl, h_vu_1⟩ := hv_u_1
  refine lv_iload_n hx hb dX8_sitDown_4 rfl (lv_at hl 1 rfl) ?_
  refine tg_iald (lo := (-1)) (hi := 5) hx hb hK hw h_vu_1 rfl 0 7 r_p1 (by decide) (by exact fun _ _ _ => ⟨Int.le_refl _, Int.le_refl _⟩) dX8_sitDown_5 (fun v_2 r_v_2 m_v_2 o_v_2 => ?_)
  refine lv_iload_n hx hb dX8_sitDown_6 rfl (lv_at hl 2 rfl) ?_
  refine lv_icmp_ne (tgt := 12) hx hb dX8_sitDown_7 (by decide) (fun c_7 => ?_) (fun c_7 => ?_)
  · refine lv_aload_n hx hb dX8_sitDown_12 rfl (lv_at hl 0 rfl) ?_
    refine tg_mem (ci := 8) (C := RX8) (T := TX8) (N := 13) hx hb hts inX8 hown hK hw 8 m_u_1 rfl (by decide) (hts _ tw_268) (fun _ h9 => h9) dX8_sitDown_13 ?_
    refine lv_iload_n hx hb dX8_sitDown_16 rfl (lv_at hl 1 rfl) ?_
    refine lv_iload_n hx hb dX8_sitDown_17 rfl (lv_at hl 2 rfl) ?_
    refine tg_iast hx hb hK hw h_vu_1 rfl 0 7 r_p1 (by decide) r_p2 (by exact fun _ _ _ => by decide) (fun _ _ _ _ _ => trivial) (by decide) dX8_sitDown_18 (fun ws H locs hw hF9 hU9 => ?_)
    refine lv_iconst (v := 0) hx hb dX8_sitDown_19 (by decide) ?_
    subst hQ
    exact W.iret (v := 0) hx hb hr (fun t ht hW => ⟨⟨0, ws, rfl, ⟨⟨rl_0.to (by decide), (fun h0 => trivial), (fun _ => trivial)⟩, hw.1, hw.2.2.2.2.1⟩, by rw [ht]; exact hw.2.1, va_K.moved hW.alike hK, hw.2.2.1⟩, hw.2.2.2.1.F ht⟩) hw.2.2.2.1.2.2 dX8_sitDown_20
  · refine lv_iconst (v := 1) hx hb dX8_sitDown_10 (by decide) ?_
    subst hQ
    exact W.iret (v := 1) hx hb hr (fun t ht hW => ⟨⟨1, w0, rfl, ⟨⟨rl_1.to (by decide), (fun _ => trivial), (fun h0 => trivial)⟩, hw.1, hw.2.2.2.2.1⟩, by rw [ht]; exact hw.2.1, va_K.moved hW.alike hK, hw.2.2.1⟩, hw.2.2.2.1.F ht⟩) hw.2.2.2.1.2.2 dX8_sitDown_11
abbrev wr_X8_standUp : List (Nat × Nat) := []
abbrev wa_X8_standUp : List Nat := [12]
set_option maxHeartbeats 4000000 in
set_option maxRecDepth 100000 in
theorem c_X8_standUp (l : Launch) (D : va_G) (cy : Nat → ClassId) (z : Nat → Nat) (sz : Nat) (Ps : PSI) (w0 : va_W) (hT : HT cy GG Ps w0) (p0 : Nat) (p1 : Int32) (h_p0 : (p0, 24) ∈ Ps) (r_p1 : RI p1 0 7) : Met l yX8_standUp (Cond.code yX8_standUp cX8_standUp 2 (some .int) :: gT) ({ frames := 0, cells := 0, slots := 0, locals := 200 } : Room) (va_Pc [.ref p0, .int p1] (PRE D cy z w0 sz)) (va_Qi (fun (r : Int32) (u : va_W) => (RI r 0 1 ∧ (r = 0 → True) ∧ (¬ r = 0 → True)) ∧ HT cy GG Ps u ∧ FR wr_X8_standUp wa_X8_standUp Ps w0 u) (BB D cy (va_A w0 sz) (fun (u : va_W) => u)) (va_A w0 sz)) 0 0 (va_A w0 sz) := by
  refine Met.ofW (cc := cX8_standUp) (maxL := 2) (ret := (some .int)) (by decide) rfl ?_
  intro p e s m args below meth c s₁ B hml hv
  obtain ⟨rfl, hsz, hP, hK, hD0, hSD⟩ := hv
  have hx := B.exec
  have hb := B.bytes
  have hr := B.returns
  have hlocks := B.notSynchronized
  have hts : ∀ w ∈ gT, w.before _ s = true := fun w h => atoms_spec (ws := Cond.code yX8_standUp cX8_standUp 2 (some .int) :: gT) B.pre w (List.mem_cons_of_mem _ h)
  have hown : s.vm.findClass RX8 = some m.cls := findClass_of_methodNamed B.named
  subst hsz
  have hD := hD0.self (sz := s.heap.size)
  generalize hAe : va_A w0 s.heap.size = A at hD hSD ⊢
  have hA : ∀ q : Nat, s.heap.size ≤ q → A q := fun q h => by rw [← hAe]; exact Or.inr h
  have hl := lv_entry ([.ref p0, .int p1]) (n := 2) (Nat.le_of_ble_eq_true rfl)
  rw [lg_entry_eq]
  generalize (lg_sl ([.ref p0, .int p1]) ++ List.replicate (2 - (lg_sl ([.ref p0, .int p1])).length) Slot.unset).toArray = ls at hl ⊢
  have hl : lv_has ls 2 [(0, .ref p0), (1, .int p1)] := hl
  refine nameQ (fun Q hQ => ?_)
  have hw : WD D cy GG A s wr_X8_standUp wa_X8_standUp Ps w0 Ps w0 s.heap [] := ⟨hT, hP, hD, va_S.rf, FR.rf, hT.1, [], (List.append_nil _).symm⟩
  refine lv_aload_n hx hb dX8_standUp_0 rfl (lv_at hl 0 rfl) ?_
  refine tg_get (ci := 8) (ts := ty_WORLD) (C := RX8) (T := TX8) (N := 13) hx hb hts inX8 hown hK hw h_p0 rfl rfl 8 (by decide) (hts _ tw_268) (fun _ h9 => h9) (ft := vR 12) rfl dX8_standUp_1 (fun u_1 hv_u_1 m_u_1 => ?_)
  obtain ⟨vu_1, rfl, h_vu_1⟩ := hv_u_1
  refine lv_iload_n hx hb dX8_standUp_4 rfl (lv_at hl 1 rfl) ?_
  refine tg_iald (lo := (-1)) (hi := 5) hx hb hK hw h_vu_1 rfl 0 7 r_p1 (by decide) (by exact fun _ _ _ => ⟨Int.le_refl _, Int.le_refl _⟩) dX8_standUp_5 (fun v_2 r_v_2 m_v_2 o_v_2 => ?_)
  refine lv_iconst (v := (-1)) hx hb dX8_standUp_6 (by decide) ?_
  refine lv_icmp_ne (tgt := 12) hx hb dX8_standUp_7 (by decide) (fun c_7 => ?_) (fun c_7 => ?_)
  · have r_v_2 : RI v_2 0 5 := rc_neL r_v_2 rl_m1 (ti_ne c_7) (by decide)
    refine lv_aload_n hx hb dX8_standUp_12 rfl (lv_at hl 0 rfl) ?_
    refine tg_mem (ci := 8) (C := RX8) (T := TX8) (N := 13) hx hb hts inX8 hown hK hw 8 m_u_1 rfl (by decide) (hts _ tw_268) (fun _ h9 => h9) dX8_standUp_13 ?_
    refine lv_iload_n hx hb dX8_standUp_16 rfl (lv_at hl 1 rfl) ?_
    refine lv_iconst (v := (-1)) hx hb dX8_standUp_17 (by decide) ?_
    refine tg_iast hx hb hK hw h_vu_1 rfl 0 7 r_p1 (by decide) rl_m1 (by exact fun _ _ _ => by decide) (fun _ _ _ _ _ => trivial) (by decide) dX8_standUp_18 (fun ws H locs hw hF9 hU9 => ?_)
    refine lv_iconst (v := 0) hx hb dX8_standUp_19 (by decide) ?_
    subst hQ
    exact W.iret (v := 0) hx hb hr (fun t ht hW => ⟨⟨0, ws, rfl, ⟨⟨rl_0.to (by decide), (fun h0 => trivial), (fun _ => trivial)⟩, hw.1, hw.2.2.2.2.1⟩, by rw [ht]; exact hw.2.1, va_K.moved hW.alike hK, hw.2.2.1⟩, hw.2.2.2.1.F ht⟩) hw.2.2.2.1.2.2 dX8_standUp_20
  · have r_v_2 : RI v_2 (-1) (-1) := rc_eq1 r_v_2 rl_m1 (ti_eq c_7) (by decide)
    refine lv_iconst (v := 1) hx hb dX8_standUp_10 (by decide) ?_
    subst hQ
    exact W.iret (v := 1) hx hb hr (fun t ht hW => ⟨⟨1, w0, rfl, ⟨⟨rl_1.to (by decide), (fun _ => trivial), (fun h0 => trivial)⟩, hw.1, hw.2.2.2.2.1⟩, by rw [ht]; exact hw.2.1, va_K.moved hW.alike hK, hw.2.2.1⟩, hw.2.2.2.1.F ht⟩) hw.2.2.2.1.2.2 dX8_standUp_11
abbrev wr_X8_drawFor : List (Nat × Nat) := [(8, 12)]
abbrev wa_X8_drawFor : List Nat := [11, 12]
set_option maxHeartbeats 4000000 in
set_option maxRecDepth 100000 in
theorem c_X8_drawFor (l : Launch) (D : va_G) (cy : Nat → ClassId) (z : Nat → Nat) (sz : Nat) (Ps : PSI) (w0 : va_W) (hT : HT cy GG Ps w0) (p0 : Nat) (p1 : Int32) (h_p0 : (p0, 24) ∈ Ps) (r_p1 : RI p1 0 7) : Met l yX8_drawFor (Cond.code yX8_drawFor cX8_drawFor 3 none :: gT) ({ frames := 2, cells := 0, slots := 0, locals := 400 } : Room) (va_Pc [.ref p0, .int p1] (PRE D cy z w0 sz)) (va_Qv (fun (u : va_W) => (True) ∧ HT cy GG Ps u ∧ FR wr_X8_drawFor wa_X8_drawFor Ps w0 u) (BB D cy (va_A w0 sz) (fun (u : va_W) => u)) (va_A w0 sz)) 0 0 (va_A w0 sz) := by
  refine Met.ofW (cc := cX8_drawFor) (maxL := 3) (ret := none) (by decide) rfl ?_
  intro p e s m args below meth c s₁ B hml hv
  obtain ⟨rfl, hsz, hP, hK, hD0, hSD⟩ := hv
  have hx := B.exec
  have hb := B.bytes
  have hr := B.returns
  have hlocks := B.notSynchronized
  have hts : ∀ w ∈ gT, w.before _ s = true := fun w h => atoms_spec (ws := Cond.code yX8_drawFor cX8_drawFor 3 none :: gT) B.pre w (List.mem_cons_of_mem _ h)
  have hown : s.vm.findClass RX8 = some m.cls := findClass_of_methodNamed B.named
  subst hsz
  have hD := hD0.self (sz := s.heap.size)
  generalize hAe : va_A w0 s.heap.size = A at hD hSD ⊢
  have hA : ∀ q : Nat, s.heap.size ≤ q → A q := fun q h => by rw [← hAe]; exact Or.inr h
  have hl := lv_entry ([.ref p0, .int p1]) (n := 3) (Nat.le_of_ble_eq_true rfl)
  rw [lg_entry_eq]
  generalize (lg_sl ([.ref p0, .int p1]) ++ List.replicate (3 - (lg_sl ([.ref p0, .int p1])).length) Slot.unset).toArray = ls at hl ⊢
  have hl : lv_has ls 3 [(0, .ref p0), (1, .int p1)] := hl
  refine nameQ (fun Q hQ => ?_)
  have hw : WD D cy GG A s wr_X8_drawFor wa_X8_drawFor Ps w0 Ps w0 s.heap [] := ⟨hT, hP, hD, va_S.rf, FR.rf, hT.1, [], (List.append_nil _).symm⟩
  have B59 : ∀ (x2 : Int32) (ws : va_W) (H : Heap) (locs : List Loc) (ls : Array Slot), RI p1 0 7 → RI x2 1 7 → WD D cy GG A s wr_X8_drawFor wa_X8_drawFor Ps w0 Ps ws H locs → lv_has ls 3 [(0, .ref p0), (1, .int p1), (2, .int x2)] → W p l e (headSpec (Cond.code yX8_drawFor cX8_drawFor 3 none :: gT) ({ frames := 2, cells := 0, slots := 0, locals := 400 } : Room)).room s m ([.ref p0, .int p1] : List Value).toArray below meth c H locs 0 0 Q (F0 m 59 ls []) := by
    intro x2 ws H locs ls r_p1 r_x2 hw hl
    refine lv_iload_n hx hb dX8_drawFor_59 rfl (lv_at hl 2 rfl) ?_
    refine lv_iconst (v := 2) hx hb dX8_drawFor_60 (by decide) ?_
    refine lv_icmp_ne (tgt := 95) hx hb dX8_drawFor_61 (by decide) (fun c_61 => ?_) (fun c_61 => ?_)
    · subst hQ
      exact W.vret hx hb hr (fun t ht hW => ⟨⟨ws, rfl, ⟨trivial, hw.1, hw.2.2.2.2.1⟩, by rw [ht]; exact hw.2.1, va_K.moved hW.alike hK, hw.2.2.1⟩, hw.2.2.2.1.F ht⟩) hw.2.2.2.1.2.2 dX8_drawFor_95
    · have r_x2 : RI x2 2 2 := rc_eq1 r_x2 rl_2 (ti_eq c_61) (by decide)
      refine lv_aload_n hx hb dX8_drawFor_64 rfl (lv_at hl 0 rfl) ?_
      refine tg_get (ci := 8) (ts := ty_WORLD) (C := RX8) (T := TX8) (N := 13) hx hb hts inX8 hown hK hw h_p0 rfl rfl 0 (by decide) (hts _ tw_247) (fun _ h9 => h9) (ft := vR 25) rfl dX8_drawFor_65 (fun u_1 hv_u_1 m_u_1 => ?_)
      obtain ⟨vu_1, rfl, h_vu_1⟩ := hv_u_1
      refine tg_getN (ci := 3) (ts := ty_POST) (C := RX3) (T := TX3) (N := 9) hx hb hts inX3 hown hK hw h_vu_1 rfl rfl 1 (by decide) (hSD.nest tn_203) (fun _ h9 => h9) (ft := vR 4) rfl dX8_drawFor_68 (fun u_2 hv_u_2 m_u_2 => ?_)
      obtain ⟨vu_2, rfl, h_vu_2⟩ := hv_u_2
      refine lv_iconst (v := 0) hx hb dX8_drawFor_71 (by decide) ?_
      refine tg_iald (lo := 0) (hi := 6) hx hb hK hw h_vu_2 rfl 0 0 rl_0 (by decide) (by decide +kernel) dX8_drawFor_72 (fun v_3 r_v_3 m_v_3 o_v_3 => ?_)
      refine lv_if_le (tgt := 95) hx hb dX8_drawFor_73 (by decide) (fun c_73 => ?_) (fun c_73 => ?_)
      · have r_v_3 : RI v_3 0 0 := rc_le1 r_v_3 rl_0 (ti_le c_73) (by decide)
        subst hQ
        exact W.vret hx hb hr (fun t ht hW => ⟨⟨ws, rfl, ⟨trivial, hw.1, hw.2.2.2.2.1⟩, by rw [ht]; exact hw.2.1, va_K.moved hW.alike hK, hw.2.2.1⟩, hw.2.2.2.1.F ht⟩) hw.2.2.2.1.2.2 dX8_drawFor_95
      · have r_v_3 : RI v_3 1 6 := rc_lt2 rl_0 r_v_3 (ti_nle c_73) (by decide)
        refine lv_aload_n hx hb dX8_drawFor_76 rfl (lv_at hl 0 rfl) ?_
        refine lv_iload_n hx hb dX8_drawFor_77 rfl (lv_at hl 1 rfl) ?_
        refine lv_aload_n hx hb dX8_drawFor_78 rfl (lv_at hl 0 rfl) ?_
        refine lv_aload_n hx hb dX8_drawFor_79 rfl (lv_at hl 0 rfl) ?_
        refine tg_mem (ci := 8) (C := RX8) (T := TX8) (N := 13) hx hb hts inX8 hown hK hw 0 m_u_1 rfl (by decide) (hts _ tw_247) (fun _ h9 => h9) dX8_drawFor_80 ?_
        refine tg_memN (ci := 3) (C := RX3) (T := TX3) (N := 9) hx hb hts inX3 hown hK hw 1 m_u_2 rfl (by decide) (hSD.nest tn_203) (fun _ h9 => h9) dX8_drawFor_83 ?_
        refine lv_iconst (v := 0) hx hb dX8_drawFor_86 (by decide) ?_
        refine tg_imem hx hb hK hw h_vu_2 rfl rl_0 (by decide) m_v_3 dX8_drawFor_87 ?_
        refine tk_i (va_runV (As := [.int v_3]) (rest := [.int p1, .ref p0]) ⟨hx, hb, hml, hown, hts⟩ (c_X8_draw l D cy z H.size Ps ws hw.1 p0 v_3 h_p0 r_v_3) (cwV 1 hts (gV tw_870 tw_872 ts_25 tw_12 tw_873) rfl rfl rfl (by decide +kernel) ⟨Nat.le_of_ble_eq_true rfl, Nat.le_of_ble_eq_true rfl⟩) (tg_preV hw hK hSD hA (ci := 8) (q := (RX8, TX8, 13)) rfl h_p0 rfl) rfl rfl hl.1 rfl (lv_room (Nat.le_of_ble_eq_true rfl)) dX8_drawFor_88 ⟨Nat.le_of_ble_eq_true rfl, Nat.le_of_ble_eq_true rfl⟩) hw hA ⟨by decide, by decide⟩ (fun v_5 ws H locs hp_v_5 hw hF9 => ?_)
        have r_v_5 : RI v_5 0 5 := hp_v_5.1
        refine tk_i (va_runV (As := [.int p1, .int v_5]) (rest := []) ⟨hx, hb, hml, hown, hts⟩ (c_X8_wishFor l D cy z H.size Ps ws hw.1 p0 p1 v_5 h_p0 r_p1 r_v_5) (cwV 2 hts (gV tw_877 tw_637 tw_638 tw_12 tw_639) rfl rfl rfl (by decide +kernel) ⟨Nat.le_of_ble_eq_true rfl, Nat.le_of_ble_eq_true rfl⟩) (tg_preV hw hK hSD hA (ci := 8) (q := (RX8, TX8, 13)) rfl h_p0 rfl) rfl rfl hl.1 rfl (lv_room (Nat.le_of_ble_eq_true rfl)) dX8_drawFor_91 ⟨Nat.le_of_ble_eq_true rfl, Nat.le_of_ble_eq_true rfl⟩) hw hA ⟨by decide, by decide⟩ (fun v_6 ws H locs hp_v_6 hw hF9 => ?_)
        have r_v_6 : RI v_6 0 1 := hp_v_6.1
        refine lv_pop hx hb dX8_drawFor_94 rfl ?_
        subst hQ
        exact W.vret hx hb hr (fun t ht hW => ⟨⟨ws, rfl, ⟨trivial, hw.1, hw.2.2.2.2.1⟩, by rw [ht]; exact hw.2.1, va_K.moved hW.alike hK, hw.2.2.1⟩, hw.2.2.2.1.F ht⟩) hw.2.2.2.1.2.2 dX8_drawFor_95
  refine lv_aload_n hx hb dX8_drawFor_0 rfl (lv_at hl 0 rfl) ?_
  refine lv_bipush (v := 8) hx hb dX8_drawFor_1 (by decide) ?_
  refine tk_i (va_runV (As := [.int 8]) (rest := []) ⟨hx, hb, hml, hown, hts⟩ (c_X8_draw__1 l D cy z s.heap.size Ps w0 hw.1 p0 8 h_p0 rl_8) (cwV 1 hts (gV tw_870 tw_872 ts_25 tw_12 tw_873) rfl rfl rfl (by decide +kernel) ⟨Nat.le_of_ble_eq_true rfl, Nat.le_of_ble_eq_true rfl⟩) (tg_preV hw hK hSD hA (ci := 8) (q := (RX8, TX8, 13)) rfl h_p0 rfl) rfl rfl hl.1 rfl (lv_room (Nat.le_of_ble_eq_true rfl)) dX8_drawFor_3 ⟨Nat.le_of_ble_eq_true rfl, Nat.le_of_ble_eq_true rfl⟩) hw hA ⟨by decide, by decide⟩ (fun v_7 ws H locs hp_v_7 hw hF9 => ?_)
  have r_v_7 : RI v_7 0 7 := hp_v_7.1
  refine lv_istore_n (lv' := [(2, .int v_7), (0, .ref p0), (1, .int p1)]) hx hb dX8_drawFor_6 rfl hl (by decide) rfl (fun ls hl => ?_)
  refine lv_iload_n hx hb dX8_drawFor_7 rfl (lv_at hl 0 rfl) ?_
  refine lv_if_ne (tgt := 20) hx hb dX8_drawFor_8 (by decide) (fun c_8 => ?_) (fun c_8 => ?_)
  · have r_v_7 : RI v_7 1 7 := rc_neL r_v_7 rl_0 (ti_ne c_8) (by decide)
    refine lv_iload_n hx hb dX8_drawFor_20 rfl (lv_at hl 0 rfl) ?_
    refine lv_iconst (v := 1) hx hb dX8_drawFor_21 (by decide) ?_
    refine lv_icmp_ne (tgt := 59) hx hb dX8_drawFor_22 (by decide) (fun c_22 => ?_) (fun c_22 => ?_)
    · have r_v_7 : RI v_7 2 7 := rc_neL r_v_7 rl_1 (ti_ne c_22) (by decide)
      exact B59 v_7 ws _ _ ls r_p1 (r_v_7.to (by decide)) hw (lv_sub hl [1, 2, 0] rfl)
    · have r_v_7 : RI v_7 1 1 := rc_eq1 r_v_7 rl_1 (ti_eq c_22) (by decide)
      refine lv_aload_n hx hb dX8_drawFor_25 rfl (lv_at hl 1 rfl) ?_
      refine tg_get (ci := 8) (ts := ty_WORLD) (C := RX8) (T := TX8) (N := 13) hx hb hts inX8 hown hK hw h_p0 rfl rfl 0 (by decide) (hts _ tw_247) (fun _ h9 => h9) (ft := vR 25) rfl dX8_drawFor_26 (fun u_8 hv_u_8 m_u_8 => ?_)
      obtain ⟨vu_8, rfl, h_vu_8⟩ := hv_u_8
      refine tg_getN (ci := 3) (ts := ty_POST) (C := RX3) (T := TX3) (N := 9) hx hb hts inX3 hown hK hw h_vu_8 rfl rfl 1 (by decide) (hSD.nest tn_203) (fun _ h9 => h9) (ft := vR 4) rfl dX8_drawFor_29 (fun u_9 hv_u_9 m_u_9 => ?_)
      obtain ⟨vu_9, rfl, h_vu_9⟩ := hv_u_9
      refine lv_iconst (v := 2) hx hb dX8_drawFor_32 (by decide) ?_
      refine tg_iald (lo := 0) (hi := 6) hx hb hK hw h_vu_9 rfl 2 2 rl_2 (by decide) (by decide +kernel) dX8_drawFor_33 (fun v_10 r_v_10 m_v_10 o_v_10 => ?_)
      refine lv_if_le (tgt := 59) hx hb dX8_drawFor_34 (by decide) (fun c_34 => ?_) (fun c_34 => ?_)
      · have r_v_10 : RI v_10 0 0 := rc_le1 r_v_10 rl_0 (ti_le c_34) (by decide)
        exact B59 v_7 ws _ _ ls r_p1 (r_v_7.to (by decide)) hw (lv_sub hl [1, 2, 0] rfl)
      · have r_v_10 : RI v_10 1 6 := rc_lt2 rl_0 r_v_10 (ti_nle c_34) (by decide)
        refine lv_aload_n hx hb dX8_drawFor_37 rfl (lv_at hl 1 rfl) ?_
        refine lv_iload_n hx hb dX8_drawFor_38 rfl (lv_at hl 2 rfl) ?_
        refine lv_aload_n hx hb dX8_drawFor_39 rfl (lv_at hl 1 rfl) ?_
        refine lv_aload_n hx hb dX8_drawFor_40 rfl (lv_at hl 1 rfl) ?_
        refine tg_mem (ci := 8) (C := RX8) (T := TX8) (N := 13) hx hb hts inX8 hown hK hw 0 m_u_8 rfl (by decide) (hts _ tw_247) (fun _ h9 => h9) dX8_drawFor_41 ?_
        refine tg_memN (ci := 3) (C := RX3) (T := TX3) (N := 9) hx hb hts inX3 hown hK hw 1 m_u_9 rfl (by decide) (hSD.nest tn_203) (fun _ h9 => h9) dX8_drawFor_44 ?_
        refine lv_iconst (v := 2) hx hb dX8_drawFor_47 (by decide) ?_
        refine tg_imem hx hb hK hw h_vu_9 rfl rl_2 (by decide) m_v_10 dX8_drawFor_48 ?_
        refine tk_i (va_runV (As := [.int v_10]) (rest := [.int p1, .ref p0]) ⟨hx, hb, hml, hown, hts⟩ (c_X8_draw l D cy z H.size Ps ws hw.1 p0 v_10 h_p0 r_v_10) (cwV 1 hts (gV tw_870 tw_872 ts_25 tw_12 tw_873) rfl rfl rfl (by decide +kernel) ⟨Nat.le_of_ble_eq_true rfl, Nat.le_of_ble_eq_true rfl⟩) (tg_preV hw hK hSD hA (ci := 8) (q := (RX8, TX8, 13)) rfl h_p0 rfl) rfl rfl hl.1 rfl (lv_room (Nat.le_of_ble_eq_true rfl)) dX8_drawFor_49 ⟨Nat.le_of_ble_eq_true rfl, Nat.le_of_ble_eq_true rfl⟩) hw hA ⟨by decide, by decide⟩ (fun v_12 ws H locs hp_v_12 hw hF9 => ?_)
        have r_v_12 : RI v_12 0 5 := hp_v_12.1
        refine tk_i (va_runV (As := [.int p1, .int v_12]) (rest := []) ⟨hx, hb, hml, hown, hts⟩ (c_X8_sitDown l D cy z H.size Ps ws hw.1 p0 p1 v_12 h_p0 r_p1 (r_v_12.to (by decide))) (cwV 2 hts (gV tw_876 tw_612 tw_613 tw_12 tw_614) rfl rfl rfl (by decide +kernel) ⟨Nat.le_of_ble_eq_true rfl, Nat.le_of_ble_eq_true rfl⟩) (tg_preV hw hK hSD hA (ci := 8) (q := (RX8, TX8, 13)) rfl h_p0 rfl) rfl rfl hl.1 rfl (lv_room (Nat.le_of_ble_eq_true rfl)) dX8_drawFor_52 ⟨Nat.le_of_ble_eq_true rfl, Nat.le_of_ble_eq_true rfl⟩) hw hA ⟨by decide, by decide⟩ (fun v_13 ws H locs hp_v_13 hw hF9 => ?_)
        have r_v_13 : RI v_13 0 1 := hp_v_13.1
        refine lv_pop hx hb dX8_drawFor_55 rfl ?_
        refine lv_goto (tgt := 95) hx hb dX8_drawFor_56 (by decide) ?_
        subst hQ
        exact W.vret hx hb hr (fun t ht hW => ⟨⟨ws, rfl, ⟨trivial, hw.1, hw.2.2.2.2.1⟩, by rw [ht]; exact hw.2.1, va_K.moved hW.alike hK, hw.2.2.1⟩, hw.2.2.2.1.F ht⟩) hw.2.2.2.1.2.2 dX8_drawFor_95
  · have r_v_7 : RI v_7 0 0 := rc_eq1 r_v_7 rl_0 (ti_eq c_8) (by decide)
    refine lv_aload_n hx hb dX8_drawFor_11 rfl (lv_at hl 1 rfl) ?_
    refine lv_iload_n hx hb dX8_drawFor_12 rfl (lv_at hl 2 rfl) ?_
    refine tk_i (va_runV (As := [.int p1]) (rest := []) ⟨hx, hb, hml, hown, hts⟩ (c_X8_standUp l D cy z H.size Ps ws hw.1 p0 p1 h_p0 r_p1) (cwV 1 hts (gV tw_875 tw_629 tw_630 tw_12 tw_631) rfl rfl rfl (by decide +kernel) ⟨Nat.le_of_ble_eq_true rfl, Nat.le_of_ble_eq_true rfl⟩) (tg_preV hw hK hSD hA (ci := 8) (q := (RX8, TX8, 13)) rfl h_p0 rfl) rfl rfl hl.1 rfl (lv_room (Nat.le_of_ble_eq_true rfl)) dX8_drawFor_13 ⟨Nat.le_of_ble_eq_true rfl, Nat.le_of_ble_eq_true rfl⟩) hw hA ⟨by decide, by decide⟩ (fun v_14 ws H locs hp_v_14 hw hF9 => ?_)
    have r_v_14 : RI v_14 0 1 := hp_v_14.1
    refine lv_pop hx hb dX8_drawFor_16 rfl ?_
    refine lv_goto (tgt := 95) hx hb dX8_drawFor_17 (by decide) ?_
    subst hQ
    exact W.vret hx hb hr (fun t ht hW => ⟨⟨ws, rfl, ⟨trivial, hw.1, hw.2.2.2.2.1⟩, by rw [ht]; exact hw.2.1, va_K.moved hW.alike hK, hw.2.2.1⟩, hw.2.2.2.1.F ht⟩) hw.2.2.2.1.2.2 dX8_drawFor_95
abbrev wr_X8_drawDays : List (Nat × Nat) := [(8, 1), (8, 12)]
abbrev wa_X8_drawDays : List Nat := [8, 10, 11, 12, 14]
set_option maxHeartbeats 4000000 in
set_option maxRecDepth 100000 in
theorem c_X8_drawDays (l : Launch) (D : va_G) (cy : Nat → ClassId) (z : Nat → Nat) (sz : Nat) (Ps : PSI) (w0 : va_W) (hT : HT cy GG Ps w0) (p0 : Nat) (p1 : Int32) (p2 : Int32) (h_p0 : (p0, 24) ∈ Ps) (r_p1 : RI p1 (-2147483648) 2147483647) (r_p2 : RI p2 (-2147483648) 2147483647) : Met l yX8_drawDays (Cond.code yX8_drawDays cX8_drawDays 6 (some .int) :: gT) ({ frames := 5, cells := 0, slots := 0, locals := 1000 } : Room) (va_Pc [.ref p0, .int p1, .int p2] (PRE D cy z w0 sz)) (va_Qi (fun (r : Int32) (u : va_W) => (RI r (-2147483648) 2147483647 ∧ (r = 0 → True) ∧ (¬ r = 0 → True)) ∧ HT cy GG Ps u ∧ FR wr_X8_drawDays wa_X8_drawDays Ps w0 u) (BB D cy (va_A w0 sz) (fun (u : va_W) => u)) (va_A w0 sz)) 0 0 (va_A w0 sz) := by
  refine Met.ofW (cc := cX8_drawDays) (maxL := 6) (ret := (some .int)) (by decide) rfl ?_
  intro p e s m args below meth c s₁ B hml hv
  obtain ⟨rfl, hsz, hP, hK, hD0, hSD⟩ := hv
  have hx := B.exec
  have hb := B.bytes
  have hr := B.returns
  have hlocks := B.notSynchronized
  have hts : ∀ w ∈ gT, w.before _ s = true := fun w h => atoms_spec (ws := Cond.code yX8_drawDays cX8_drawDays 6 (some .int) :: gT) B.pre w (List.mem_cons_of_mem _ h)
  have hown : s.vm.findClass RX8 = some m.cls := findClass_of_methodNamed B.named
  subst hsz
  have hD := hD0.self (sz := s.heap.size)
  generalize hAe : va_A w0 s.heap.size = A at hD hSD ⊢
  have hA : ∀ q : Nat, s.heap.size ≤ q → A q := fun q h => by rw [← hAe]; exact Or.inr h
  have hl := lv_entry ([.ref p0, .int p1, .int p2]) (n := 6) (Nat.le_of_ble_eq_true rfl)
  rw [lg_entry_eq]
  generalize (lg_sl ([.ref p0, .int p1, .int p2]) ++ List.replicate (6 - (lg_sl ([.ref p0, .int p1, .int p2])).length) Slot.unset).toArray = ls at hl ⊢
  have hl : lv_has ls 6 [(0, .ref p0), (1, .int p1), (2, .int p2)] := hl
  refine nameQ (fun Q hQ => ?_)
  have hw : WD D cy GG A s wr_X8_drawDays wa_X8_drawDays Ps w0 Ps w0 s.heap [] := ⟨hT, hP, hD, va_S.rf, FR.rf, hT.1, [], (List.append_nil _).symm⟩
  have B17 : ∀ (nf : Nat) (x3 : Int32) (x4 : Int32) (ws : va_W) (H : Heap) (locs : List Loc) (ls : Array Slot), 2147483647 - x4.toInt < (nf : Int) → RI p1 (-2147483648) 2147483647 → RI p2 (-2147483648) 2147483647 → RI x3 (-2147483648) 2147483647 → RI x4 0 2147483647 → WD D cy GG A s wr_X8_drawDays wa_X8_drawDays Ps w0 Ps ws H locs → lv_has ls 6 [(0, .ref p0), (1, .int p1), (2, .int p2), (3, .int x3), (4, .int x4)] → W p l e (headSpec (Cond.code yX8_drawDays cX8_drawDays 6 (some .int) :: gT) ({ frames := 5, cells := 0, slots := 0, locals := 1000 } : Room)).room s m ([.ref p0, .int p1, .int p2] : List Value).toArray below meth c H locs 0 0 Q (F0 m 17 ls []) := by
    intro nf17
    induction nf17 with
    | zero =>
      intro x3 x4 ws H locs ls hn17 r_p1 r_p2 r_x3 r_x4 hw hl
      exact absurd hn17 (by have q0 := r_x4.1; have u0 := r_x4.2; omega)
    | succ nf17 ih17 =>
      have B26 : ∀ (nf : Nat) (x3 : Int32) (x4 : Int32) (x5 : Int32) (ws : va_W) (H : Heap) (locs : List Loc) (ls : Array Slot), 8 - x5.toInt < (nf : Int) → RI p1 (-2147483648) 2147483647 → RI p2 (-2147483648) 2147483647 → RI x3 1 2147483647 → RI x4 0 2147483646 → RI x5 0 8 → 2147483647 - x4.toInt < ((nf17 + 1 : Nat) : Int) → WD D cy GG A s wr_X8_drawDays wa_X8_drawDays Ps w0 Ps ws H locs → lv_has ls 6 [(0, .ref p0), (1, .int p1), (2, .int p2), (3, .int x3), (4, .int x4), (5, .int x5)] → W p l e (headSpec (Cond.code yX8_drawDays cX8_drawDays 6 (some .int) :: gT) ({ frames := 5, cells := 0, slots := 0, locals := 1000 } : Room)).room s m ([.ref p0, .int p1, .int p2] : List Value).toArray below meth c H locs 0 0 Q (F0 m 26 ls []) := by
        intro nf26
        induction nf26 with
        | zero =>
          intro x3 x4 x5 ws H locs ls hn26 r_p1 r_p2 r_x3 r_x4 r_x5 hn17 hw hl
          exact absurd hn26 (by have q0 := r_x5.1; have u0 := r_x5.2; omega)
        | succ nf26 ih26 =>
          intro x3 x4 x5 ws H locs ls hn26 r_p1 r_p2 r_x3 r_x4 r_x5 hn17 hw hl
          refine lv_iload hx hb dX8_drawDays_26 (lv_at hl 5 rfl) ?_
          refine lv_aload_n hx hb dX8_drawDays_28 rfl (lv_at hl 0 rfl) ?_
          refine tg_get (ci := 8) (ts := ty_WORLD) (C := RX8) (T := TX8) (N := 13) hx hb hts inX8 hown hK hw h_p0 rfl rfl 0 (by decide) (hts _ tw_247) (fun _ h9 => h9) (ft := vR 25) rfl dX8_drawDays_29 (fun u_1 hv_u_1 m_u_1 => ?_)
          obtain ⟨vu_1, rfl, h_vu_1⟩ := hv_u_1
          refine tg_getN (ci := 3) (ts := ty_POST) (C := RX3) (T := TX3) (N := 9) hx hb hts inX3 hown hK hw h_vu_1 rfl rfl 1 (by decide) (hSD.nest tn_203) (fun _ h9 => h9) (ft := vR 4) rfl dX8_drawDays_32 (fun u_2 hv_u_2 m_u_2 => ?_)
          obtain ⟨vu_2, rfl, h_vu_2⟩ := hv_u_2
          refine lv_iconst (v := 3) hx hb dX8_drawDays_35 (by decide) ?_
          refine tg_iald (lo := 0) (hi := 8) hx hb hK hw h_vu_2 rfl 3 3 rl_3 (by decide) (by decide +kernel) dX8_drawDays_36 (fun v_3 r_v_3 m_v_3 o_v_3 => ?_)
          refine lv_icmp_ge (tgt := 52) hx hb dX8_drawDays_37 (by decide) (fun c_37 => ?_) (fun c_37 => ?_)
          · refine lv_aload_n hx hb dX8_drawDays_52 rfl (lv_at hl 0 rfl) ?_
            refine tk_v (va_runV (As := []) (rest := []) ⟨hx, hb, hml, hown, hts⟩ (c_X8_goDay l D cy z H.size Ps ws hw.1 p0 h_p0) (cwV 0 hts (gV tw_685 tw_687 ts_13 tw_12 tw_688) rfl rfl rfl (by decide +kernel) ⟨Nat.le_of_ble_eq_true rfl, Nat.le_of_ble_eq_true rfl⟩) (tg_preV hw hK hSD hA (ci := 8) (q := (RX8, TX8, 13)) rfl h_p0 rfl) rfl rfl hl.1 rfl (lv_room (Nat.le_of_ble_eq_true rfl)) dX8_drawDays_53 ⟨Nat.le_of_ble_eq_true rfl, Nat.le_of_ble_eq_true rfl⟩) hw hA ⟨by decide, by decide⟩ (fun ws H locs hp_v_4 hw hF9 => ?_)
            obtain ⟨v_5, e_v_5⟩ : ∃ q9 : Int32, q9 = x4 + Int32.ofInt 1 := ⟨_, rfl⟩
            obtain ⟨t_v_5, r_v_5⟩ := tq_add (lo := 1) (hi := 2147483647) r_x4 (show RI (Int32.ofInt 1) 1 1 by unfold RI; decide +kernel) (by decide +kernel) e_v_5
            have t_v_5 : v_5.toInt = x4.toInt + 1 := t_v_5
            refine lv_iinc (v := v_5) (lv' := [(4, .int v_5), (0, .ref p0), (1, .int p1), (2, .int p2), (3, .int x3), (5, .int x5)]) hx hb dX8_drawDays_56 hl (k := 4) rfl e_v_5.symm (by decide) rfl (fun ls hl => ?_)
            refine lv_goto (tgt := 17) hx hb dX8_drawDays_59 (by decide) ?_
            exact ih17 x3 v_5 ws _ _ ls (by have q0 := r_v_5.1; have u0 := r_v_5.2; have o0 := r_x4.1; have p0 := r_x4.2; omega) r_p1 r_p2 (r_x3.to (by decide)) (r_v_5.to (by decide)) hw (lv_sub hl [1, 2, 3, 4, 0] rfl)
          · have r_x5 : RI x5 0 7 := rc_lt1 r_x5 r_v_3 (ti_nle c_37) (by decide)
            have r_v_3 : RI v_3 1 8 := rc_lt2 r_x5 r_v_3 (ti_nle c_37) (by decide)
            refine lv_aload_n hx hb dX8_drawDays_40 rfl (lv_at hl 0 rfl) ?_
            refine lv_iload hx hb dX8_drawDays_41 (lv_at hl 5 rfl) ?_
            refine tk_v (va_runV (As := [.int x5]) (rest := []) ⟨hx, hb, hml, hown, hts⟩ (c_X8_drawFor l D cy z H.size Ps ws hw.1 p0 x5 h_p0 r_x5) (cwV 1 hts (gV tw_866 tw_868 ts_24 tw_12 tw_869) rfl rfl rfl (by decide +kernel) ⟨Nat.le_of_ble_eq_true rfl, Nat.le_of_ble_eq_true rfl⟩) (tg_preV hw hK hSD hA (ci := 8) (q := (RX8, TX8, 13)) rfl h_p0 rfl) rfl rfl hl.1 rfl (lv_room (Nat.le_of_ble_eq_true rfl)) dX8_drawDays_43 ⟨Nat.le_of_ble_eq_true rfl, Nat.le_of_ble_eq_true rfl⟩) hw hA ⟨by decide, by decide⟩ (fun ws H locs hp_v_6 hw hF9 => ?_)
            obtain ⟨v_7, e_v_7⟩ : ∃ q9 : Int32, q9 = x5 + Int32.ofInt 1 := ⟨_, rfl⟩
            obtain ⟨t_v_7, r_v_7⟩ := tq_add (lo := 1) (hi := 8) r_x5 (show RI (Int32.ofInt 1) 1 1 by unfold RI; decide +kernel) (by decide +kernel) e_v_7
            have t_v_7 : v_7.toInt = x5.toInt + 1 := t_v_7
            refine lv_iinc (v := v_7) (lv' := [(5, .int v_7), (0, .ref p0), (1, .int p1), (2, .int p2), (3, .int x3), (4, .int x4)]) hx hb dX8_drawDays_46 hl (k := 5) rfl e_v_7.symm (by decide) rfl (fun ls hl => ?_)
            refine lv_goto (tgt := 26) hx hb dX8_drawDays_49 (by decide) ?_
            exact ih26 x3 x4 v_7 ws _ _ ls (by have q0 := r_v_7.1; have u0 := r_v_7.2; have o0 := r_x5.1; have p0 := r_x5.2; omega) r_p1 r_p2 r_x3 r_x4 (r_v_7.to (by decide)) (by have q0 := r_x4.1; have u0 := r_x4.2; omega) hw (lv_sub hl [1, 2, 3, 4, 5, 0] rfl)
      intro x3 x4 ws H locs ls hn17 r_p1 r_p2 r_x3 r_x4 hw hl
      refine lv_iload hx hb dX8_drawDays_17 (lv_at hl 4 rfl) ?_
      refine lv_iload_n hx hb dX8_drawDays_19 rfl (lv_at hl 3 rfl) ?_
      refine lv_icmp_ge (tgt := 62) hx hb dX8_drawDays_20 (by decide) (fun c_20 => ?_) (fun c_20 => ?_)
      · refine lv_iload_n hx hb dX8_drawDays_62 rfl (lv_at hl 3 rfl) ?_
        subst hQ
        exact W.iret (v := x3) hx hb hr (fun t ht hW => ⟨⟨x3, ws, rfl, ⟨⟨r_x3.to (by decide), (fun h0 => trivial), (fun h0 => trivial)⟩, hw.1, hw.2.2.2.2.1⟩, by rw [ht]; exact hw.2.1, va_K.moved hW.alike hK, hw.2.2.1⟩, hw.2.2.2.1.F ht⟩) hw.2.2.2.1.2.2 dX8_drawDays_63
      · have r_x4 : RI x4 0 2147483646 := rc_lt1 r_x4 r_x3 (ti_nle c_20) (by decide)
        have r_x3 : RI x3 1 2147483647 := rc_lt2 r_x4 r_x3 (ti_nle c_20) (by decide)
        refine lv_iconst (v := 0) hx hb dX8_drawDays_23 (by decide) ?_
        refine lv_istore (lv' := [(5, .int 0), (0, .ref p0), (1, .int p1), (2, .int p2), (3, .int x3), (4, .int x4)]) hx hb dX8_drawDays_24 hl (by decide) rfl (fun ls hl => ?_)
        exact B26 4294967298 x3 x4 0 ws _ _ ls (by have q0 := rl_0.1; have u0 := rl_0.2; omega) r_p1 r_p2 r_x3 r_x4 (rl_0.to (by decide)) (by have q0 := r_x4.1; have u0 := r_x4.2; omega) hw (lv_sub hl [1, 2, 3, 4, 5, 0] rfl)
  refine lv_iload_n hx hb dX8_drawDays_0 rfl (lv_at hl 1 rfl) ?_
  refine lv_aload_n hx hb dX8_drawDays_1 rfl (lv_at hl 0 rfl) ?_
  refine tk_ir (va_runV (As := []) (rest := [.int p1]) ⟨hx, hb, hml, hown, hts⟩ (c_X8_daysLeft l D cy z s.heap.size Ps w0 hw.1 p0 h_p0) (cwV 0 hts (gV tw_681 tw_682 tw_683 tw_12 tw_684) rfl rfl rfl (by decide +kernel) ⟨Nat.le_of_ble_eq_true rfl, Nat.le_of_ble_eq_true rfl⟩) (tg_preV hw hK hSD hA (ci := 8) (q := (RX8, TX8, 13)) rfl h_p0 rfl) rfl rfl hl.1 rfl (lv_room (Nat.le_of_ble_eq_true rfl)) dX8_drawDays_2 ⟨Nat.le_of_ble_eq_true rfl, Nat.le_of_ble_eq_true rfl⟩) hw hA (fun v_8  H locs hp_v_8 hw => ?_)
  have r_v_8 : RI v_8 0 2147483647 := hp_v_8.1
  refine va_mmin hx hb (hml.trans hl.1.symm) hown (hts _ tw_485) (hts _ tw_486) (hts _ tw_16) (hts _ tw_487) (Nat.le_of_ble_eq_true rfl) (Nat.le_of_ble_eq_true rfl) (Nat.le_of_ble_eq_true rfl) (Nat.le_of_ble_eq_true rfl) dX8_drawDays_5 (lv_topi (fun v_9 e_v_9 => ?_))
  have r_v_9 : RI v_9 (-2147483648) 2147483647 := by rw [e_v_9]; exact ri_min r_p1 r_v_8 (by decide)
  refine lv_istore_n (lv' := [(3, .int v_9), (0, .ref p0), (1, .int p1), (2, .int p2)]) hx hb dX8_drawDays_8 rfl hl (by decide) rfl (fun ls hl => ?_)
  refine lv_aload_n hx hb dX8_drawDays_9 rfl (lv_at hl 1 rfl) ?_
  refine lv_iload_n hx hb dX8_drawDays_10 rfl (lv_at hl 3 rfl) ?_
  refine tg_put (ci := 8) (ts := ty_WORLD) (v := .int p2) (ty := .int) (C := RX8) (T := TX8) (N := 13) hx hb hts inX8 tyX8 tyX8_ok nmX8 hown hK hw h_p0 rfl rfl 12 (by decide) (hts _ tw_276) (fun _ h9 => h9) rfl (by decide +kernel) rfl rfl (ft := vI (-2147483648) 2147483647) rfl ⟨_, rfl, r_p2⟩ (by decide) dX8_drawDays_11 (fun ws H locs hw n_k_10 hF9 => ?_)
  refine lv_iconst (v := 0) hx hb dX8_drawDays_14 (by decide) ?_
  refine lv_istore (lv' := [(4, .int 0), (3, .int v_9), (0, .ref p0), (1, .int p1), (2, .int p2)]) hx hb dX8_drawDays_15 hl (by decide) rfl (fun ls hl => ?_)
  exact B17 4294967298 v_9 0 ws _ _ ls (by have q0 := rl_0.1; have u0 := rl_0.2; omega) r_p1 r_p2 r_v_9 (rl_0.to (by decide)) hw (lv_sub hl [2, 3, 4, 1, 0] rfl)
abbrev wr_X8_goDays : List (Nat × Nat) := [(8, 1)]
abbrev wa_X8_goDays : List Nat := [8, 10, 14]
set_option maxHeartbeats 4000000 in
set_option maxRecDepth 100000 in
theorem c_X8_goDays (l : Launch) (D : va_G) (cy : Nat → ClassId) (z : Nat → Nat) (sz : Nat) (Ps : PSI) (w0 : va_W) (hT : HT cy GG Ps w0) (p0 : Nat) (p1 : Int32) (h_p0 : (p0, 24) ∈ Ps) (r_p1 : RI p1 (-2147483648) 2147483647) : Met l yX8_goDays (Cond.code yX8_goDays cX8_goDays 4 (some .int) :: gT) ({ frames := 5, cells := 0, slots := 0, locals := 1000 } : Room) (va_Pc [.ref p0, .int p1] (PRE D cy z w0 sz)) (va_Qi (fun (r : Int32) (u : va_W) => (RI r (-2147483648) 2147483647 ∧ (r = 0 → True) ∧ (¬ r = 0 → True)) ∧ HT cy GG Ps u ∧ FR wr_X8_goDays wa_X8_goDays Ps w0 u) (BB D cy (va_A w0 sz) (fun (u : va_W) => u)) (va_A w0 sz)) 0 0 (va_A w0 sz) := by
  refine Met.ofW (cc := cX8_goDays) (maxL := 4) (ret := (some .int)) (by decide) rfl ?_
  intro p e s m args below meth c s₁ B hml hv
  obtain ⟨rfl, hsz, hP, hK, hD0, hSD⟩ := hv
  have hx := B.exec
  have hb := B.bytes
  have hr := B.returns
  have hlocks := B.notSynchronized
  have hts : ∀ w ∈ gT, w.before _ s = true := fun w h => atoms_spec (ws := Cond.code yX8_goDays cX8_goDays 4 (some .int) :: gT) B.pre w (List.mem_cons_of_mem _ h)
  have hown : s.vm.findClass RX8 = some m.cls := findClass_of_methodNamed B.named
  subst hsz
  have hD := hD0.self (sz := s.heap.size)
  generalize hAe : va_A w0 s.heap.size = A at hD hSD ⊢
  have hA : ∀ q : Nat, s.heap.size ≤ q → A q := fun q h => by rw [← hAe]; exact Or.inr h
  have hl := lv_entry ([.ref p0, .int p1]) (n := 4) (Nat.le_of_ble_eq_true rfl)
  rw [lg_entry_eq]
  generalize (lg_sl ([.ref p0, .int p1]) ++ List.replicate (4 - (lg_sl ([.ref p0, .int p1])).length) Slot.unset).toArray = ls at hl ⊢
  have hl : lv_has ls 4 [(0, .ref p0), (1, .int p1)] := hl
  refine nameQ (fun Q hQ => ?_)
  have hw : WD D cy GG A s wr_X8_goDays wa_X8_goDays Ps w0 Ps w0 s.heap [] := ⟨hT, hP, hD, va_S.rf, FR.rf, hT.1, [], (List.append_nil _).symm⟩
  have B11 : ∀ (nf : Nat) (x2 : Int32) (x3 : Int32) (ws : va_W) (H : Heap) (locs : List Loc) (ls : Array Slot), 2147483647 - x3.toInt < (nf : Int) → RI p1 (-2147483648) 2147483647 → RI x2 (-2147483648) 2147483647 → RI x3 0 2147483647 → WD D cy GG A s wr_X8_goDays wa_X8_goDays Ps w0 Ps ws H locs → lv_has ls 4 [(0, .ref p0), (1, .int p1), (2, .int x2), (3, .int x3)] → W p l e (headSpec (Cond.code yX8_goDays cX8_goDays 4 (some .int) :: gT) ({ frames := 5, cells := 0, slots := 0, locals := 1000 } : Room)).room s m ([.ref p0, .int p1] : List Value).toArray below meth c H locs 0 0 Q (F0 m 11 ls []) := by
    intro nf11
    induction nf11 with
    | zero =>
      intro x2 x3 ws H locs ls hn11 r_p1 r_x2 r_x3 hw hl
      exact absurd hn11 (by have q0 := r_x3.1; have u0 := r_x3.2; omega)
    | succ nf11 ih11 =>
      intro x2 x3 ws H locs ls hn11 r_p1 r_x2 r_x3 hw hl
      refine lv_iload_n hx hb dX8_goDays_11 rfl (lv_at hl 3 rfl) ?_
      refine lv_iload_n hx hb dX8_goDays_12 rfl (lv_at hl 2 rfl) ?_
      refine lv_icmp_ge (tgt := 26) hx hb dX8_goDays_13 (by decide) (fun c_13 => ?_) (fun c_13 => ?_)
      · refine lv_iload_n hx hb dX8_goDays_26 rfl (lv_at hl 2 rfl) ?_
        subst hQ
        exact W.iret (v := x2) hx hb hr (fun t ht hW => ⟨⟨x2, ws, rfl, ⟨⟨r_x2.to (by decide), (fun h0 => trivial), (fun h0 => trivial)⟩, hw.1, hw.2.2.2.2.1⟩, by rw [ht]; exact hw.2.1, va_K.moved hW.alike hK, hw.2.2.1⟩, hw.2.2.2.1.F ht⟩) hw.2.2.2.1.2.2 dX8_goDays_27
      · have r_x3 : RI x3 0 2147483646 := rc_lt1 r_x3 r_x2 (ti_nle c_13) (by decide)
        have r_x2 : RI x2 1 2147483647 := rc_lt2 r_x3 r_x2 (ti_nle c_13) (by decide)
        refine lv_aload_n hx hb dX8_goDays_16 rfl (lv_at hl 0 rfl) ?_
        refine tk_v (va_runV (As := []) (rest := []) ⟨hx, hb, hml, hown, hts⟩ (c_X8_goDay l D cy z H.size Ps ws hw.1 p0 h_p0) (cwV 0 hts (gV tw_685 tw_687 ts_13 tw_12 tw_688) rfl rfl rfl (by decide +kernel) ⟨Nat.le_of_ble_eq_true rfl, Nat.le_of_ble_eq_true rfl⟩) (tg_preV hw hK hSD hA (ci := 8) (q := (RX8, TX8, 13)) rfl h_p0 rfl) rfl rfl hl.1 rfl (lv_room (Nat.le_of_ble_eq_true rfl)) dX8_goDays_17 ⟨Nat.le_of_ble_eq_true rfl, Nat.le_of_ble_eq_true rfl⟩) hw hA ⟨by decide, by decide⟩ (fun ws H locs hp_v_1 hw hF9 => ?_)
        obtain ⟨v_2, e_v_2⟩ : ∃ q9 : Int32, q9 = x3 + Int32.ofInt 1 := ⟨_, rfl⟩
        obtain ⟨t_v_2, r_v_2⟩ := tq_add (lo := 1) (hi := 2147483647) r_x3 (show RI (Int32.ofInt 1) 1 1 by unfold RI; decide +kernel) (by decide +kernel) e_v_2
        have t_v_2 : v_2.toInt = x3.toInt + 1 := t_v_2
        refine lv_iinc (v := v_2) (lv' := [(3, .int v_2), (0, .ref p0), (1, .int p1), (2, .int x2)]) hx hb dX8_goDays_20 hl (k := 3) rfl e_v_2.symm (by decide) rfl (fun ls hl => ?_)
        refine lv_goto (tgt := 11) hx hb dX8_goDays_23 (by decide) ?_
        exact ih11 x2 v_2 ws _ _ ls (by have q0 := r_v_2.1; have u0 := r_v_2.2; have o0 := r_x3.1; have p0 := r_x3.2; omega) r_p1 (r_x2.to (by decide)) (r_v_2.to (by decide)) hw (lv_sub hl [1, 2, 3, 0] rfl)
  refine lv_iload_n hx hb dX8_goDays_0 rfl (lv_at hl 1 rfl) ?_
  refine lv_aload_n hx hb dX8_goDays_1 rfl (lv_at hl 0 rfl) ?_
  refine tk_ir (va_runV (As := []) (rest := [.int p1]) ⟨hx, hb, hml, hown, hts⟩ (c_X8_daysLeft l D cy z s.heap.size Ps w0 hw.1 p0 h_p0) (cwV 0 hts (gV tw_681 tw_682 tw_683 tw_12 tw_684) rfl rfl rfl (by decide +kernel) ⟨Nat.le_of_ble_eq_true rfl, Nat.le_of_ble_eq_true rfl⟩) (tg_preV hw hK hSD hA (ci := 8) (q := (RX8, TX8, 13)) rfl h_p0 rfl) rfl rfl hl.1 rfl (lv_room (Nat.le_of_ble_eq_true rfl)) dX8_goDays_2 ⟨Nat.le_of_ble_eq_true rfl, Nat.le_of_ble_eq_true rfl⟩) hw hA (fun v_3  H locs hp_v_3 hw => ?_)
  have r_v_3 : RI v_3 0 2147483647 := hp_v_3.1
  refine va_mmin hx hb (hml.trans hl.1.symm) hown (hts _ tw_485) (hts _ tw_486) (hts _ tw_16) (hts _ tw_487) (Nat.le_of_ble_eq_true rfl) (Nat.le_of_ble_eq_true rfl) (Nat.le_of_ble_eq_true rfl) (Nat.le_of_ble_eq_true rfl) dX8_goDays_5 (lv_topi (fun v_4 e_v_4 => ?_))
  have r_v_4 : RI v_4 (-2147483648) 2147483647 := by rw [e_v_4]; exact ri_min r_p1 r_v_3 (by decide)
  refine lv_istore_n (lv' := [(2, .int v_4), (0, .ref p0), (1, .int p1)]) hx hb dX8_goDays_8 rfl hl (by decide) rfl (fun ls hl => ?_)
  refine lv_iconst (v := 0) hx hb dX8_goDays_9 (by decide) ?_
  refine lv_istore_n (lv' := [(3, .int 0), (2, .int v_4), (0, .ref p0), (1, .int p1)]) hx hb dX8_goDays_10 rfl hl (by decide) rfl (fun ls hl => ?_)
  exact B11 4294967298 v_4 0 w0 _ _ ls (by have q0 := rl_0.1; have u0 := rl_0.2; omega) r_p1 r_v_4 (rl_0.to (by decide)) hw (lv_sub hl [2, 3, 1, 0] rfl)
abbrev wr_X8_isNow : List (Nat × Nat) := []
abbrev wa_X8_isNow : List Nat := []
set_option maxHeartbeats 4000000 in
set_option maxRecDepth 100000 in
theorem c_X8_isNow (l : Launch) (D : va_G) (cy : Nat → ClassId) (z : Nat → Nat) (sz : Nat) (Ps : PSI) (w0 : va_W) (hT : HT cy GG Ps w0) (p0 : Nat) (p1 : Int32) (h_p0 : (p0, 24) ∈ Ps) (r_p1 : RI p1 0 5) : Met l yX8_isNow (Cond.code yX8_isNow cX8_isNow 2 (some .int) :: gT) ({ frames := 3, cells := 0, slots := 0, locals := 600 } : Room) (va_Pc [.ref p0, .int p1] (PRE D cy z w0 sz)) (va_Qi (fun (r : Int32) (u : Unit) => RI r (-1) 5 ∧ (r = 0 → True) ∧ (¬ r = 0 → True) ∧ (True) ∧ (r.toInt < 0 → WX (fun f g h => NBq f g h p1) Ps w0 p0 ∧ True) ∧ (0 ≤ r.toInt → WX (fun f g h => WBq f g h p1) Ps w0 p0 ∧ True)) (BB D cy (va_A w0 sz) (fun (u : Unit) => w0)) (va_A w0 sz)) 0 0 (va_A w0 sz) := by
  refine Met.ofW (cc := cX8_isNow) (maxL := 2) (ret := (some .int)) (by decide) rfl ?_
  intro p e s m args below meth c s₁ B hml hv
  obtain ⟨rfl, hsz, hP, hK, hD0, hSD⟩ := hv
  have hx := B.exec
  have hb := B.bytes
  have hr := B.returns
  have hlocks := B.notSynchronized
  have hts : ∀ w ∈ gT, w.before _ s = true := fun w h => atoms_spec (ws := Cond.code yX8_isNow cX8_isNow 2 (some .int) :: gT) B.pre w (List.mem_cons_of_mem _ h)
  have hown : s.vm.findClass RX8 = some m.cls := findClass_of_methodNamed B.named
  subst hsz
  have hD := hD0.self (sz := s.heap.size)
  generalize hAe : va_A w0 s.heap.size = A at hD hSD ⊢
  have hA : ∀ q : Nat, s.heap.size ≤ q → A q := fun q h => by rw [← hAe]; exact Or.inr h
  have hl := lv_entry ([.ref p0, .int p1]) (n := 2) (Nat.le_of_ble_eq_true rfl)
  rw [lg_entry_eq]
  generalize (lg_sl ([.ref p0, .int p1]) ++ List.replicate (2 - (lg_sl ([.ref p0, .int p1])).length) Slot.unset).toArray = ls at hl ⊢
  have hl : lv_has ls 2 [(0, .ref p0), (1, .int p1)] := hl
  refine nameQ (fun Q hQ => ?_)
  have hw : WD D cy GG A s wr_X8_isNow wa_X8_isNow Ps w0 Ps w0 s.heap [] := ⟨hT, hP, hD, va_S.rf, FR.rf, hT.1, [], (List.append_nil _).symm⟩
  refine lv_aload_n hx hb dX8_isNow_0 rfl (lv_at hl 0 rfl) ?_
  refine lv_iload_n hx hb dX8_isNow_1 rfl (lv_at hl 1 rfl) ?_
  refine lv_iconst (v := 0) hx hb dX8_isNow_2 (by decide) ?_
  refine tk_ir (va_runV (As := [.int p1, .int 0]) (rest := []) ⟨hx, hb, hml, hown, hts⟩ (c_X8_becomes__1 l D cy z s.heap.size Ps w0 hw.1 p0 p1 0 h_p0 r_p1 rl_0) (cwV 2 hts (gV tw_573 tw_574 tw_575 tw_12 tw_576) rfl rfl rfl (by decide +kernel) ⟨Nat.le_of_ble_eq_true rfl, Nat.le_of_ble_eq_true rfl⟩) (tg_preV hw hK hSD hA (ci := 8) (q := (RX8, TX8, 13)) rfl h_p0 rfl) rfl rfl hl.1 rfl (lv_room (Nat.le_of_ble_eq_true rfl)) dX8_isNow_3 ⟨Nat.le_of_ble_eq_true rfl, Nat.le_of_ble_eq_true rfl⟩) hw hA (fun v_1  H locs hp_v_1 hw => ?_)
  have r_v_1 : RI v_1 (-1) 5 := hp_v_1.1
  by_cases c9_v_1 : v_1.toInt < 0
  · have r_v_1 : RI v_1 (-1) (-1) := by unfold RI at r_v_1 ⊢; omega
    have x_NBQ_p0_p1 := (hp_v_1.2.2.2.2.1 (by omega)).1
    subst hQ
    exact W.iret (v := v_1) hx hb hr (fun t ht hW => ⟨⟨v_1, (), rfl, ⟨r_v_1.to (by decide), (fun _ => trivial), (fun h0 => trivial), trivial, (fun h0 => ⟨x_NBQ_p0_p1, trivial⟩), (fun h0 => absurd h0 (by have h8 := r_v_1; unfold RI at h8; omega))⟩, by rw [ht]; exact hw.2.1, va_K.moved hW.alike hK, hw.2.2.1⟩, hw.2.2.2.1.F ht⟩) hw.2.2.2.1.2.2 dX8_isNow_6
  · have r_v_1 : RI v_1 0 5 := by unfold RI at r_v_1 ⊢; omega
    have x_WBQ_p0_p1 := (hp_v_1.2.2.2.2.2 (by omega)).1
    subst hQ
    exact W.iret (v := v_1) hx hb hr (fun t ht hW => ⟨⟨v_1, (), rfl, ⟨r_v_1.to (by decide), (fun h0 => trivial), (fun h0 => trivial), trivial, (fun h0 => absurd h0 (by have h8 := r_v_1; unfold RI at h8; omega)), (fun h0 => ⟨x_WBQ_p0_p1, trivial⟩)⟩, by rw [ht]; exact hw.2.1, va_K.moved hW.alike hK, hw.2.2.1⟩, hw.2.2.2.1.F ht⟩) hw.2.2.2.1.2.2 dX8_isNow_6
abbrev wr_X8_put : List (Nat × Nat) := []
abbrev wa_X8_put : List Nat := [8]
set_option maxHeartbeats 4000000 in
set_option maxRecDepth 100000 in
theorem c_X8_put (l : Launch) (D : va_G) (cy : Nat → ClassId) (z : Nat → Nat) (sz : Nat) (Ps : PSI) (w0 : va_W) (hT : HT cy GG Ps w0) (p0 : Nat) (p1 : Int32) (p2 : Int32) (p3 : Int32) (h_p0 : (p0, 24) ∈ Ps) (r_p1 : RI p1 0 5) (r_p2 : RI p2 0 5) (r_p3 : RI p3 (-2147483648) 2147483647) : Met l yX8_put (Cond.code yX8_put cX8_put 4 none :: gT) ({ frames := 2, cells := 0, slots := 0, locals := 400 } : Room) (va_Pc [.ref p0, .int p1, .int p2, .int p3] (PRE D cy z w0 sz)) (va_Qv (fun (u : va_W) => (True) ∧ HT cy GG Ps u ∧ FR wr_X8_put wa_X8_put Ps w0 u) (BB D cy (va_A w0 sz) (fun (u : va_W) => u)) (va_A w0 sz)) 0 0 (va_A w0 sz) := by
  refine Met.ofW (cc := cX8_put) (maxL := 4) (ret := none) (by decide) rfl ?_
  intro p e s m args below meth c s₁ B hml hv
  obtain ⟨rfl, hsz, hP, hK, hD0, hSD⟩ := hv
  have hx := B.exec
  have hb := B.bytes
  have hr := B.returns
  have hlocks := B.notSynchronized
  have hts : ∀ w ∈ gT, w.before _ s = true := fun w h => atoms_spec (ws := Cond.code yX8_put cX8_put 4 none :: gT) B.pre w (List.mem_cons_of_mem _ h)
  have hown : s.vm.findClass RX8 = some m.cls := findClass_of_methodNamed B.named
  subst hsz
  have hD := hD0.self (sz := s.heap.size)
  generalize hAe : va_A w0 s.heap.size = A at hD hSD ⊢
  have hA : ∀ q : Nat, s.heap.size ≤ q → A q := fun q h => by rw [← hAe]; exact Or.inr h
  have hl := lv_entry ([.ref p0, .int p1, .int p2, .int p3]) (n := 4) (Nat.le_of_ble_eq_true rfl)
  rw [lg_entry_eq]
  generalize (lg_sl ([.ref p0, .int p1, .int p2, .int p3]) ++ List.replicate (4 - (lg_sl ([.ref p0, .int p1, .int p2, .int p3])).length) Slot.unset).toArray = ls at hl ⊢
  have hl : lv_has ls 4 [(0, .ref p0), (1, .int p1), (2, .int p2), (3, .int p3)] := hl
  refine nameQ (fun Q hQ => ?_)
  have hw : WD D cy GG A s wr_X8_put wa_X8_put Ps w0 Ps w0 s.heap [] := ⟨hT, hP, hD, va_S.rf, FR.rf, hT.1, [], (List.append_nil _).symm⟩
  refine lv_aload_n hx hb dX8_put_0 rfl (lv_at hl 0 rfl) ?_
  refine tg_get (ci := 8) (ts := ty_WORLD) (C := RX8) (T := TX8) (N := 13) hx hb hts inX8 hown hK hw h_p0 rfl rfl 2 (by decide) (hts _ tw_252) (fun _ h9 => h9) (ft := vR 8) rfl dX8_put_1 (fun u_1 hv_u_1 m_u_1 => ?_)
  obtain ⟨vu_1, rfl, h_vu_1⟩ := hv_u_1
  refine lv_iload_n hx hb dX8_put_4 rfl (lv_at hl 1 rfl) ?_
  refine lv_bipush (v := 6) hx hb dX8_put_5 (by decide) ?_
  refine lv_imul hx hb dX8_put_7 (lv_topi (fun v_2 e_v_2 => ?_))
  obtain ⟨t_v_2, r_v_2⟩ := tq_mul (lo := 0) (hi := 30) r_p1 rl_6 (by decide +kernel) e_v_2
  have t_v_2 : v_2.toInt = p1.toInt * 6 := t_v_2
  refine lv_iload_n hx hb dX8_put_8 rfl (lv_at hl 2 rfl) ?_
  refine lv_iadd hx hb dX8_put_9 (lv_topi (fun v_3 e_v_3 => ?_))
  obtain ⟨t_v_3, r_v_3⟩ := tq_add (lo := 0) (hi := 35) r_v_2 r_p2 (by decide +kernel) e_v_3
  refine lv_iconst (v := 0) hx hb dX8_put_10 (by decide) ?_
  refine lv_bipush (v := 99) hx hb dX8_put_11 (by decide) ?_
  refine lv_iload_n hx hb dX8_put_13 rfl (lv_at hl 3 rfl) ?_
  refine va_mmin hx hb (hml.trans hl.1.symm) hown (hts _ tw_485) (hts _ tw_486) (hts _ tw_16) (hts _ tw_487) (Nat.le_of_ble_eq_true rfl) (Nat.le_of_ble_eq_true rfl) (Nat.le_of_ble_eq_true rfl) (Nat.le_of_ble_eq_true rfl) dX8_put_14 (lv_topi (fun v_4 e_v_4 => ?_))
  have r_v_4 : RI v_4 (-2147483648) 99 := by rw [e_v_4]; exact ri_min rl_99 r_p3 (by decide)
  refine va_mmax hx hb (hml.trans hl.1.symm) hown (hts _ tw_488) (hts _ tw_489) (hts _ tw_16) (hts _ tw_490) (Nat.le_of_ble_eq_true rfl) (Nat.le_of_ble_eq_true rfl) (Nat.le_of_ble_eq_true rfl) (Nat.le_of_ble_eq_true rfl) dX8_put_17 (lv_topi (fun v_5 e_v_5 => ?_))
  have r_v_5 : RI v_5 0 99 := by rw [e_v_5]; exact ri_max rl_0 r_v_4 (by decide)
  refine tg_iast hx hb hK hw h_vu_1 rfl 0 35 r_v_3 (by decide) r_v_5 (by exact fun _ _ _ => by decide) (fun _ _ _ _ _ => trivial) (by decide) dX8_put_20 (fun ws H locs hw hF9 hU9 => ?_)
  subst hQ
  exact W.vret hx hb hr (fun t ht hW => ⟨⟨ws, rfl, ⟨trivial, hw.1, hw.2.2.2.2.1⟩, by rw [ht]; exact hw.2.1, va_K.moved hW.alike hK, hw.2.2.1⟩, hw.2.2.2.1.F ht⟩) hw.2.2.2.1.2.2 dX8_put_21
abbrev wr_X8_lessBy : List (Nat × Nat) := []
abbrev wa_X8_lessBy : List Nat := [8]
set_option maxHeartbeats 4000000 in
set_option maxRecDepth 100000 in
theorem c_X8_lessBy (l : Launch) (D : va_G) (cy : Nat → ClassId) (z : Nat → Nat) (sz : Nat) (Ps : PSI) (w0 : va_W) (hT : HT cy GG Ps w0) (p0 : Nat) (p1 : Int32) (p2 : Int32) (h_p0 : (p0, 24) ∈ Ps) (r_p1 : RI p1 0 5) (r_p2 : RI p2 0 5) : Met l yX8_lessBy (Cond.code yX8_lessBy cX8_lessBy 3 none :: gT) ({ frames := 3, cells := 0, slots := 0, locals := 600 } : Room) (va_Pc [.ref p0, .int p1, .int p2] (PRE D cy z w0 sz)) (va_Qv (fun (u : va_W) => (True) ∧ HT cy GG Ps u ∧ FR wr_X8_lessBy wa_X8_lessBy Ps w0 u) (BB D cy (va_A w0 sz) (fun (u : va_W) => u)) (va_A w0 sz)) 0 0 (va_A w0 sz) := by
  refine Met.ofW (cc := cX8_lessBy) (maxL := 3) (ret := none) (by decide) rfl ?_
  intro p e s m args below meth c s₁ B hml hv
  obtain ⟨rfl, hsz, hP, hK, hD0, hSD⟩ := hv
  have hx := B.exec
  have hb := B.bytes
  have hr := B.returns
  have hlocks := B.notSynchronized
  have hts : ∀ w ∈ gT, w.before _ s = true := fun w h => atoms_spec (ws := Cond.code yX8_lessBy cX8_lessBy 3 none :: gT) B.pre w (List.mem_cons_of_mem _ h)
  have hown : s.vm.findClass RX8 = some m.cls := findClass_of_methodNamed B.named
  subst hsz
  have hD := hD0.self (sz := s.heap.size)
  generalize hAe : va_A w0 s.heap.size = A at hD hSD ⊢
  have hA : ∀ q : Nat, s.heap.size ≤ q → A q := fun q h => by rw [← hAe]; exact Or.inr h
  have hl := lv_entry ([.ref p0, .int p1, .int p2]) (n := 3) (Nat.le_of_ble_eq_true rfl)
  rw [lg_entry_eq]
  generalize (lg_sl ([.ref p0, .int p1, .int p2]) ++ List.replicate (3 - (lg_sl ([.ref p0, .int p1, .int p2])).length) Slot.unset).toArray = ls at hl ⊢
  have hl : lv_has ls 3 [(0, .ref p0), (1, .int p1), (2, .int p2)] := hl
  refine nameQ (fun Q hQ => ?_)
  have hw : WD D cy GG A s wr_X8_lessBy wa_X8_lessBy Ps w0 Ps w0 s.heap [] := ⟨hT, hP, hD, va_S.rf, FR.rf, hT.1, [], (List.append_nil _).symm⟩
  refine lv_aload_n hx hb dX8_lessBy_0 rfl (lv_at hl 0 rfl) ?_
  refine lv_iload_n hx hb dX8_lessBy_1 rfl (lv_at hl 1 rfl) ?_
  refine lv_iload_n hx hb dX8_lessBy_2 rfl (lv_at hl 2 rfl) ?_
  refine lv_aload_n hx hb dX8_lessBy_3 rfl (lv_at hl 0 rfl) ?_
  refine lv_iload_n hx hb dX8_lessBy_4 rfl (lv_at hl 1 rfl) ?_
  refine lv_iload_n hx hb dX8_lessBy_5 rfl (lv_at hl 2 rfl) ?_
  refine tk_ir (va_runV (As := [.int p1, .int p2]) (rest := [.int p2, .int p1, .ref p0]) ⟨hx, hb, hml, hown, hts⟩ (c_X8_has l D cy z s.heap.size Ps w0 hw.1 p0 p1 p2 h_p0 r_p1 r_p2) (cwV 2 hts (gV tw_597 tw_474 tw_475 tw_12 tw_476) rfl rfl rfl (by decide +kernel) ⟨Nat.le_of_ble_eq_true rfl, Nat.le_of_ble_eq_true rfl⟩) (tg_preV hw hK hSD hA (ci := 8) (q := (RX8, TX8, 13)) rfl h_p0 rfl) rfl rfl hl.1 rfl (lv_room (Nat.le_of_ble_eq_true rfl)) dX8_lessBy_6 ⟨Nat.le_of_ble_eq_true rfl, Nat.le_of_ble_eq_true rfl⟩) hw hA (fun v_1  H locs hp_v_1 hw => ?_)
  have r_v_1 : RI v_1 (-2147483648) 2147483647 := hp_v_1.1
  refine lv_aload_n hx hb dX8_lessBy_9 rfl (lv_at hl 0 rfl) ?_
  refine tg_get (ci := 8) (ts := ty_WORLD) (C := RX8) (T := TX8) (N := 13) hx hb hts inX8 hown hK hw h_p0 rfl rfl 0 (by decide) (hts _ tw_247) (fun _ h9 => h9) (ft := vR 25) rfl dX8_lessBy_10 (fun u_2 hv_u_2 m_u_2 => ?_)
  obtain ⟨vu_2, rfl, h_vu_2⟩ := hv_u_2
  refine tg_getN (ci := 3) (ts := ty_POST) (C := RX3) (T := TX3) (N := 9) hx hb hts inX3 hown hK hw h_vu_2 rfl rfl 6 (by decide) (hSD.nest tn_217) (fun _ h9 => h9) (ft := vI (-2147483648) 2147483647) rfl dX8_lessBy_13 (fun u_3 hv_u_3 m_u_3 => ?_)
  obtain ⟨vu_3, rfl, r_vu_3⟩ := hv_u_3
  refine lv_isub hx hb dX8_lessBy_16 (lv_topi (fun v_4 e_v_4 => ?_))
  have r_v_4 := ri_any v_4
  refine tk_v (va_runV (As := [.int p1, .int p2, .int v_4]) (rest := []) ⟨hx, hb, hml, hown, hts⟩ (c_X8_put l D cy z H.size Ps w0 hw.1 p0 p1 p2 v_4 h_p0 r_p1 r_p2 r_v_4) (cwV 3 hts (gV tw_656 tw_482 tw_483 tw_12 tw_484) rfl rfl rfl (by decide +kernel) ⟨Nat.le_of_ble_eq_true rfl, Nat.le_of_ble_eq_true rfl⟩) (tg_preV hw hK hSD hA (ci := 8) (q := (RX8, TX8, 13)) rfl h_p0 rfl) rfl rfl hl.1 rfl (lv_room (Nat.le_of_ble_eq_true rfl)) dX8_lessBy_17 ⟨Nat.le_of_ble_eq_true rfl, Nat.le_of_ble_eq_true rfl⟩) hw hA ⟨by decide, by decide⟩ (fun ws H locs hp_v_5 hw hF9 => ?_)
  have m_u_3 := FLD.over hF9 m_u_3 (by decide)
  subst hQ
  exact W.vret hx hb hr (fun t ht hW => ⟨⟨ws, rfl, ⟨trivial, hw.1, hw.2.2.2.2.1⟩, by rw [ht]; exact hw.2.1, va_K.moved hW.alike hK, hw.2.2.1⟩, hw.2.2.2.1.F ht⟩) hw.2.2.2.1.2.2 dX8_lessBy_20
abbrev wr_X8_guessAt : List (Nat × Nat) := []
abbrev wa_X8_guessAt : List Nat := [8, 13]
set_option maxHeartbeats 4000000 in
set_option maxRecDepth 100000 in
theorem c_X8_guessAt (l : Launch) (D : va_G) (cy : Nat → ClassId) (z : Nat → Nat) (sz : Nat) (Ps : PSI) (w0 : va_W) (hT : HT cy GG Ps w0) (p0 : Nat) (p1 : Int32) (p2 : Int32) (h_p0 : (p0, 24) ∈ Ps) (r_p1 : RI p1 0 7) (r_p2 : RI p2 0 5) : Met l yX8_guessAt (Cond.code yX8_guessAt cX8_guessAt 4 (some .boolean) :: gT) ({ frames := 4, cells := 0, slots := 0, locals := 800 } : Room) (va_Pc [.ref p0, .int p1, .int p2] (PRE D cy z w0 sz)) (va_Qi (fun (r : Int32) (u : va_W) => (RI r 0 1 ∧ (r = 0 → True) ∧ (¬ r = 0 → True)) ∧ HT cy GG Ps u ∧ FR wr_X8_guessAt wa_X8_guessAt Ps w0 u) (BB D cy (va_A w0 sz) (fun (u : va_W) => u)) (va_A w0 sz)) 0 0 (va_A w0 sz) := by
  refine Met.ofW (cc := cX8_guessAt) (maxL := 4) (ret := (some .boolean)) (by decide) rfl ?_
  intro p e s m args below meth c s₁ B hml hv
  obtain ⟨rfl, hsz, hP, hK, hD0, hSD⟩ := hv
  have hx := B.exec
  have hb := B.bytes
  have hr := B.returns
  have hlocks := B.notSynchronized
  have hts : ∀ w ∈ gT, w.before _ s = true := fun w h => atoms_spec (ws := Cond.code yX8_guessAt cX8_guessAt 4 (some .boolean) :: gT) B.pre w (List.mem_cons_of_mem _ h)
  have hown : s.vm.findClass RX8 = some m.cls := findClass_of_methodNamed B.named
  subst hsz
  have hD := hD0.self (sz := s.heap.size)
  generalize hAe : va_A w0 s.heap.size = A at hD hSD ⊢
  have hA : ∀ q : Nat, s.heap.size ≤ q → A q := fun q h => by rw [← hAe]; exact Or.inr h
  have hl := lv_entry ([.ref p0, .int p1, .int p2]) (n := 4) (Nat.le_of_ble_eq_true rfl)
  rw [lg_entry_eq]
  generalize (lg_sl ([.ref p0, .int p1, .int p2]) ++ List.replicate (4 - (lg_sl ([.ref p0, .int p1, .int p2])).length) Slot.unset).toArray = ls at hl ⊢
  have hl : lv_has ls 4 [(0, .ref p0), (1, .int p1), (2, .int p2)] := hl
  refine nameQ (fun Q hQ => ?_)
  have hw : WD D cy GG A s wr_X8_guessAt wa_X8_guessAt Ps w0 Ps w0 s.heap [] := ⟨hT, hP, hD, va_S.rf, FR.rf, hT.1, [], (List.append_nil _).symm⟩
  refine lv_aload_n hx hb dX8_guessAt_0 rfl (lv_at hl 0 rfl) ?_
  refine tg_get (ci := 8) (ts := ty_WORLD) (C := RX8) (T := TX8) (N := 13) hx hb hts inX8 hown hK hw h_p0 rfl rfl 8 (by decide) (hts _ tw_268) (fun _ h9 => h9) (ft := vR 12) rfl dX8_guessAt_1 (fun u_1 hv_u_1 m_u_1 => ?_)
  obtain ⟨vu_1, rfl, h_vu_1⟩ := hv_u_1
  refine lv_iload_n hx hb dX8_guessAt_4 rfl (lv_at hl 1 rfl) ?_
  refine tg_iald (lo := (-1)) (hi := 5) hx hb hK hw h_vu_1 rfl 0 7 r_p1 (by decide) (by exact fun _ _ _ => ⟨Int.le_refl _, Int.le_refl _⟩) dX8_guessAt_5 (fun v_2 r_v_2 m_v_2 o_v_2 => ?_)
  refine lv_istore_n (lv' := [(3, .int v_2), (0, .ref p0), (1, .int p1), (2, .int p2)]) hx hb dX8_guessAt_6 rfl hl (by decide) rfl (fun ls hl => ?_)
  refine lv_iload_n hx hb dX8_guessAt_7 rfl (lv_at hl 0 rfl) ?_
  refine lv_iconst (v := (-1)) hx hb dX8_guessAt_8 (by decide) ?_
  refine lv_icmp_ne (tgt := 14) hx hb dX8_guessAt_9 (by decide) (fun c_9 => ?_) (fun c_9 => ?_)
  · have r_v_2 : RI v_2 0 5 := rc_neL r_v_2 rl_m1 (ti_ne c_9) (by decide)
    refine lv_aload_n hx hb dX8_guessAt_14 rfl (lv_at hl 1 rfl) ?_
    refine lv_iload_n hx hb dX8_guessAt_15 rfl (lv_at hl 0 rfl) ?_
    refine tk_ir (va_runV (As := [.int v_2]) (rest := []) ⟨hx, hb, hml, hown, hts⟩ (c_X8_isNow l D cy z s.heap.size Ps w0 hw.1 p0 v_2 h_p0 r_v_2) (cwV 1 hts (gV tw_569 tw_570 tw_571 tw_12 tw_572) rfl rfl rfl (by decide +kernel) ⟨Nat.le_of_ble_eq_true rfl, Nat.le_of_ble_eq_true rfl⟩) (tg_preV hw hK hSD hA (ci := 8) (q := (RX8, TX8, 13)) rfl h_p0 rfl) rfl rfl hl.1 rfl (lv_room (Nat.le_of_ble_eq_true rfl)) dX8_guessAt_16 ⟨Nat.le_of_ble_eq_true rfl, Nat.le_of_ble_eq_true rfl⟩) hw hA (fun v_3  H locs hp_v_3 hw => ?_)
    have r_v_3 : RI v_3 (-1) 5 := hp_v_3.1
    by_cases c9_v_3 : v_3.toInt < 0
    · have r_v_3 : RI v_3 (-1) (-1) := by unfold RI at r_v_3 ⊢; omega
      have x_NBQ_p0_v_2 := (hp_v_3.2.2.2.2.1 (by omega)).1
      refine lv_iload_n hx hb dX8_guessAt_19 rfl (lv_at hl 3 rfl) ?_
      refine lv_icmp_ne (tgt := 41) hx hb dX8_guessAt_20 (by decide) (fun c_20 => ?_) (fun c_20 => ?_)
      · refine lv_aload_n hx hb dX8_guessAt_41 rfl (lv_at hl 1 rfl) ?_
        refine lv_iload_n hx hb dX8_guessAt_42 rfl (lv_at hl 0 rfl) ?_
        refine lv_iload_n hx hb dX8_guessAt_43 rfl (lv_at hl 3 rfl) ?_
        refine lv_aload_n hx hb dX8_guessAt_44 rfl (lv_at hl 1 rfl) ?_
        refine lv_iload_n hx hb dX8_guessAt_45 rfl (lv_at hl 0 rfl) ?_
        refine lv_iload_n hx hb dX8_guessAt_46 rfl (lv_at hl 3 rfl) ?_
        refine tk_ir (va_runV (As := [.int v_2, .int p2]) (rest := [.int p2, .int v_2, .ref p0]) ⟨hx, hb, hml, hown, hts⟩ (c_X8_has l D cy z H.size Ps w0 hw.1 p0 v_2 p2 h_p0 r_v_2 r_p2) (cwV 2 hts (gV tw_597 tw_474 tw_475 tw_12 tw_476) rfl rfl rfl (by decide +kernel) ⟨Nat.le_of_ble_eq_true rfl, Nat.le_of_ble_eq_true rfl⟩) (tg_preV hw hK hSD hA (ci := 8) (q := (RX8, TX8, 13)) rfl h_p0 rfl) rfl rfl hl.1 rfl (lv_room (Nat.le_of_ble_eq_true rfl)) dX8_guessAt_47 ⟨Nat.le_of_ble_eq_true rfl, Nat.le_of_ble_eq_true rfl⟩) hw hA (fun v_4  H locs hp_v_4 hw => ?_)
        have r_v_4 : RI v_4 (-2147483648) 2147483647 := hp_v_4.1
        refine lv_iconst (v := 1) hx hb dX8_guessAt_50 (by decide) ?_
        refine lv_iadd hx hb dX8_guessAt_51 (lv_topi (fun v_5 e_v_5 => ?_))
        have r_v_5 := ri_any v_5
        refine tk_v (va_runV (As := [.int v_2, .int p2, .int v_5]) (rest := []) ⟨hx, hb, hml, hown, hts⟩ (c_X8_put l D cy z H.size Ps w0 hw.1 p0 v_2 p2 v_5 h_p0 r_v_2 r_p2 r_v_5) (cwV 3 hts (gV tw_656 tw_482 tw_483 tw_12 tw_484) rfl rfl rfl (by decide +kernel) ⟨Nat.le_of_ble_eq_true rfl, Nat.le_of_ble_eq_true rfl⟩) (tg_preV hw hK hSD hA (ci := 8) (q := (RX8, TX8, 13)) rfl h_p0 rfl) rfl rfl hl.1 rfl (lv_room (Nat.le_of_ble_eq_true rfl)) dX8_guessAt_52 ⟨Nat.le_of_ble_eq_true rfl, Nat.le_of_ble_eq_true rfl⟩) hw hA ⟨by decide, by decide⟩ (fun ws H locs hp_v_6 hw hF9 => ?_)
        refine lv_aload_n hx hb dX8_guessAt_55 rfl (lv_at hl 1 rfl) ?_
        refine tg_get (ci := 8) (ts := ty_WORLD) (C := RX8) (T := TX8) (N := 13) hx hb hts inX8 hown hK hw h_p0 rfl rfl 10 (by decide) (hts _ tw_273) (fun _ h9 => h9) (ft := vR 13) rfl dX8_guessAt_56 (fun u_7 hv_u_7 m_u_7 => ?_)
        obtain ⟨vu_7, rfl, h_vu_7⟩ := hv_u_7
        refine lv_iload_n hx hb dX8_guessAt_59 rfl (lv_at hl 2 rfl) ?_
        refine lv_dup2_11 hx hb dX8_guessAt_60 rfl rfl ?_
        refine tg_iald (lo := (-2147483648)) (hi := 2147483647) hx hb hK hw h_vu_7 rfl 0 7 r_p1 (by decide) (by exact fun _ _ _ => ⟨Int.le_refl _, Int.le_refl _⟩) dX8_guessAt_61 (fun v_8 r_v_8 m_v_8 o_v_8 => ?_)
        refine lv_iconst (v := 1) hx hb dX8_guessAt_62 (by decide) ?_
        refine lv_iadd hx hb dX8_guessAt_63 (lv_topi (fun v_9 e_v_9 => ?_))
        have r_v_9 := ri_any v_9
        refine tg_iast hx hb hK hw h_vu_7 rfl 0 7 r_p1 (by decide) r_v_9 (by exact fun _ _ _ => by decide) (fun _ _ _ _ _ => trivial) (by decide) dX8_guessAt_64 (fun ws H locs hw hF9 hU9 => ?_)
        refine lv_iconst (v := 0) hx hb dX8_guessAt_65 (by decide) ?_
        subst hQ
        exact W.zret (v := 0) hx hb hr (rfl) (fun t ht hW => ⟨⟨0, ws, rfl, ⟨⟨rl_0.to (by decide), (fun h0 => trivial), (fun _ => trivial)⟩, hw.1, hw.2.2.2.2.1⟩, by rw [ht]; exact hw.2.1, va_K.moved hW.alike hK, hw.2.2.1⟩, hw.2.2.2.1.F ht⟩) hw.2.2.2.1.2.2 dX8_guessAt_66
      · have r_v_3 : RI v_3 0 (-1) := rc_eq1 r_v_3 r_p2 (ti_eq c_20) (by decide)
        have r_p2 : RI p2 0 (-1) := rc_eq2 r_v_3 r_p2 (ti_eq c_20) (by decide)
        exact (r_v_3.no (by decide)).elim
    · have r_v_3 : RI v_3 0 5 := by unfold RI at r_v_3 ⊢; omega
      have x_WBQ_p0_v_2 := (hp_v_3.2.2.2.2.2 (by omega)).1
      refine lv_iload_n hx hb dX8_guessAt_19 rfl (lv_at hl 3 rfl) ?_
      refine lv_icmp_ne (tgt := 41) hx hb dX8_guessAt_20 (by decide) (fun c_20 => ?_) (fun c_20 => ?_)
      · refine lv_aload_n hx hb dX8_guessAt_41 rfl (lv_at hl 1 rfl) ?_
        refine lv_iload_n hx hb dX8_guessAt_42 rfl (lv_at hl 0 rfl) ?_
        refine lv_iload_n hx hb dX8_guessAt_43 rfl (lv_at hl 3 rfl) ?_
        refine lv_aload_n hx hb dX8_guessAt_44 rfl (lv_at hl 1 rfl) ?_
        refine lv_iload_n hx hb dX8_guessAt_45 rfl (lv_at hl 0 rfl) ?_
        refine lv_iload_n hx hb dX8_guessAt_46 rfl (lv_at hl 3 rfl) ?_
        refine tk_ir (va_runV (As := [.int v_2, .int p2]) (rest := [.int p2, .int v_2, .ref p0]) ⟨hx, hb, hml, hown, hts⟩ (c_X8_has l D cy z H.size Ps w0 hw.1 p0 v_2 p2 h_p0 r_v_2 r_p2) (cwV 2 hts (gV tw_597 tw_474 tw_475 tw_12 tw_476) rfl rfl rfl (by decide +kernel) ⟨Nat.le_of_ble_eq_true rfl, Nat.le_of_ble_eq_true rfl⟩) (tg_preV hw hK hSD hA (ci := 8) (q := (RX8, TX8, 13)) rfl h_p0 rfl) rfl rfl hl.1 rfl (lv_room (Nat.le_of_ble_eq_true rfl)) dX8_guessAt_47 ⟨Nat.le_of_ble_eq_true rfl, Nat.le_of_ble_eq_true rfl⟩) hw hA (fun v_10  H locs hp_v_10 hw => ?_)
        have r_v_10 : RI v_10 (-2147483648) 2147483647 := hp_v_10.1
        refine lv_iconst (v := 1) hx hb dX8_guessAt_50 (by decide) ?_
        refine lv_iadd hx hb dX8_guessAt_51 (lv_topi (fun v_11 e_v_11 => ?_))
        have r_v_11 := ri_any v_11
        refine tk_v (va_runV (As := [.int v_2, .int p2, .int v_11]) (rest := []) ⟨hx, hb, hml, hown, hts⟩ (c_X8_put l D cy z H.size Ps w0 hw.1 p0 v_2 p2 v_11 h_p0 r_v_2 r_p2 r_v_11) (cwV 3 hts (gV tw_656 tw_482 tw_483 tw_12 tw_484) rfl rfl rfl (by decide +kernel) ⟨Nat.le_of_ble_eq_true rfl, Nat.le_of_ble_eq_true rfl⟩) (tg_preV hw hK hSD hA (ci := 8) (q := (RX8, TX8, 13)) rfl h_p0 rfl) rfl rfl hl.1 rfl (lv_room (Nat.le_of_ble_eq_true rfl)) dX8_guessAt_52 ⟨Nat.le_of_ble_eq_true rfl, Nat.le_of_ble_eq_true rfl⟩) hw hA ⟨by decide, by decide⟩ (fun ws H locs hp_v_12 hw hF9 => ?_)
        refine lv_aload_n hx hb dX8_guessAt_55 rfl (lv_at hl 1 rfl) ?_
        refine tg_get (ci := 8) (ts := ty_WORLD) (C := RX8) (T := TX8) (N := 13) hx hb hts inX8 hown hK hw h_p0 rfl rfl 10 (by decide) (hts _ tw_273) (fun _ h9 => h9) (ft := vR 13) rfl dX8_guessAt_56 (fun u_13 hv_u_13 m_u_13 => ?_)
        obtain ⟨vu_13, rfl, h_vu_13⟩ := hv_u_13
        refine lv_iload_n hx hb dX8_guessAt_59 rfl (lv_at hl 2 rfl) ?_
        refine lv_dup2_11 hx hb dX8_guessAt_60 rfl rfl ?_
        refine tg_iald (lo := (-2147483648)) (hi := 2147483647) hx hb hK hw h_vu_13 rfl 0 7 r_p1 (by decide) (by exact fun _ _ _ => ⟨Int.le_refl _, Int.le_refl _⟩) dX8_guessAt_61 (fun v_14 r_v_14 m_v_14 o_v_14 => ?_)
        refine lv_iconst (v := 1) hx hb dX8_guessAt_62 (by decide) ?_
        refine lv_iadd hx hb dX8_guessAt_63 (lv_topi (fun v_15 e_v_15 => ?_))
        have r_v_15 := ri_any v_15
        refine tg_iast hx hb hK hw h_vu_13 rfl 0 7 r_p1 (by decide) r_v_15 (by exact fun _ _ _ => by decide) (fun _ _ _ _ _ => trivial) (by decide) dX8_guessAt_64 (fun ws H locs hw hF9 hU9 => ?_)
        refine lv_iconst (v := 0) hx hb dX8_guessAt_65 (by decide) ?_
        subst hQ
        exact W.zret (v := 0) hx hb hr (rfl) (fun t ht hW => ⟨⟨0, ws, rfl, ⟨⟨rl_0.to (by decide), (fun h0 => trivial), (fun _ => trivial)⟩, hw.1, hw.2.2.2.2.1⟩, by rw [ht]; exact hw.2.1, va_K.moved hW.alike hK, hw.2.2.1⟩, hw.2.2.2.1.F ht⟩) hw.2.2.2.1.2.2 dX8_guessAt_66
      · refine lv_aload_n hx hb dX8_guessAt_23 rfl (lv_at hl 1 rfl) ?_
        refine lv_iload_n hx hb dX8_guessAt_24 rfl (lv_at hl 0 rfl) ?_
        refine lv_iload_n hx hb dX8_guessAt_25 rfl (lv_at hl 3 rfl) ?_
        refine tk_v (va_runV (As := [.int v_2, .int p2]) (rest := []) ⟨hx, hb, hml, hown, hts⟩ (c_X8_lessBy l D cy z H.size Ps w0 hw.1 p0 v_2 p2 h_p0 r_v_2 r_p2) (cwV 2 hts (gV tw_652 tw_653 tw_654 tw_12 tw_655) rfl rfl rfl (by decide +kernel) ⟨Nat.le_of_ble_eq_true rfl, Nat.le_of_ble_eq_true rfl⟩) (tg_preV hw hK hSD hA (ci := 8) (q := (RX8, TX8, 13)) rfl h_p0 rfl) rfl rfl hl.1 rfl (lv_room (Nat.le_of_ble_eq_true rfl)) dX8_guessAt_26 ⟨Nat.le_of_ble_eq_true rfl, Nat.le_of_ble_eq_true rfl⟩) hw hA ⟨by decide, by decide⟩ (fun ws H locs hp_v_16 hw hF9 => ?_)
        refine lv_aload_n hx hb dX8_guessAt_29 rfl (lv_at hl 1 rfl) ?_
        refine tg_get (ci := 8) (ts := ty_WORLD) (C := RX8) (T := TX8) (N := 13) hx hb hts inX8 hown hK hw h_p0 rfl rfl 9 (by decide) (hts _ tw_271) (fun _ h9 => h9) (ft := vR 13) rfl dX8_guessAt_30 (fun u_17 hv_u_17 m_u_17 => ?_)
        obtain ⟨vu_17, rfl, h_vu_17⟩ := hv_u_17
        refine lv_iload_n hx hb dX8_guessAt_33 rfl (lv_at hl 2 rfl) ?_
        refine lv_dup2_11 hx hb dX8_guessAt_34 rfl rfl ?_
        refine tg_iald (lo := (-2147483648)) (hi := 2147483647) hx hb hK hw h_vu_17 rfl 0 7 r_p1 (by decide) (by exact fun _ _ _ => ⟨Int.le_refl _, Int.le_refl _⟩) dX8_guessAt_35 (fun v_18 r_v_18 m_v_18 o_v_18 => ?_)
        refine lv_iconst (v := 1) hx hb dX8_guessAt_36 (by decide) ?_
        refine lv_iadd hx hb dX8_guessAt_37 (lv_topi (fun v_19 e_v_19 => ?_))
        have r_v_19 := ri_any v_19
        refine tg_iast hx hb hK hw h_vu_17 rfl 0 7 r_p1 (by decide) r_v_19 (by exact fun _ _ _ => by decide) (fun _ _ _ _ _ => trivial) (by decide) dX8_guessAt_38 (fun ws H locs hw hF9 hU9 => ?_)
        refine lv_iconst (v := 1) hx hb dX8_guessAt_39 (by decide) ?_
        subst hQ
        exact W.zret (v := 1) hx hb hr (rfl) (fun t ht hW => ⟨⟨1, ws, rfl, ⟨⟨rl_1.to (by decide), (fun _ => trivial), (fun h0 => trivial)⟩, hw.1, hw.2.2.2.2.1⟩, by rw [ht]; exact hw.2.1, va_K.moved hW.alike hK, hw.2.2.1⟩, hw.2.2.2.1.F ht⟩) hw.2.2.2.1.2.2 dX8_guessAt_40
  · have r_v_2 : RI v_2 (-1) (-1) := rc_eq1 r_v_2 rl_m1 (ti_eq c_9) (by decide)
    refine lv_iconst (v := 0) hx hb dX8_guessAt_12 (by decide) ?_
    subst hQ
    exact W.zret (v := 0) hx hb hr (rfl) (fun t ht hW => ⟨⟨0, w0, rfl, ⟨⟨rl_0.to (by decide), (fun h0 => trivial), (fun _ => trivial)⟩, hw.1, hw.2.2.2.2.1⟩, by rw [ht]; exact hw.2.1, va_K.moved hW.alike hK, hw.2.2.1⟩, hw.2.2.2.1.F ht⟩) hw.2.2.2.1.2.2 dX8_guessAt_13
abbrev wr_X8_openUp : List (Nat × Nat) := []
abbrev wa_X8_openUp : List Nat := [10]
set_option maxHeartbeats 4000000 in
set_option maxRecDepth 100000 in
theorem c_X8_openUp (l : Launch) (D : va_G) (cy : Nat → ClassId) (z : Nat → Nat) (sz : Nat) (Ps : PSI) (w0 : va_W) (hT : HT cy GG Ps w0) (p0 : Nat) (p1 : Int32) (h_p0 : (p0, 24) ∈ Ps) (r_p1 : RI p1 0 5) : Met l yX8_openUp (Cond.code yX8_openUp cX8_openUp 2 (some .int) :: gT) ({ frames := 2, cells := 0, slots := 0, locals := 400 } : Room) (va_Pc [.ref p0, .int p1] (PRE D cy z w0 sz)) (va_Qi (fun (r : Int32) (u : va_W) => (RI r 0 1 ∧ (r = 0 → True) ∧ (¬ r = 0 → True)) ∧ HT cy GG Ps u ∧ FR wr_X8_openUp wa_X8_openUp Ps w0 u) (BB D cy (va_A w0 sz) (fun (u : va_W) => u)) (va_A w0 sz)) 0 0 (va_A w0 sz) := by
  refine Met.ofW (cc := cX8_openUp) (maxL := 2) (ret := (some .int)) (by decide) rfl ?_
  intro p e s m args below meth c s₁ B hml hv
  obtain ⟨rfl, hsz, hP, hK, hD0, hSD⟩ := hv
  have hx := B.exec
  have hb := B.bytes
  have hr := B.returns
  have hlocks := B.notSynchronized
  have hts : ∀ w ∈ gT, w.before _ s = true := fun w h => atoms_spec (ws := Cond.code yX8_openUp cX8_openUp 2 (some .int) :: gT) B.pre w (List.mem_cons_of_mem _ h)
  have hown : s.vm.findClass RX8 = some m.cls := findClass_of_methodNamed B.named
  subst hsz
  have hD := hD0.self (sz := s.heap.size)
  generalize hAe : va_A w0 s.heap.size = A at hD hSD ⊢
  have hA : ∀ q : Nat, s.heap.size ≤ q → A q := fun q h => by rw [← hAe]; exact Or.inr h
  have hl := lv_entry ([.ref p0, .int p1]) (n := 2) (Nat.le_of_ble_eq_true rfl)
  rw [lg_entry_eq]
  generalize (lg_sl ([.ref p0, .int p1]) ++ List.replicate (2 - (lg_sl ([.ref p0, .int p1])).length) Slot.unset).toArray = ls at hl ⊢
  have hl : lv_has ls 2 [(0, .ref p0), (1, .int p1)] := hl
  refine nameQ (fun Q hQ => ?_)
  have hw : WD D cy GG A s wr_X8_openUp wa_X8_openUp Ps w0 Ps w0 s.heap [] := ⟨hT, hP, hD, va_S.rf, FR.rf, hT.1, [], (List.append_nil _).symm⟩
  refine lv_aload_n hx hb dX8_openUp_0 rfl (lv_at hl 0 rfl) ?_
  refine lv_iload_n hx hb dX8_openUp_1 rfl (lv_at hl 1 rfl) ?_
  refine tk_ir (va_runV (As := [.int p1]) (rest := []) ⟨hx, hb, hml, hown, hts⟩ (c_X8_isOpen l D cy z s.heap.size Ps w0 hw.1 p0 p1 h_p0 r_p1) (cwV 1 hts (gV tw_561 tw_562 tw_563 tw_12 tw_564) rfl rfl rfl (by decide +kernel) ⟨Nat.le_of_ble_eq_true rfl, Nat.le_of_ble_eq_true rfl⟩) (tg_preV hw hK hSD hA (ci := 8) (q := (RX8, TX8, 13)) rfl h_p0 rfl) rfl rfl hl.1 rfl (lv_room (Nat.le_of_ble_eq_true rfl)) dX8_openUp_2 ⟨Nat.le_of_ble_eq_true rfl, Nat.le_of_ble_eq_true rfl⟩) hw hA (fun v_1  H locs hp_v_1 hw => ?_)
  have r_v_1 : RI v_1 0 1 := hp_v_1.1
  refine lv_if_eq (tgt := 10) hx hb dX8_openUp_5 (by decide) (fun c_5 => ?_) (fun c_5 => ?_)
  · have r_v_1 : RI v_1 0 0 := rc_eq1 r_v_1 rl_0 (ti_eq c_5) (by decide)
    refine lv_aload_n hx hb dX8_openUp_10 rfl (lv_at hl 0 rfl) ?_
    refine tg_get (ci := 8) (ts := ty_WORLD) (C := RX8) (T := TX8) (N := 13) hx hb hts inX8 hown hK hw h_p0 rfl rfl 5 (by decide) (hts _ tw_260) (fun _ h9 => h9) (ft := vR 10) rfl dX8_openUp_11 (fun u_2 hv_u_2 m_u_2 => ?_)
    obtain ⟨vu_2, rfl, h_vu_2⟩ := hv_u_2
    refine lv_iload_n hx hb dX8_openUp_14 rfl (lv_at hl 1 rfl) ?_
    refine lv_iconst (v := 1) hx hb dX8_openUp_15 (by decide) ?_
    refine tg_iast hx hb hK hw h_vu_2 rfl 0 5 r_p1 (by decide) rl_1 (by exact fun _ _ _ => by decide) (fun _ _ _ _ _ => trivial) (by decide) dX8_openUp_16 (fun ws H locs hw hF9 hU9 => ?_)
    refine lv_iconst (v := 0) hx hb dX8_openUp_17 (by decide) ?_
    subst hQ
    exact W.iret (v := 0) hx hb hr (fun t ht hW => ⟨⟨0, ws, rfl, ⟨⟨rl_0.to (by decide), (fun h0 => trivial), (fun _ => trivial)⟩, hw.1, hw.2.2.2.2.1⟩, by rw [ht]; exact hw.2.1, va_K.moved hW.alike hK, hw.2.2.1⟩, hw.2.2.2.1.F ht⟩) hw.2.2.2.1.2.2 dX8_openUp_18
  · have r_v_1 : RI v_1 1 1 := rc_neL r_v_1 rl_0 (ti_ne c_5) (by decide)
    refine lv_iconst (v := 1) hx hb dX8_openUp_8 (by decide) ?_
    subst hQ
    exact W.iret (v := 1) hx hb hr (fun t ht hW => ⟨⟨1, w0, rfl, ⟨⟨rl_1.to (by decide), (fun _ => trivial), (fun h0 => trivial)⟩, hw.1, hw.2.2.2.2.1⟩, by rw [ht]; exact hw.2.1, va_K.moved hW.alike hK, hw.2.2.1⟩, hw.2.2.2.1.F ht⟩) hw.2.2.2.1.2.2 dX8_openUp_9
abbrev wr_X8_seatJust : List (Nat × Nat) := []
abbrev wa_X8_seatJust : List Nat := [12]
set_option maxHeartbeats 4000000 in
set_option maxRecDepth 100000 in
theorem c_X8_seatJust (l : Launch) (D : va_G) (cy : Nat → ClassId) (z : Nat → Nat) (sz : Nat) (Ps : PSI) (w0 : va_W) (hT : HT cy GG Ps w0) (p0 : Nat) (p1 : Int32) (p2 : Int32) (p3 : Nat) (h_p0 : (p0, 24) ∈ Ps) (r_p1 : RI p1 (-2147483648) 2147483647) (r_p2 : RI p2 0 5) (h_p3 : (p3, 24) ∈ Ps) : Met l yX8_seatJust (Cond.code yX8_seatJust cX8_seatJust 5 none :: gT) ({ frames := 0, cells := 0, slots := 0, locals := 200 } : Room) (va_Pc [.ref p0, .int p1, .int p2, .ref p3] (PRE D cy z w0 sz)) (va_Qv (fun (u : va_W) => (True) ∧ HT cy GG Ps u ∧ FR wr_X8_seatJust wa_X8_seatJust Ps w0 u) (BB D cy (va_A w0 sz) (fun (u : va_W) => u)) (va_A w0 sz)) 0 0 (va_A w0 sz) := by
  refine Met.ofW (cc := cX8_seatJust) (maxL := 5) (ret := none) (by decide) rfl ?_
  intro p e s m args below meth c s₁ B hml hv
  obtain ⟨rfl, hsz, hP, hK, hD0, hSD⟩ := hv
  have hx := B.exec
  have hb := B.bytes
  have hr := B.returns
  have hlocks := B.notSynchronized
  have hts : ∀ w ∈ gT, w.before _ s = true := fun w h => atoms_spec (ws := Cond.code yX8_seatJust cX8_seatJust 5 none :: gT) B.pre w (List.mem_cons_of_mem _ h)
  have hown : s.vm.findClass RX8 = some m.cls := findClass_of_methodNamed B.named
  subst hsz
  have hD := hD0.self (sz := s.heap.size)
  generalize hAe : va_A w0 s.heap.size = A at hD hSD ⊢
  have hA : ∀ q : Nat, s.heap.size ≤ q → A q := fun q h => by rw [← hAe]; exact Or.inr h
  have hl := lv_entry ([.ref p0, .int p1, .int p2, .ref p3]) (n := 5) (Nat.le_of_ble_eq_true rfl)
  rw [lg_entry_eq]
  generalize (lg_sl ([.ref p0, .int p1, .int p2, .ref p3]) ++ List.replicate (5 - (lg_sl ([.ref p0, .int p1, .int p2, .ref p3])).length) Slot.unset).toArray = ls at hl ⊢
  have hl : lv_has ls 5 [(0, .ref p0), (1, .int p1), (2, .int p2), (3, .ref p3)] := hl
  refine nameQ (fun Q hQ => ?_)
  have hw : WD D cy GG A s wr_X8_seatJust wa_X8_seatJust Ps w0 Ps w0 s.heap [] := ⟨hT, hP, hD, va_S.rf, FR.rf, hT.1, [], (List.append_nil _).symm⟩
  have B3 : ∀ (nf : Nat) (x4 : Int32) (ws : va_W) (H : Heap) (locs : List Loc) (ls : Array Slot), 8 - x4.toInt < (nf : Int) → RI p1 (-2147483648) 2147483647 → RI p2 0 5 → RI x4 0 8 → WD D cy GG A s wr_X8_seatJust wa_X8_seatJust Ps w0 Ps ws H locs → lv_has ls 5 [(0, .ref p0), (1, .int p1), (2, .int p2), (3, .ref p3), (4, .int x4)] → W p l e (headSpec (Cond.code yX8_seatJust cX8_seatJust 5 none :: gT) ({ frames := 0, cells := 0, slots := 0, locals := 200 } : Room)).room s m ([.ref p0, .int p1, .int p2, .ref p3] : List Value).toArray below meth c H locs 0 0 Q (F0 m 3 ls []) := by
    intro nf3
    induction nf3 with
    | zero =>
      intro x4 ws H locs ls hn3 r_p1 r_p2 r_x4 hw hl
      exact absurd hn3 (by have q0 := r_x4.1; have u0 := r_x4.2; omega)
    | succ nf3 ih3 =>
      have B65 : ∀ (x4 : Int32) (y0 : Int32) (y1 : Int32) (y2 : Nat) (ws : va_W) (H : Heap) (locs : List Loc) (ls : Array Slot), RI p1 (-2147483648) 2147483647 → RI p2 0 5 → RI x4 0 7 → RI y0 (-1) 5 → RI y1 0 7 → (y2, 12) ∈ Ps → 8 - x4.toInt < ((nf3 + 1 : Nat) : Int) → WD D cy GG A s wr_X8_seatJust wa_X8_seatJust Ps w0 Ps ws H locs → lv_has ls 5 [(0, .ref p0), (1, .int p1), (2, .int p2), (3, .ref p3), (4, .int x4)] → W p l e (headSpec (Cond.code yX8_seatJust cX8_seatJust 5 none :: gT) ({ frames := 0, cells := 0, slots := 0, locals := 200 } : Room)).room s m ([.ref p0, .int p1, .int p2, .ref p3] : List Value).toArray below meth c H locs 0 0 Q (F0 m 65 ls [.int y0, .int y1, .ref y2]) := by
        intro x4 y0 y1 y2 ws H locs ls r_p1 r_p2 r_x4 r_y0 r_y1 h_y2 hn3 hw hl
        refine tg_iast hx hb hK hw h_y2 rfl 0 7 r_y1 (by decide) r_y0 (by exact fun _ _ _ => by decide) (fun _ _ _ _ _ => trivial) (by decide) dX8_seatJust_65 (fun ws H locs hw hF9 hU9 => ?_)
        obtain ⟨v_1, e_v_1⟩ : ∃ q9 : Int32, q9 = x4 + Int32.ofInt 1 := ⟨_, rfl⟩
        obtain ⟨t_v_1, r_v_1⟩ := tq_add (lo := 1) (hi := 8) r_x4 (show RI (Int32.ofInt 1) 1 1 by unfold RI; decide +kernel) (by decide +kernel) e_v_1
        have t_v_1 : v_1.toInt = x4.toInt + 1 := t_v_1
        refine lv_iinc (v := v_1) (lv' := [(4, .int v_1), (0, .ref p0), (1, .int p1), (2, .int p2), (3, .ref p3)]) hx hb dX8_seatJust_66 hl (k := 4) rfl e_v_1.symm (by decide) rfl (fun ls hl => ?_)
        refine lv_goto (tgt := 3) hx hb dX8_seatJust_69 (by decide) ?_
        exact ih3 v_1 ws _ _ ls (by have q0 := r_v_1.1; have u0 := r_v_1.2; have o0 := r_x4.1; have p0 := r_x4.2; omega) r_p1 r_p2 (r_v_1.to (by decide)) hw (lv_sub hl [1, 2, 3, 4, 0] rfl)
      intro x4 ws H locs ls hn3 r_p1 r_p2 r_x4 hw hl
      refine lv_iload hx hb dX8_seatJust_3 (lv_at hl 4 rfl) ?_
      refine lv_aload_n hx hb dX8_seatJust_5 rfl (lv_at hl 0 rfl) ?_
      refine tg_get (ci := 8) (ts := ty_WORLD) (C := RX8) (T := TX8) (N := 13) hx hb hts inX8 hown hK hw h_p0 rfl rfl 0 (by decide) (hts _ tw_247) (fun _ h9 => h9) (ft := vR 25) rfl dX8_seatJust_6 (fun u_2 hv_u_2 m_u_2 => ?_)
      obtain ⟨vu_2, rfl, h_vu_2⟩ := hv_u_2
      refine tg_getN (ci := 3) (ts := ty_POST) (C := RX3) (T := TX3) (N := 9) hx hb hts inX3 hown hK hw h_vu_2 rfl rfl 1 (by decide) (hSD.nest tn_203) (fun _ h9 => h9) (ft := vR 4) rfl dX8_seatJust_9 (fun u_3 hv_u_3 m_u_3 => ?_)
      obtain ⟨vu_3, rfl, h_vu_3⟩ := hv_u_3
      refine lv_iconst (v := 3) hx hb dX8_seatJust_12 (by decide) ?_
      refine tg_iald (lo := 0) (hi := 8) hx hb hK hw h_vu_3 rfl 3 3 rl_3 (by decide) (by decide +kernel) dX8_seatJust_13 (fun v_4 r_v_4 m_v_4 o_v_4 => ?_)
      refine lv_icmp_ge (tgt := 72) hx hb dX8_seatJust_14 (by decide) (fun c_14 => ?_) (fun c_14 => ?_)
      · subst hQ
        exact W.vret hx hb hr (fun t ht hW => ⟨⟨ws, rfl, ⟨trivial, hw.1, hw.2.2.2.2.1⟩, by rw [ht]; exact hw.2.1, va_K.moved hW.alike hK, hw.2.2.1⟩, hw.2.2.2.1.F ht⟩) hw.2.2.2.1.2.2 dX8_seatJust_72
      · have r_x4 : RI x4 0 7 := rc_lt1 r_x4 r_v_4 (ti_nle c_14) (by decide)
        have r_v_4 : RI v_4 1 8 := rc_lt2 r_x4 r_v_4 (ti_nle c_14) (by decide)
        refine lv_iload_n hx hb dX8_seatJust_17 rfl (lv_at hl 1 rfl) ?_
        refine lv_iload hx hb dX8_seatJust_18 (lv_at hl 4 rfl) ?_
        refine lv_ishr hx hb dX8_seatJust_20 (lv_topi (fun v_5 e_v_5 => ?_))
        have r_v_5 := ri_any v_5
        refine lv_iconst (v := 1) hx hb dX8_seatJust_21 (by decide) ?_
        refine lv_iand hx hb dX8_seatJust_22 (lv_topi (fun v_6 e_v_6 => ?_))
        have r_v_6 : RI v_6 0 1 := by rw [e_v_6]; exact ri_and (d := 1) (rl_1.to (by decide)) (by decide)
        refine lv_if_eq (tgt := 37) hx hb dX8_seatJust_23 (by decide) (fun c_23 => ?_) (fun c_23 => ?_)
        · have r_v_6 : RI v_6 0 0 := rc_eq1 r_v_6 rl_0 (ti_eq c_23) (by decide)
          refine lv_aload_n hx hb dX8_seatJust_37 rfl (lv_at hl 0 rfl) ?_
          refine tg_get (ci := 8) (ts := ty_WORLD) (C := RX8) (T := TX8) (N := 13) hx hb hts inX8 hown hK hw h_p0 rfl rfl 8 (by decide) (hts _ tw_268) (fun _ h9 => h9) (ft := vR 12) rfl dX8_seatJust_38 (fun u_7 hv_u_7 m_u_7 => ?_)
          obtain ⟨vu_7, rfl, h_vu_7⟩ := hv_u_7
          refine lv_iload hx hb dX8_seatJust_41 (lv_at hl 4 rfl) ?_
          refine lv_aload_n hx hb dX8_seatJust_43 rfl (lv_at hl 3 rfl) ?_
          refine tg_get (ci := 8) (ts := ty_WORLD) (C := RX8) (T := TX8) (N := 13) hx hb hts inX8 hown hK hw h_p3 rfl rfl 8 (by decide) (hts _ tw_268) (fun _ h9 => h9) (ft := vR 12) rfl dX8_seatJust_44 (fun u_8 hv_u_8 m_u_8 => ?_)
          obtain ⟨vu_8, rfl, h_vu_8⟩ := hv_u_8
          refine lv_iload hx hb dX8_seatJust_47 (lv_at hl 4 rfl) ?_
          refine tg_iald (lo := (-1)) (hi := 5) hx hb hK hw h_vu_8 rfl 0 7 r_x4 (by decide) (by exact fun _ _ _ => ⟨Int.le_refl _, Int.le_refl _⟩) dX8_seatJust_49 (fun v_9 r_v_9 m_v_9 o_v_9 => ?_)
          refine lv_iload_n hx hb dX8_seatJust_50 rfl (lv_at hl 2 rfl) ?_
          refine lv_icmp_ne (tgt := 58) hx hb dX8_seatJust_51 (by decide) (fun c_51 => ?_) (fun c_51 => ?_)
          · refine lv_aload_n hx hb dX8_seatJust_58 rfl (lv_at hl 3 rfl) ?_
            refine tg_mem (ci := 8) (C := RX8) (T := TX8) (N := 13) hx hb hts inX8 hown hK hw 8 m_u_8 rfl (by decide) (hts _ tw_268) (fun _ h9 => h9) dX8_seatJust_59 ?_
            refine lv_iload hx hb dX8_seatJust_62 (lv_at hl 4 rfl) ?_
            refine tg_imem hx hb hK hw h_vu_8 rfl r_x4 (by decide) m_v_9 dX8_seatJust_64 ?_
            exact B65 x4 v_9 x4 vu_7 ws _ _ ls r_p1 r_p2 r_x4 r_v_9 r_x4 h_vu_7 (by have q0 := r_x4.1; have u0 := r_x4.2; omega) hw hl
          · have r_v_9 : RI v_9 0 5 := rc_eq1 r_v_9 r_p2 (ti_eq c_51) (by decide)
            refine lv_iconst (v := (-1)) hx hb dX8_seatJust_54 (by decide) ?_
            refine lv_goto (tgt := 65) hx hb dX8_seatJust_55 (by decide) ?_
            exact B65 x4 (-1) x4 vu_7 ws _ _ ls r_p1 r_p2 r_x4 (rl_m1.to (by decide)) r_x4 h_vu_7 (by have q0 := r_x4.1; have u0 := r_x4.2; omega) hw hl
        · have r_v_6 : RI v_6 1 1 := rc_neL r_v_6 rl_0 (ti_ne c_23) (by decide)
          refine lv_aload_n hx hb dX8_seatJust_26 rfl (lv_at hl 0 rfl) ?_
          refine tg_get (ci := 8) (ts := ty_WORLD) (C := RX8) (T := TX8) (N := 13) hx hb hts inX8 hown hK hw h_p0 rfl rfl 8 (by decide) (hts _ tw_268) (fun _ h9 => h9) (ft := vR 12) rfl dX8_seatJust_27 (fun u_11 hv_u_11 m_u_11 => ?_)
          obtain ⟨vu_11, rfl, h_vu_11⟩ := hv_u_11
          refine lv_iload hx hb dX8_seatJust_30 (lv_at hl 4 rfl) ?_
          refine lv_iload_n hx hb dX8_seatJust_32 rfl (lv_at hl 2 rfl) ?_
          refine tg_iast hx hb hK hw h_vu_11 rfl 0 7 r_x4 (by decide) r_p2 (by exact fun _ _ _ => by decide) (fun _ _ _ _ _ => trivial) (by decide) dX8_seatJust_33 (fun ws H locs hw hF9 hU9 => ?_)
          refine lv_goto (tgt := 66) hx hb dX8_seatJust_34 (by decide) ?_
          obtain ⟨v_12, e_v_12⟩ : ∃ q9 : Int32, q9 = x4 + Int32.ofInt 1 := ⟨_, rfl⟩
          obtain ⟨t_v_12, r_v_12⟩ := tq_add (lo := 1) (hi := 8) r_x4 (show RI (Int32.ofInt 1) 1 1 by unfold RI; decide +kernel) (by decide +kernel) e_v_12
          have t_v_12 : v_12.toInt = x4.toInt + 1 := t_v_12
          refine lv_iinc (v := v_12) (lv' := [(4, .int v_12), (0, .ref p0), (1, .int p1), (2, .int p2), (3, .ref p3)]) hx hb dX8_seatJust_66 hl (k := 4) rfl e_v_12.symm (by decide) rfl (fun ls hl => ?_)
          refine lv_goto (tgt := 3) hx hb dX8_seatJust_69 (by decide) ?_
          exact ih3 v_12 ws _ _ ls (by have q0 := r_v_12.1; have u0 := r_v_12.2; have o0 := r_x4.1; have p0 := r_x4.2; omega) r_p1 r_p2 (r_v_12.to (by decide)) hw (lv_sub hl [1, 2, 3, 4, 0] rfl)
  refine lv_iconst (v := 0) hx hb dX8_seatJust_0 (by decide) ?_
  refine lv_istore (lv' := [(4, .int 0), (0, .ref p0), (1, .int p1), (2, .int p2), (3, .ref p3)]) hx hb dX8_seatJust_1 hl (by decide) rfl (fun ls hl => ?_)
  exact B3 4294967298 0 w0 _ _ ls (by have q0 := rl_0.1; have u0 := rl_0.2; omega) r_p1 r_p2 (rl_0.to (by decide)) hw (lv_sub hl [1, 2, 3, 4, 0] rfl)
abbrev wr_X8_settle : List (Nat × Nat) := []
abbrev wa_X8_settle : List Nat := [12, 14]
set_option maxHeartbeats 4000000 in
set_option maxRecDepth 100000 in
theorem c_X8_settle (l : Launch) (D : va_G) (cy : Nat → ClassId) (z : Nat → Nat) (sz : Nat) (Ps : PSI) (w0 : va_W) (hT : HT cy GG Ps w0) (p0 : Nat) (p1 : Int32) (h_p0 : (p0, 24) ∈ Ps) (r_p1 : RI p1 0 7) : Met l yX8_settle (Cond.code yX8_settle cX8_settle 8 none :: gT) ({ frames := 3, cells := 0, slots := 0, locals := 600 } : Room) (va_Pc [.ref p0, .int p1] (PRE D cy z w0 sz)) (va_Qv (fun (u : va_W) => (True) ∧ HT cy GG Ps u ∧ FR wr_X8_settle wa_X8_settle Ps w0 u) (BB D cy (va_A w0 sz) (fun (u : va_W) => u)) (va_A w0 sz)) 0 0 (va_A w0 sz) := by
  refine Met.ofW (cc := cX8_settle) (maxL := 8) (ret := none) (by decide) rfl ?_
  intro p e s m args below meth c s₁ B hml hv
  obtain ⟨rfl, hsz, hP, hK, hD0, hSD⟩ := hv
  have hx := B.exec
  have hb := B.bytes
  have hr := B.returns
  have hlocks := B.notSynchronized
  have hts : ∀ w ∈ gT, w.before _ s = true := fun w h => atoms_spec (ws := Cond.code yX8_settle cX8_settle 8 none :: gT) B.pre w (List.mem_cons_of_mem _ h)
  have hown : s.vm.findClass RX8 = some m.cls := findClass_of_methodNamed B.named
  subst hsz
  have hD := hD0.self (sz := s.heap.size)
  generalize hAe : va_A w0 s.heap.size = A at hD hSD ⊢
  have hA : ∀ q : Nat, s.heap.size ≤ q → A q := fun q h => by rw [← hAe]; exact Or.inr h
  have hl := lv_entry ([.ref p0, .int p1]) (n := 8) (Nat.le_of_ble_eq_true rfl)
  rw [lg_entry_eq]
  generalize (lg_sl ([.ref p0, .int p1]) ++ List.replicate (8 - (lg_sl ([.ref p0, .int p1])).length) Slot.unset).toArray = ls at hl ⊢
  have hl : lv_has ls 8 [(0, .ref p0), (1, .int p1)] := hl
  refine nameQ (fun Q hQ => ?_)
  have hw : WD D cy GG A s wr_X8_settle wa_X8_settle Ps w0 Ps w0 s.heap [] := ⟨hT, hP, hD, va_S.rf, FR.rf, hT.1, [], (List.append_nil _).symm⟩
  have B15 : ∀ (nf : Nat) (x2 : Int32) (x3 : Int32) (x4 : Int32) (x5 : Int32) (ws : va_W) (H : Heap) (locs : List Loc) (ls : Array Slot), 6 - x5.toInt < (nf : Int) → RI p1 0 7 → RI x2 (-1) 5 → RI x3 (-1) 5 → RI x4 (-1) 99 → RI x5 0 6 → WD D cy GG A s wr_X8_settle wa_X8_settle Ps w0 Ps ws H locs → lv_has ls 8 [(0, .ref p0), (1, .int p1), (2, .int x2), (3, .int x3), (4, .int x4), (5, .int x5)] → W p l e (headSpec (Cond.code yX8_settle cX8_settle 8 none :: gT) ({ frames := 3, cells := 0, slots := 0, locals := 600 } : Room)).room s m ([.ref p0, .int p1] : List Value).toArray below meth c H locs 0 0 Q (F0 m 15 ls []) := by
    intro nf15
    induction nf15 with
    | zero =>
      intro x2 x3 x4 x5 ws H locs ls hn15 r_p1 r_x2 r_x3 r_x4 r_x5 hw hl
      exact absurd hn15 (by have q0 := r_x5.1; have u0 := r_x5.2; omega)
    | succ nf15 ih15 =>
      have B125 : ∀ (x2 : Int32) (x3 : Int32) (x4 : Int32) (x5 : Int32) (x6 : Int32) (x7 : Int32) (ws : va_W) (H : Heap) (locs : List Loc) (ls : Array Slot), RI p1 0 7 → RI x2 (-1) 5 → RI x3 (-1) 5 → RI x4 (-1) 99 → RI x5 0 5 → RI x6 0 1 → RI x7 (-1) 99 → 6 - x5.toInt < ((nf15 + 1 : Nat) : Int) → WD D cy GG A s wr_X8_settle wa_X8_settle Ps w0 Ps ws H locs → lv_has ls 8 [(0, .ref p0), (1, .int p1), (2, .int x2), (3, .int x3), (4, .int x4), (5, .int x5), (6, .int x6), (7, .int x7)] → W p l e (headSpec (Cond.code yX8_settle cX8_settle 8 none :: gT) ({ frames := 3, cells := 0, slots := 0, locals := 600 } : Room)).room s m ([.ref p0, .int p1] : List Value).toArray below meth c H locs 0 0 Q (F0 m 125 ls []) := by
        intro x2 x3 x4 x5 x6 x7 ws H locs ls r_p1 r_x2 r_x3 r_x4 r_x5 r_x6 r_x7 hn15 hw hl
        refine lv_iload hx hb dX8_settle_125 (lv_at hl 5 rfl) ?_
        refine lv_istore_n (lv' := [(3, .int x5), (0, .ref p0), (1, .int p1), (2, .int x2), (4, .int x4), (5, .int x5), (6, .int x6), (7, .int x7)]) hx hb dX8_settle_127 rfl hl (by decide) rfl (fun ls hl => ?_)
        refine lv_iload hx hb dX8_settle_128 (lv_at hl 7 rfl) ?_
        refine lv_istore (lv' := [(4, .int x7), (3, .int x5), (0, .ref p0), (1, .int p1), (2, .int x2), (5, .int x5), (6, .int x6), (7, .int x7)]) hx hb dX8_settle_130 hl (by decide) rfl (fun ls hl => ?_)
        obtain ⟨v_1, e_v_1⟩ : ∃ q9 : Int32, q9 = x5 + Int32.ofInt 1 := ⟨_, rfl⟩
        obtain ⟨t_v_1, r_v_1⟩ := tq_add (lo := 1) (hi := 6) r_x5 (show RI (Int32.ofInt 1) 1 1 by unfold RI; decide +kernel) (by decide +kernel) e_v_1
        have t_v_1 : v_1.toInt = x5.toInt + 1 := t_v_1
        refine lv_iinc (v := v_1) (lv' := [(5, .int v_1), (4, .int x7), (3, .int x5), (0, .ref p0), (1, .int p1), (2, .int x2), (6, .int x6), (7, .int x7)]) hx hb dX8_settle_132 hl (k := 5) rfl e_v_1.symm (by decide) rfl (fun ls hl => ?_)
        refine lv_goto (tgt := 15) hx hb dX8_settle_135 (by decide) ?_
        exact ih15 x2 x5 x7 v_1 ws _ _ ls (by have q0 := r_v_1.1; have u0 := r_v_1.2; have o0 := r_x5.1; have p0 := r_x5.2; omega) r_p1 r_x2 (r_x5.to (by decide)) r_x7 (r_v_1.to (by decide)) hw (lv_sub hl [3, 4, 5, 2, 1, 0] rfl)
      have B103 : ∀ (x2 : Int32) (x3 : Int32) (x4 : Int32) (x5 : Int32) (x6 : Int32) (y0 : Int32) (ws : va_W) (H : Heap) (locs : List Loc) (ls : Array Slot), RI p1 0 7 → RI x2 (-1) 5 → RI x3 (-1) 5 → RI x4 (-1) 99 → RI x5 0 5 → RI x6 0 1 → RI y0 (-2147483648) 99 → 6 - x5.toInt < ((nf15 + 1 : Nat) : Int) → WD D cy GG A s wr_X8_settle wa_X8_settle Ps w0 Ps ws H locs → lv_has ls 8 [(0, .ref p0), (1, .int p1), (2, .int x2), (3, .int x3), (4, .int x4), (5, .int x5), (6, .int x6)] → W p l e (headSpec (Cond.code yX8_settle cX8_settle 8 none :: gT) ({ frames := 3, cells := 0, slots := 0, locals := 600 } : Room)).room s m ([.ref p0, .int p1] : List Value).toArray below meth c H locs 0 0 Q (F0 m 103 ls [.int y0]) := by
        intro x2 x3 x4 x5 x6 y0 ws H locs ls r_p1 r_x2 r_x3 r_x4 r_x5 r_x6 r_y0 hn15 hw hl
        refine lv_istore (lv' := [(7, .int y0), (0, .ref p0), (1, .int p1), (2, .int x2), (3, .int x3), (4, .int x4), (5, .int x5), (6, .int x6)]) hx hb dX8_settle_103 hl (by decide) rfl (fun ls hl => ?_)
        refine lv_iload hx hb dX8_settle_105 (lv_at hl 0 rfl) ?_
        refine lv_iload hx hb dX8_settle_107 (lv_at hl 5 rfl) ?_
        refine lv_icmp_gt (tgt := 125) hx hb dX8_settle_109 (by decide) (fun c_109 => ?_) (fun c_109 => ?_)
        · have r_x4 : RI x4 (-1) 98 := rc_lt1 r_x4 r_y0 (ti_lt c_109) (by decide)
          have r_y0 : RI y0 0 99 := rc_lt2 r_x4 r_y0 (ti_lt c_109) (by decide)
          exact B125 x2 x3 x4 x5 x6 y0 ws _ _ ls r_p1 r_x2 r_x3 (r_x4.to (by decide)) r_x5 r_x6 (r_y0.to (by decide)) (by have q0 := r_x5.1; have u0 := r_x5.2; omega) hw (lv_sub hl [1, 2, 3, 4, 5, 6, 7, 0] rfl)
        · refine lv_iload hx hb dX8_settle_112 (lv_at hl 0 rfl) ?_
          refine lv_iload hx hb dX8_settle_114 (lv_at hl 5 rfl) ?_
          refine lv_icmp_ne (tgt := 132) hx hb dX8_settle_116 (by decide) (fun c_116 => ?_) (fun c_116 => ?_)
          · obtain ⟨v_2, e_v_2⟩ : ∃ q9 : Int32, q9 = x5 + Int32.ofInt 1 := ⟨_, rfl⟩
            obtain ⟨t_v_2, r_v_2⟩ := tq_add (lo := 1) (hi := 6) r_x5 (show RI (Int32.ofInt 1) 1 1 by unfold RI; decide +kernel) (by decide +kernel) e_v_2
            have t_v_2 : v_2.toInt = x5.toInt + 1 := t_v_2
            refine lv_iinc (v := v_2) (lv' := [(5, .int v_2), (7, .int y0), (0, .ref p0), (1, .int p1), (2, .int x2), (3, .int x3), (4, .int x4), (6, .int x6)]) hx hb dX8_settle_132 hl (k := 6) rfl e_v_2.symm (by decide) rfl (fun ls hl => ?_)
            refine lv_goto (tgt := 15) hx hb dX8_settle_135 (by decide) ?_
            exact ih15 x2 x3 x4 v_2 ws _ _ ls (by have q0 := r_v_2.1; have u0 := r_v_2.2; have o0 := r_x5.1; have p0 := r_x5.2; omega) r_p1 r_x2 r_x3 r_x4 (r_v_2.to (by decide)) hw (lv_sub hl [2, 3, 4, 5, 6, 0] rfl)
          · have r_y0 : RI y0 (-1) 99 := rc_eq1 r_y0 r_x4 (ti_eq c_116) (by decide)
            refine lv_iload hx hb dX8_settle_119 (lv_at hl 6 rfl) ?_
            refine lv_iload_n hx hb dX8_settle_121 rfl (lv_at hl 3 rfl) ?_
            refine lv_icmp_ne (tgt := 132) hx hb dX8_settle_122 (by decide) (fun c_122 => ?_) (fun c_122 => ?_)
            · obtain ⟨v_3, e_v_3⟩ : ∃ q9 : Int32, q9 = x5 + Int32.ofInt 1 := ⟨_, rfl⟩
              obtain ⟨t_v_3, r_v_3⟩ := tq_add (lo := 1) (hi := 6) r_x5 (show RI (Int32.ofInt 1) 1 1 by unfold RI; decide +kernel) (by decide +kernel) e_v_3
              have t_v_3 : v_3.toInt = x5.toInt + 1 := t_v_3
              refine lv_iinc (v := v_3) (lv' := [(5, .int v_3), (7, .int y0), (0, .ref p0), (1, .int p1), (2, .int x2), (3, .int x3), (4, .int x4), (6, .int x6)]) hx hb dX8_settle_132 hl (k := 6) rfl e_v_3.symm (by decide) rfl (fun ls hl => ?_)
              refine lv_goto (tgt := 15) hx hb dX8_settle_135 (by decide) ?_
              exact ih15 x2 x3 x4 v_3 ws _ _ ls (by have q0 := r_v_3.1; have u0 := r_v_3.2; have o0 := r_x5.1; have p0 := r_x5.2; omega) r_p1 r_x2 r_x3 r_x4 (r_v_3.to (by decide)) hw (lv_sub hl [2, 3, 4, 5, 6, 0] rfl)
            · have r_x2 : RI x2 0 5 := rc_eq2 r_x5 r_x2 (ti_eq c_122) (by decide)
              exact B125 x2 x3 x4 x5 x6 y0 ws _ _ ls r_p1 (r_x2.to (by decide)) r_x3 r_x4 r_x5 r_x6 r_y0 (by have q0 := r_x5.1; have u0 := r_x5.2; omega) hw (lv_sub hl [1, 2, 3, 4, 5, 6, 7, 0] rfl)
      have B78 : ∀ (x2 : Int32) (x3 : Int32) (x4 : Int32) (x5 : Int32) (y0 : Int32) (ws : va_W) (H : Heap) (locs : List Loc) (ls : Array Slot), RI p1 0 7 → RI x2 (-1) 5 → RI x3 (-1) 5 → RI x4 (-1) 99 → RI x5 0 5 → RI y0 0 1 → 6 - x5.toInt < ((nf15 + 1 : Nat) : Int) → WD D cy GG A s wr_X8_settle wa_X8_settle Ps w0 Ps ws H locs → lv_has ls 8 [(0, .ref p0), (1, .int p1), (2, .int x2), (3, .int x3), (4, .int x4), (5, .int x5)] → W p l e (headSpec (Cond.code yX8_settle cX8_settle 8 none :: gT) ({ frames := 3, cells := 0, slots := 0, locals := 600 } : Room)).room s m ([.ref p0, .int p1] : List Value).toArray below meth c H locs 0 0 Q (F0 m 78 ls [.int y0]) := by
        intro x2 x3 x4 x5 y0 ws H locs ls r_p1 r_x2 r_x3 r_x4 r_x5 r_y0 hn15 hw hl
        refine lv_istore (lv' := [(6, .int y0), (0, .ref p0), (1, .int p1), (2, .int x2), (3, .int x3), (4, .int x4), (5, .int x5)]) hx hb dX8_settle_78 hl (by decide) rfl (fun ls hl => ?_)
        refine lv_iload hx hb dX8_settle_80 (lv_at hl 0 rfl) ?_
        refine lv_if_eq (tgt := 102) hx hb dX8_settle_82 (by decide) (fun c_82 => ?_) (fun c_82 => ?_)
        · have r_y0 : RI y0 0 0 := rc_eq1 r_y0 rl_0 (ti_eq c_82) (by decide)
          refine lv_iconst (v := 0) hx hb dX8_settle_102 (by decide) ?_
          exact B103 x2 x3 x4 x5 y0 0 ws _ _ ls r_p1 r_x2 r_x3 r_x4 r_x5 (r_y0.to (by decide)) (rl_0.to (by decide)) (by have q0 := r_x5.1; have u0 := r_x5.2; omega) hw (lv_sub hl [1, 2, 3, 4, 5, 6, 0] rfl)
        · have r_y0 : RI y0 1 1 := rc_neL r_y0 rl_0 (ti_ne c_82) (by decide)
          refine lv_aload_n hx hb dX8_settle_85 rfl (lv_at hl 1 rfl) ?_
          refine lv_iload hx hb dX8_settle_86 (lv_at hl 6 rfl) ?_
          refine lv_aload_n hx hb dX8_settle_88 rfl (lv_at hl 1 rfl) ?_
          refine tg_get (ci := 8) (ts := ty_WORLD) (C := RX8) (T := TX8) (N := 13) hx hb hts inX8 hown hK hw h_p0 rfl rfl 7 (by decide) (hts _ tw_265) (fun _ h9 => h9) (ft := vR 11) rfl dX8_settle_89 (fun u_4 hv_u_4 m_u_4 => ?_)
          obtain ⟨vu_4, rfl, h_vu_4⟩ := hv_u_4
          refine lv_iload_n hx hb dX8_settle_92 rfl (lv_at hl 2 rfl) ?_
          refine tg_iald (lo := 0) (hi := 5) hx hb hK hw h_vu_4 rfl 0 7 r_p1 (by decide) (by exact fun _ _ _ => ⟨Int.le_refl _, Int.le_refl _⟩) dX8_settle_93 (fun v_5 r_v_5 m_v_5 o_v_5 => ?_)
          refine lv_bipush (v := 7) hx hb dX8_settle_94 (by decide) ?_
          refine tk_ir (va_runV (As := [.int x5, .int v_5, .int 7]) (rest := []) ⟨hx, hb, hml, hown, hts⟩ (c_X8_willHave l D cy z H.size Ps ws hw.1 p0 x5 v_5 7 h_p0 r_x5 r_v_5 (rl_7.to (by decide))) (cwV 3 hts (gV tw_577 tw_579 ts_11 tw_12 tw_580) rfl rfl rfl (by decide +kernel) ⟨Nat.le_of_ble_eq_true rfl, Nat.le_of_ble_eq_true rfl⟩) (tg_preV hw hK hSD hA (ci := 8) (q := (RX8, TX8, 13)) rfl h_p0 rfl) rfl rfl hl.1 rfl (lv_room (Nat.le_of_ble_eq_true rfl)) dX8_settle_96 ⟨Nat.le_of_ble_eq_true rfl, Nat.le_of_ble_eq_true rfl⟩) hw hA (fun v_6  H locs hp_v_6 hw => ?_)
          have r_v_6 : RI v_6 (-2147483648) 99 := hp_v_6.1
          refine lv_goto (tgt := 103) hx hb dX8_settle_99 (by decide) ?_
          exact B103 x2 x3 x4 x5 y0 v_6 ws _ _ ls r_p1 r_x2 r_x3 r_x4 r_x5 (r_y0.to (by decide)) r_v_6 (by have q0 := r_x5.1; have u0 := r_x5.2; omega) hw (lv_sub hl [1, 2, 3, 4, 5, 6, 0] rfl)
      intro x2 x3 x4 x5 ws H locs ls hn15 r_p1 r_x2 r_x3 r_x4 r_x5 hw hl
      refine lv_iload hx hb dX8_settle_15 (lv_at hl 5 rfl) ?_
      refine lv_aload_n hx hb dX8_settle_17 rfl (lv_at hl 0 rfl) ?_
      refine tg_get (ci := 8) (ts := ty_WORLD) (C := RX8) (T := TX8) (N := 13) hx hb hts inX8 hown hK hw h_p0 rfl rfl 0 (by decide) (hts _ tw_247) (fun _ h9 => h9) (ft := vR 25) rfl dX8_settle_18 (fun u_7 hv_u_7 m_u_7 => ?_)
      obtain ⟨vu_7, rfl, h_vu_7⟩ := hv_u_7
      refine tg_getN (ci := 3) (ts := ty_POST) (C := RX3) (T := TX3) (N := 9) hx hb hts inX3 hown hK hw h_vu_7 rfl rfl 1 (by decide) (hSD.nest tn_203) (fun _ h9 => h9) (ft := vR 4) rfl dX8_settle_21 (fun u_8 hv_u_8 m_u_8 => ?_)
      obtain ⟨vu_8, rfl, h_vu_8⟩ := hv_u_8
      refine lv_iconst (v := 2) hx hb dX8_settle_24 (by decide) ?_
      refine tg_iald (lo := 0) (hi := 6) hx hb hK hw h_vu_8 rfl 2 2 rl_2 (by decide) (by decide +kernel) dX8_settle_25 (fun v_9 r_v_9 m_v_9 o_v_9 => ?_)
      refine lv_icmp_ge (tgt := 138) hx hb dX8_settle_26 (by decide) (fun c_26 => ?_) (fun c_26 => ?_)
      · refine lv_aload_n hx hb dX8_settle_138 rfl (lv_at hl 0 rfl) ?_
        refine tg_get (ci := 8) (ts := ty_WORLD) (C := RX8) (T := TX8) (N := 13) hx hb hts inX8 hown hK hw h_p0 rfl rfl 8 (by decide) (hts _ tw_268) (fun _ h9 => h9) (ft := vR 12) rfl dX8_settle_139 (fun u_10 hv_u_10 m_u_10 => ?_)
        obtain ⟨vu_10, rfl, h_vu_10⟩ := hv_u_10
        refine lv_iload_n hx hb dX8_settle_142 rfl (lv_at hl 1 rfl) ?_
        refine lv_iload_n hx hb dX8_settle_143 rfl (lv_at hl 3 rfl) ?_
        refine tg_iast hx hb hK hw h_vu_10 rfl 0 7 r_p1 (by decide) r_x3 (by exact fun _ _ _ => by decide) (fun _ _ _ _ _ => trivial) (by decide) dX8_settle_144 (fun ws H locs hw hF9 hU9 => ?_)
        subst hQ
        exact W.vret hx hb hr (fun t ht hW => ⟨⟨ws, rfl, ⟨trivial, hw.1, hw.2.2.2.2.1⟩, by rw [ht]; exact hw.2.1, va_K.moved hW.alike hK, hw.2.2.1⟩, hw.2.2.2.1.F ht⟩) hw.2.2.2.1.2.2 dX8_settle_145
      · have r_x5 : RI x5 0 5 := rc_lt1 r_x5 r_v_9 (ti_nle c_26) (by decide)
        have r_v_9 : RI v_9 1 6 := rc_lt2 r_x5 r_v_9 (ti_nle c_26) (by decide)
        refine lv_aload_n hx hb dX8_settle_29 rfl (lv_at hl 0 rfl) ?_
        refine lv_iload hx hb dX8_settle_30 (lv_at hl 5 rfl) ?_
        refine tk_ir (va_runV (As := [.int x5]) (rest := []) ⟨hx, hb, hml, hown, hts⟩ (c_X8_isOpen l D cy z H.size Ps ws hw.1 p0 x5 h_p0 r_x5) (cwV 1 hts (gV tw_561 tw_562 tw_563 tw_12 tw_564) rfl rfl rfl (by decide +kernel) ⟨Nat.le_of_ble_eq_true rfl, Nat.le_of_ble_eq_true rfl⟩) (tg_preV hw hK hSD hA (ci := 8) (q := (RX8, TX8, 13)) rfl h_p0 rfl) rfl rfl hl.1 rfl (lv_room (Nat.le_of_ble_eq_true rfl)) dX8_settle_32 ⟨Nat.le_of_ble_eq_true rfl, Nat.le_of_ble_eq_true rfl⟩) hw hA (fun v_11  H locs hp_v_11 hw => ?_)
        have r_v_11 : RI v_11 0 1 := hp_v_11.1
        refine lv_if_eq (tgt := 41) hx hb dX8_settle_35 (by decide) (fun c_35 => ?_) (fun c_35 => ?_)
        · have r_v_11 : RI v_11 0 0 := rc_eq1 r_v_11 rl_0 (ti_eq c_35) (by decide)
          refine lv_aload_n hx hb dX8_settle_41 rfl (lv_at hl 0 rfl) ?_
          refine tg_get (ci := 8) (ts := ty_WORLD) (C := RX8) (T := TX8) (N := 13) hx hb hts inX8 hown hK hw h_p0 rfl rfl 8 (by decide) (hts _ tw_268) (fun _ h9 => h9) (ft := vR 12) rfl dX8_settle_42 (fun u_12 hv_u_12 m_u_12 => ?_)
          obtain ⟨vu_12, rfl, h_vu_12⟩ := hv_u_12
          refine lv_iload_n hx hb dX8_settle_45 rfl (lv_at hl 1 rfl) ?_
          refine lv_iload hx hb dX8_settle_46 (lv_at hl 5 rfl) ?_
          refine tg_iast hx hb hK hw h_vu_12 rfl 0 7 r_p1 (by decide) r_x5 (by exact fun _ _ _ => by decide) (fun _ _ _ _ _ => trivial) (by decide) dX8_settle_48 (fun ws H locs hw hF9 hU9 => ?_)
          refine lv_aload_n hx hb dX8_settle_49 rfl (lv_at hl 0 rfl) ?_
          refine lv_iload hx hb dX8_settle_50 (lv_at hl 5 rfl) ?_
          refine tk_i (va_runV (As := [.int x5]) (rest := []) ⟨hx, hb, hml, hown, hts⟩ (c_X8_reckonGain l D cy z H.size Ps ws hw.1 p0 x5 h_p0 r_x5) (cwV 1 hts (gV tw_689 tw_690 tw_691 tw_12 tw_692) rfl rfl rfl (by decide +kernel) ⟨Nat.le_of_ble_eq_true rfl, Nat.le_of_ble_eq_true rfl⟩) (tg_preV hw hK hSD hA (ci := 8) (q := (RX8, TX8, 13)) rfl h_p0 rfl) rfl rfl hl.1 rfl (lv_room (Nat.le_of_ble_eq_true rfl)) dX8_settle_52 ⟨Nat.le_of_ble_eq_true rfl, Nat.le_of_ble_eq_true rfl⟩) hw hA ⟨by decide, by decide⟩ (fun v_13 ws H locs hp_v_13 hw hF9 => ?_)
          have r_v_13 : RI v_13 0 1 := hp_v_13.1
          refine lv_pop hx hb dX8_settle_55 rfl ?_
          refine lv_aload_n hx hb dX8_settle_56 rfl (lv_at hl 0 rfl) ?_
          refine lv_iload hx hb dX8_settle_57 (lv_at hl 5 rfl) ?_
          refine lv_bipush (v := 7) hx hb dX8_settle_59 (by decide) ?_
          refine tk_ir (va_runV (As := [.int x5, .int 7]) (rest := []) ⟨hx, hb, hml, hown, hts⟩ (c_X8_becomes l D cy z H.size Ps ws hw.1 p0 x5 7 h_p0 r_x5 (rl_7.to (by decide))) (cwV 2 hts (gV tw_573 tw_574 tw_575 tw_12 tw_576) rfl rfl rfl (by decide +kernel) ⟨Nat.le_of_ble_eq_true rfl, Nat.le_of_ble_eq_true rfl⟩) (tg_preV hw hK hSD hA (ci := 8) (q := (RX8, TX8, 13)) rfl h_p0 rfl) rfl rfl hl.1 rfl (lv_room (Nat.le_of_ble_eq_true rfl)) dX8_settle_61 ⟨Nat.le_of_ble_eq_true rfl, Nat.le_of_ble_eq_true rfl⟩) hw hA (fun v_14  H locs hp_v_14 hw => ?_)
          have r_v_14 : RI v_14 (-1) 5 := hp_v_14.1
          refine lv_aload_n hx hb dX8_settle_64 rfl (lv_at hl 0 rfl) ?_
          refine tg_get (ci := 8) (ts := ty_WORLD) (C := RX8) (T := TX8) (N := 13) hx hb hts inX8 hown hK hw h_p0 rfl rfl 7 (by decide) (hts _ tw_265) (fun _ h9 => h9) (ft := vR 11) rfl dX8_settle_65 (fun u_15 hv_u_15 m_u_15 => ?_)
          obtain ⟨vu_15, rfl, h_vu_15⟩ := hv_u_15
          refine lv_iload_n hx hb dX8_settle_68 rfl (lv_at hl 1 rfl) ?_
          refine tg_iald (lo := 0) (hi := 5) hx hb hK hw h_vu_15 rfl 0 7 r_p1 (by decide) (by exact fun _ _ _ => ⟨Int.le_refl _, Int.le_refl _⟩) dX8_settle_69 (fun v_16 r_v_16 m_v_16 o_v_16 => ?_)
          refine lv_icmp_ne (tgt := 77) hx hb dX8_settle_70 (by decide) (fun c_70 => ?_) (fun c_70 => ?_)
          · refine lv_iconst (v := 0) hx hb dX8_settle_77 (by decide) ?_
            exact B78 x2 x3 x4 x5 0 ws _ _ ls r_p1 r_x2 r_x3 r_x4 r_x5 (rl_0.to (by decide)) (by have q0 := r_x5.1; have u0 := r_x5.2; omega) hw hl
          · have r_v_14 : RI v_14 0 5 := rc_eq1 r_v_14 r_v_16 (ti_eq c_70) (by decide)
            refine lv_iconst (v := 1) hx hb dX8_settle_73 (by decide) ?_
            refine lv_goto (tgt := 78) hx hb dX8_settle_74 (by decide) ?_
            exact B78 x2 x3 x4 x5 1 ws _ _ ls r_p1 r_x2 r_x3 r_x4 r_x5 (rl_1.to (by decide)) (by have q0 := r_x5.1; have u0 := r_x5.2; omega) hw hl
        · have r_v_11 : RI v_11 1 1 := rc_neL r_v_11 rl_0 (ti_ne c_35) (by decide)
          refine lv_goto (tgt := 132) hx hb dX8_settle_38 (by decide) ?_
          obtain ⟨v_17, e_v_17⟩ : ∃ q9 : Int32, q9 = x5 + Int32.ofInt 1 := ⟨_, rfl⟩
          obtain ⟨t_v_17, r_v_17⟩ := tq_add (lo := 1) (hi := 6) r_x5 (show RI (Int32.ofInt 1) 1 1 by unfold RI; decide +kernel) (by decide +kernel) e_v_17
          have t_v_17 : v_17.toInt = x5.toInt + 1 := t_v_17
          refine lv_iinc (v := v_17) (lv' := [(5, .int v_17), (0, .ref p0), (1, .int p1), (2, .int x2), (3, .int x3), (4, .int x4)]) hx hb dX8_settle_132 hl (k := 5) rfl e_v_17.symm (by decide) rfl (fun ls hl => ?_)
          refine lv_goto (tgt := 15) hx hb dX8_settle_135 (by decide) ?_
          exact ih15 x2 x3 x4 v_17 ws _ _ ls (by have q0 := r_v_17.1; have u0 := r_v_17.2; have o0 := r_x5.1; have p0 := r_x5.2; omega) r_p1 r_x2 r_x3 r_x4 (r_v_17.to (by decide)) hw (lv_sub hl [1, 2, 3, 4, 5, 0] rfl)
  refine lv_aload_n hx hb dX8_settle_0 rfl (lv_at hl 0 rfl) ?_
  refine tg_get (ci := 8) (ts := ty_WORLD) (C := RX8) (T := TX8) (N := 13) hx hb hts inX8 hown hK hw h_p0 rfl rfl 8 (by decide) (hts _ tw_268) (fun _ h9 => h9) (ft := vR 12) rfl dX8_settle_1 (fun u_18 hv_u_18 m_u_18 => ?_)
  obtain ⟨vu_18, rfl, h_vu_18⟩ := hv_u_18
  refine lv_iload_n hx hb dX8_settle_4 rfl (lv_at hl 1 rfl) ?_
  refine tg_iald (lo := (-1)) (hi := 5) hx hb hK hw h_vu_18 rfl 0 7 r_p1 (by decide) (by exact fun _ _ _ => ⟨Int.le_refl _, Int.le_refl _⟩) dX8_settle_5 (fun v_19 r_v_19 m_v_19 o_v_19 => ?_)
  refine lv_istore_n (lv' := [(2, .int v_19), (0, .ref p0), (1, .int p1)]) hx hb dX8_settle_6 rfl hl (by decide) rfl (fun ls hl => ?_)
  refine lv_iload_n hx hb dX8_settle_7 rfl (lv_at hl 0 rfl) ?_
  refine lv_istore_n (lv' := [(3, .int v_19), (2, .int v_19), (0, .ref p0), (1, .int p1)]) hx hb dX8_settle_8 rfl hl (by decide) rfl (fun ls hl => ?_)
  refine lv_iconst (v := (-1)) hx hb dX8_settle_9 (by decide) ?_
  refine lv_istore (lv' := [(4, .int (-1)), (3, .int v_19), (2, .int v_19), (0, .ref p0), (1, .int p1)]) hx hb dX8_settle_10 hl (by decide) rfl (fun ls hl => ?_)
  refine lv_iconst (v := 0) hx hb dX8_settle_12 (by decide) ?_
  refine lv_istore (lv' := [(5, .int 0), (4, .int (-1)), (3, .int v_19), (2, .int v_19), (0, .ref p0), (1, .int p1)]) hx hb dX8_settle_13 hl (by decide) rfl (fun ls hl => ?_)
  exact B15 4294967298 v_19 v_19 (-1) 0 w0 _ _ ls (by have q0 := rl_0.1; have u0 := rl_0.2; omega) r_p1 r_v_19 r_v_19 (rl_m1.to (by decide)) (rl_0.to (by decide)) hw (lv_sub hl [4, 5, 3, 2, 1, 0] rfl)
abbrev wr_X8_settleAll : List (Nat × Nat) := []
abbrev wa_X8_settleAll : List Nat := [12, 14]
set_option maxHeartbeats 4000000 in
set_option maxRecDepth 100000 in
theorem c_X8_settleAll (l : Launch) (D : va_G) (cy : Nat → ClassId) (z : Nat → Nat) (sz : Nat) (Ps : PSI) (w0 : va_W) (hT : HT cy GG Ps w0) (p0 : Nat) (h_p0 : (p0, 24) ∈ Ps) : Met l yX8_settleAll (Cond.code yX8_settleAll cX8_settleAll 5 (some .int) :: gT) ({ frames := 4, cells := 0, slots := 0, locals := 800 } : Room) (va_Pc [.ref p0] (PRE D cy z w0 sz)) (va_Qi (fun (r : Int32) (u : va_W) => (RI r 0 10 ∧ (r = 0 → True) ∧ (¬ r = 0 → True)) ∧ HT cy GG Ps u ∧ FR wr_X8_settleAll wa_X8_settleAll Ps w0 u) (BB D cy (va_A w0 sz) (fun (u : va_W) => u)) (va_A w0 sz)) 0 0 (va_A w0 sz) := by
  refine Met.ofW (cc := cX8_settleAll) (maxL := 5) (ret := (some .int)) (by decide) rfl ?_
  intro p e s m args below meth c s₁ B hml hv
  obtain ⟨rfl, hsz, hP, hK, hD0, hSD⟩ := hv
  have hx := B.exec
  have hb := B.bytes
  have hr := B.returns
  have hlocks := B.notSynchronized
  have hts : ∀ w ∈ gT, w.before _ s = true := fun w h => atoms_spec (ws := Cond.code yX8_settleAll cX8_settleAll 5 (some .int) :: gT) B.pre w (List.mem_cons_of_mem _ h)
  have hown : s.vm.findClass RX8 = some m.cls := findClass_of_methodNamed B.named
  subst hsz
  have hD := hD0.self (sz := s.heap.size)
  generalize hAe : va_A w0 s.heap.size = A at hD hSD ⊢
  have hA : ∀ q : Nat, s.heap.size ≤ q → A q := fun q h => by rw [← hAe]; exact Or.inr h
  have hl := lv_entry ([.ref p0]) (n := 5) (Nat.le_of_ble_eq_true rfl)
  rw [lg_entry_eq]
  generalize (lg_sl ([.ref p0]) ++ List.replicate (5 - (lg_sl ([.ref p0])).length) Slot.unset).toArray = ls at hl ⊢
  have hl : lv_has ls 5 [(0, .ref p0)] := hl
  refine nameQ (fun Q hQ => ?_)
  have hw : WD D cy GG A s wr_X8_settleAll wa_X8_settleAll Ps w0 Ps w0 s.heap [] := ⟨hT, hP, hD, va_S.rf, FR.rf, hT.1, [], (List.append_nil _).symm⟩
  have B4 : ∀ (nf : Nat) (x1 : Int32) (x2 : Int32) (ws : va_W) (H : Heap) (locs : List Loc) (ls : Array Slot), 10 - x2.toInt < (nf : Int) → RI x1 (-2147483648) 2147483647 → RI x2 0 10 → WD D cy GG A s wr_X8_settleAll wa_X8_settleAll Ps w0 Ps ws H locs → lv_has ls 5 [(0, .ref p0), (1, .int x1), (2, .int x2)] → W p l e (headSpec (Cond.code yX8_settleAll cX8_settleAll 5 (some .int) :: gT) ({ frames := 4, cells := 0, slots := 0, locals := 800 } : Room)).room s m ([.ref p0] : List Value).toArray below meth c H locs 0 0 Q (F0 m 4 ls []) := by
    intro nf4
    induction nf4 with
    | zero =>
      intro x1 x2 ws H locs ls hn4 r_x1 r_x2 hw hl
      exact absurd hn4 (by have q0 := r_x2.1; have u0 := r_x2.2; omega)
    | succ nf4 ih4 =>
      have B18 : ∀ (nf : Nat) (x1 : Int32) (x2 : Int32) (x3 : Int32) (ws : va_W) (H : Heap) (locs : List Loc) (ls : Array Slot), 8 - x3.toInt < (nf : Int) → RI x1 (-2147483648) 2147483647 → RI x2 0 9 → RI x3 0 8 → 10 - x2.toInt < ((nf4 + 1 : Nat) : Int) → WD D cy GG A s wr_X8_settleAll wa_X8_settleAll Ps w0 Ps ws H locs → lv_has ls 5 [(0, .ref p0), (1, .int x1), (2, .int x2), (3, .int x3)] → W p l e (headSpec (Cond.code yX8_settleAll cX8_settleAll 5 (some .int) :: gT) ({ frames := 4, cells := 0, slots := 0, locals := 800 } : Room)).room s m ([.ref p0] : List Value).toArray below meth c H locs 0 0 Q (F0 m 18 ls []) := by
        intro nf18
        induction nf18 with
        | zero =>
          intro x1 x2 x3 ws H locs ls hn18 r_x1 r_x2 r_x3 hn4 hw hl
          exact absurd hn18 (by have q0 := r_x3.1; have u0 := r_x3.2; omega)
        | succ nf18 ih18 =>
          have B61 : ∀ (x1 : Int32) (x2 : Int32) (x3 : Int32) (x4 : Int32) (y0 : Int32) (y1 : Int32) (ws : va_W) (H : Heap) (locs : List Loc) (ls : Array Slot), RI x1 (-2147483648) 2147483647 → RI x2 0 9 → RI x3 0 7 → RI x4 (-1) 5 → RI y0 0 1 → RI y1 (-2147483648) 2147483647 → 10 - x2.toInt < ((nf4 + 1 : Nat) : Int) → 8 - x3.toInt < ((nf18 + 1 : Nat) : Int) → WD D cy GG A s wr_X8_settleAll wa_X8_settleAll Ps w0 Ps ws H locs → lv_has ls 5 [(0, .ref p0), (1, .int x1), (2, .int x2), (3, .int x3), (4, .int x4)] → W p l e (headSpec (Cond.code yX8_settleAll cX8_settleAll 5 (some .int) :: gT) ({ frames := 4, cells := 0, slots := 0, locals := 800 } : Room)).room s m ([.ref p0] : List Value).toArray below meth c H locs 0 0 Q (F0 m 61 ls [.int y0, .int y1]) := by
            intro x1 x2 x3 x4 y0 y1 ws H locs ls r_x1 r_x2 r_x3 r_x4 r_y0 r_y1 hn4 hn18 hw hl
            refine lv_ior hx hb dX8_settleAll_61 (lv_topi (fun v_1 e_v_1 => ?_))
            have r_v_1 := ri_any v_1
            refine lv_istore_n (lv' := [(1, .int v_1), (0, .ref p0), (2, .int x2), (3, .int x3), (4, .int x4)]) hx hb dX8_settleAll_62 rfl hl (by decide) rfl (fun ls hl => ?_)
            obtain ⟨v_2, e_v_2⟩ : ∃ q9 : Int32, q9 = x3 + Int32.ofInt 1 := ⟨_, rfl⟩
            obtain ⟨t_v_2, r_v_2⟩ := tq_add (lo := 1) (hi := 8) r_x3 (show RI (Int32.ofInt 1) 1 1 by unfold RI; decide +kernel) (by decide +kernel) e_v_2
            have t_v_2 : v_2.toInt = x3.toInt + 1 := t_v_2
            refine lv_iinc (v := v_2) (lv' := [(3, .int v_2), (1, .int v_1), (0, .ref p0), (2, .int x2), (4, .int x4)]) hx hb dX8_settleAll_63 hl (k := 3) rfl e_v_2.symm (by decide) rfl (fun ls hl => ?_)
            refine lv_goto (tgt := 18) hx hb dX8_settleAll_66 (by decide) ?_
            exact ih18 v_1 x2 v_2 ws _ _ ls (by have q0 := r_v_2.1; have u0 := r_v_2.2; have o0 := r_x3.1; have p0 := r_x3.2; omega) r_v_1 r_x2 (r_v_2.to (by decide)) (by have q0 := r_x2.1; have u0 := r_x2.2; omega) hw (lv_sub hl [2, 1, 3, 0] rfl)
          intro x1 x2 x3 ws H locs ls hn18 r_x1 r_x2 r_x3 hn4 hw hl
          refine lv_iload_n hx hb dX8_settleAll_18 rfl (lv_at hl 3 rfl) ?_
          refine lv_aload_n hx hb dX8_settleAll_19 rfl (lv_at hl 0 rfl) ?_
          refine tg_get (ci := 8) (ts := ty_WORLD) (C := RX8) (T := TX8) (N := 13) hx hb hts inX8 hown hK hw h_p0 rfl rfl 0 (by decide) (hts _ tw_247) (fun _ h9 => h9) (ft := vR 25) rfl dX8_settleAll_20 (fun u_3 hv_u_3 m_u_3 => ?_)
          obtain ⟨vu_3, rfl, h_vu_3⟩ := hv_u_3
          refine tg_getN (ci := 3) (ts := ty_POST) (C := RX3) (T := TX3) (N := 9) hx hb hts inX3 hown hK hw h_vu_3 rfl rfl 1 (by decide) (hSD.nest tn_203) (fun _ h9 => h9) (ft := vR 4) rfl dX8_settleAll_23 (fun u_4 hv_u_4 m_u_4 => ?_)
          obtain ⟨vu_4, rfl, h_vu_4⟩ := hv_u_4
          refine lv_iconst (v := 3) hx hb dX8_settleAll_26 (by decide) ?_
          refine tg_iald (lo := 0) (hi := 8) hx hb hK hw h_vu_4 rfl 3 3 rl_3 (by decide) (by decide +kernel) dX8_settleAll_27 (fun v_5 r_v_5 m_v_5 o_v_5 => ?_)
          refine lv_icmp_ge (tgt := 69) hx hb dX8_settleAll_28 (by decide) (fun c_28 => ?_) (fun c_28 => ?_)
          · obtain ⟨v_6, e_v_6⟩ : ∃ q9 : Int32, q9 = x2 + Int32.ofInt 1 := ⟨_, rfl⟩
            obtain ⟨t_v_6, r_v_6⟩ := tq_add (lo := 1) (hi := 10) r_x2 (show RI (Int32.ofInt 1) 1 1 by unfold RI; decide +kernel) (by decide +kernel) e_v_6
            have t_v_6 : v_6.toInt = x2.toInt + 1 := t_v_6
            refine lv_iinc (v := v_6) (lv' := [(2, .int v_6), (0, .ref p0), (1, .int x1), (3, .int x3)]) hx hb dX8_settleAll_69 hl (k := 2) rfl e_v_6.symm (by decide) rfl (fun ls hl => ?_)
            refine lv_goto (tgt := 4) hx hb dX8_settleAll_72 (by decide) ?_
            exact ih4 x1 v_6 ws _ _ ls (by have q0 := r_v_6.1; have u0 := r_v_6.2; have o0 := r_x2.1; have p0 := r_x2.2; omega) r_x1 (r_v_6.to (by decide)) hw (lv_sub hl [1, 2, 0] rfl)
          · have r_x3 : RI x3 0 7 := rc_lt1 r_x3 r_v_5 (ti_nle c_28) (by decide)
            have r_v_5 : RI v_5 1 8 := rc_lt2 r_x3 r_v_5 (ti_nle c_28) (by decide)
            refine lv_aload_n hx hb dX8_settleAll_31 rfl (lv_at hl 0 rfl) ?_
            refine tg_get (ci := 8) (ts := ty_WORLD) (C := RX8) (T := TX8) (N := 13) hx hb hts inX8 hown hK hw h_p0 rfl rfl 8 (by decide) (hts _ tw_268) (fun _ h9 => h9) (ft := vR 12) rfl dX8_settleAll_32 (fun u_7 hv_u_7 m_u_7 => ?_)
            obtain ⟨vu_7, rfl, h_vu_7⟩ := hv_u_7
            refine lv_iload_n hx hb dX8_settleAll_35 rfl (lv_at hl 3 rfl) ?_
            refine tg_iald (lo := (-1)) (hi := 5) hx hb hK hw h_vu_7 rfl 0 7 r_x3 (by decide) (by exact fun _ _ _ => ⟨Int.le_refl _, Int.le_refl _⟩) dX8_settleAll_36 (fun v_8 r_v_8 m_v_8 o_v_8 => ?_)
            refine lv_istore (lv' := [(4, .int v_8), (0, .ref p0), (1, .int x1), (2, .int x2), (3, .int x3)]) hx hb dX8_settleAll_37 hl (by decide) rfl (fun ls hl => ?_)
            refine lv_aload_n hx hb dX8_settleAll_39 rfl (lv_at hl 1 rfl) ?_
            refine lv_iload_n hx hb dX8_settleAll_40 rfl (lv_at hl 4 rfl) ?_
            refine tk_v (va_runV (As := [.int x3]) (rest := []) ⟨hx, hb, hml, hown, hts⟩ (c_X8_settle l D cy z H.size Ps ws hw.1 p0 x3 h_p0 r_x3) (cwV 1 hts (gV tw_815 tw_817 ts_22 tw_12 tw_818) rfl rfl rfl (by decide +kernel) ⟨Nat.le_of_ble_eq_true rfl, Nat.le_of_ble_eq_true rfl⟩) (tg_preV hw hK hSD hA (ci := 8) (q := (RX8, TX8, 13)) rfl h_p0 rfl) rfl rfl hl.1 rfl (lv_room (Nat.le_of_ble_eq_true rfl)) dX8_settleAll_41 ⟨Nat.le_of_ble_eq_true rfl, Nat.le_of_ble_eq_true rfl⟩) hw hA ⟨by decide, by decide⟩ (fun ws H locs hp_v_9 hw hF9 => ?_)
            refine lv_iload_n hx hb dX8_settleAll_44 rfl (lv_at hl 2 rfl) ?_
            refine lv_aload_n hx hb dX8_settleAll_45 rfl (lv_at hl 1 rfl) ?_
            refine tg_get (ci := 8) (ts := ty_WORLD) (C := RX8) (T := TX8) (N := 13) hx hb hts inX8 hown hK hw h_p0 rfl rfl 8 (by decide) (hts _ tw_268) (fun _ h9 => h9) (ft := vR 12) rfl dX8_settleAll_46 (fun u_10 hv_u_10 m_u_10 => ?_)
            obtain ⟨vu_10, rfl, h_vu_10⟩ := hv_u_10
            refine lv_iload_n hx hb dX8_settleAll_49 rfl (lv_at hl 4 rfl) ?_
            refine tg_iald (lo := (-1)) (hi := 5) hx hb hK hw h_vu_10 rfl 0 7 r_x3 (by decide) (by exact fun _ _ _ => ⟨Int.le_refl _, Int.le_refl _⟩) dX8_settleAll_50 (fun v_11 r_v_11 m_v_11 o_v_11 => ?_)
            refine lv_iload hx hb dX8_settleAll_51 (lv_at hl 0 rfl) ?_
            refine lv_icmp_eq (tgt := 60) hx hb dX8_settleAll_53 (by decide) (fun c_53 => ?_) (fun c_53 => ?_)
            · refine lv_iconst (v := 0) hx hb dX8_settleAll_60 (by decide) ?_
              exact B61 x1 x2 x3 v_8 0 x1 ws _ _ ls r_x1 r_x2 r_x3 r_v_8 (rl_0.to (by decide)) r_x1 (by have q0 := r_x2.1; have u0 := r_x2.2; omega) (by have q0 := r_x3.1; have u0 := r_x3.2; omega) hw (lv_sub hl [1, 2, 3, 4, 0] rfl)
            · refine lv_iconst (v := 1) hx hb dX8_settleAll_56 (by decide) ?_
              refine lv_goto (tgt := 61) hx hb dX8_settleAll_57 (by decide) ?_
              exact B61 x1 x2 x3 v_8 1 x1 ws _ _ ls r_x1 r_x2 r_x3 r_v_8 (rl_1.to (by decide)) r_x1 (by have q0 := r_x2.1; have u0 := r_x2.2; omega) (by have q0 := r_x3.1; have u0 := r_x3.2; omega) hw (lv_sub hl [1, 2, 3, 4, 0] rfl)
      intro x1 x2 ws H locs ls hn4 r_x1 r_x2 hw hl
      refine lv_iload_n hx hb dX8_settleAll_4 rfl (lv_at hl 1 rfl) ?_
      refine lv_if_eq (tgt := 75) hx hb dX8_settleAll_5 (by decide) (fun c_5 => ?_) (fun c_5 => ?_)
      · have r_x1 : RI x1 0 0 := rc_eq1 r_x1 rl_0 (ti_eq c_5) (by decide)
        refine lv_iload_n hx hb dX8_settleAll_75 rfl (lv_at hl 2 rfl) ?_
        subst hQ
        exact W.iret (v := x2) hx hb hr (fun t ht hW => ⟨⟨x2, ws, rfl, ⟨⟨r_x2.to (by decide), (fun h0 => trivial), (fun h0 => trivial)⟩, hw.1, hw.2.2.2.2.1⟩, by rw [ht]; exact hw.2.1, va_K.moved hW.alike hK, hw.2.2.1⟩, hw.2.2.2.1.F ht⟩) hw.2.2.2.1.2.2 dX8_settleAll_76
      · refine lv_iload_n hx hb dX8_settleAll_8 rfl (lv_at hl 2 rfl) ?_
        refine lv_bipush (v := 10) hx hb dX8_settleAll_9 (by decide) ?_
        refine lv_icmp_ge (tgt := 75) hx hb dX8_settleAll_11 (by decide) (fun c_11 => ?_) (fun c_11 => ?_)
        · have r_x2 : RI x2 10 10 := rc_le2 rl_10 r_x2 (ti_le c_11) (by decide)
          refine lv_iload_n hx hb dX8_settleAll_75 rfl (lv_at hl 2 rfl) ?_
          subst hQ
          exact W.iret (v := x2) hx hb hr (fun t ht hW => ⟨⟨x2, ws, rfl, ⟨⟨r_x2.to (by decide), (fun _ => trivial), (fun h0 => trivial)⟩, hw.1, hw.2.2.2.2.1⟩, by rw [ht]; exact hw.2.1, va_K.moved hW.alike hK, hw.2.2.1⟩, hw.2.2.2.1.F ht⟩) hw.2.2.2.1.2.2 dX8_settleAll_76
        · have r_x2 : RI x2 0 9 := rc_lt1 r_x2 rl_10 (ti_nle c_11) (by decide)
          refine lv_iconst (v := 0) hx hb dX8_settleAll_14 (by decide) ?_
          refine lv_istore_n (lv' := [(1, .int 0), (0, .ref p0), (2, .int x2)]) hx hb dX8_settleAll_15 rfl hl (by decide) rfl (fun ls hl => ?_)
          refine lv_iconst (v := 0) hx hb dX8_settleAll_16 (by decide) ?_
          refine lv_istore_n (lv' := [(3, .int 0), (1, .int 0), (0, .ref p0), (2, .int x2)]) hx hb dX8_settleAll_17 rfl hl (by decide) rfl (fun ls hl => ?_)
          exact B18 4294967298 0 x2 0 ws _ _ ls (by have q0 := rl_0.1; have u0 := rl_0.2; omega) (rl_0.to (by decide)) r_x2 (rl_0.to (by decide)) (by have q0 := r_x2.1; have u0 := r_x2.2; omega) hw (lv_sub hl [2, 1, 3, 0] rfl)
  refine lv_iconst (v := 1) hx hb dX8_settleAll_0 (by decide) ?_
  refine lv_istore_n (lv' := [(1, .int 1), (0, .ref p0)]) hx hb dX8_settleAll_1 rfl hl (by decide) rfl (fun ls hl => ?_)
  refine lv_iconst (v := 0) hx hb dX8_settleAll_2 (by decide) ?_
  refine lv_istore_n (lv' := [(2, .int 0), (1, .int 1), (0, .ref p0)]) hx hb dX8_settleAll_3 rfl hl (by decide) rfl (fun ls hl => ?_)
  exact B4 4294967298 1 0 w0 _ _ ls (by have q0 := rl_0.1; have u0 := rl_0.2; omega) (rl_1.to (by decide)) (rl_0.to (by decide)) hw (lv_sub hl [2, 1, 0] rfl)
abbrev wr_X8_sumOfParcels : List (Nat × Nat) := []
abbrev wa_X8_sumOfParcels : List Nat := []
set_option maxHeartbeats 4000000 in
set_option maxRecDepth 100000 in
theorem c_X8_sumOfParcels (l : Launch) (D : va_G) (cy : Nat → ClassId) (z : Nat → Nat) (sz : Nat) (Ps : PSI) (w0 : va_W) (hT : HT cy GG Ps w0) (p0 : Nat) (p1 : Nat) (h_p0 : (p0, 24) ∈ Ps) (h_p1 : (p1, 10) ∈ Ps) : Met l yX8_sumOfParcels (Cond.code yX8_sumOfParcels cX8_sumOfParcels 4 (some .int) :: gT) ({ frames := 0, cells := 0, slots := 0, locals := 200 } : Room) (va_Pc [.ref p0, .ref p1] (PRE D cy z w0 sz)) (va_Qi (fun (r : Int32) (u : Unit) => RI r (-2147483648) 2147483647 ∧ (r = 0 → True) ∧ (¬ r = 0 → True)) (BB D cy (va_A w0 sz) (fun (u : Unit) => w0)) (va_A w0 sz)) 0 0 (va_A w0 sz) := by
  refine Met.ofW (cc := cX8_sumOfParcels) (maxL := 4) (ret := (some .int)) (by decide) rfl ?_
  intro p e s m args below meth c s₁ B hml hv
  obtain ⟨rfl, hsz, hP, hK, hD0, hSD⟩ := hv
  have hx := B.exec
  have hb := B.bytes
  have hr := B.returns
  have hlocks := B.notSynchronized
  have hts : ∀ w ∈ gT, w.before _ s = true := fun w h => atoms_spec (ws := Cond.code yX8_sumOfParcels cX8_sumOfParcels 4 (some .int) :: gT) B.pre w (List.mem_cons_of_mem _ h)
  have hown : s.vm.findClass RX8 = some m.cls := findClass_of_methodNamed B.named
  subst hsz
  have hD := hD0.self (sz := s.heap.size)
  generalize hAe : va_A w0 s.heap.size = A at hD hSD ⊢
  have hA : ∀ q : Nat, s.heap.size ≤ q → A q := fun q h => by rw [← hAe]; exact Or.inr h
  have hl := lv_entry ([.ref p0, .ref p1]) (n := 4) (Nat.le_of_ble_eq_true rfl)
  rw [lg_entry_eq]
  generalize (lg_sl ([.ref p0, .ref p1]) ++ List.replicate (4 - (lg_sl ([.ref p0, .ref p1])).length) Slot.unset).toArray = ls at hl ⊢
  have hl : lv_has ls 4 [(0, .ref p0), (1, .ref p1)] := hl
  refine nameQ (fun Q hQ => ?_)
  have hw : WD D cy GG A s wr_X8_sumOfParcels wa_X8_sumOfParcels Ps w0 Ps w0 s.heap [] := ⟨hT, hP, hD, va_S.rf, FR.rf, hT.1, [], (List.append_nil _).symm⟩
  have B4 : ∀ (nf : Nat) (x2 : Int32) (x3 : Int32) (H : Heap) (locs : List Loc) (ls : Array Slot), 6 - x3.toInt < (nf : Int) → RI x2 (-2147483648) 2147483647 → RI x3 0 6 → WD D cy GG A s wr_X8_sumOfParcels wa_X8_sumOfParcels Ps w0 Ps w0 H locs → lv_has ls 4 [(0, .ref p0), (1, .ref p1), (2, .int x2), (3, .int x3)] → W p l e (headSpec (Cond.code yX8_sumOfParcels cX8_sumOfParcels 4 (some .int) :: gT) ({ frames := 0, cells := 0, slots := 0, locals := 200 } : Room)).room s m ([.ref p0, .ref p1] : List Value).toArray below meth c H locs 0 0 Q (F0 m 4 ls []) := by
    intro nf4
    induction nf4 with
    | zero =>
      intro x2 x3 H locs ls hn4 r_x2 r_x3 hw hl
      exact absurd hn4 (by have q0 := r_x3.1; have u0 := r_x3.2; omega)
    | succ nf4 ih4 =>
      intro x2 x3 H locs ls hn4 r_x2 r_x3 hw hl
      refine lv_iload_n hx hb dX8_sumOfParcels_4 rfl (lv_at hl 3 rfl) ?_
      refine lv_aload_n hx hb dX8_sumOfParcels_5 rfl (lv_at hl 0 rfl) ?_
      refine tg_get (ci := 8) (ts := ty_WORLD) (C := RX8) (T := TX8) (N := 13) hx hb hts inX8 hown hK hw h_p0 rfl rfl 0 (by decide) (hts _ tw_247) (fun _ h9 => h9) (ft := vR 25) rfl dX8_sumOfParcels_6 (fun u_1 hv_u_1 m_u_1 => ?_)
      obtain ⟨vu_1, rfl, h_vu_1⟩ := hv_u_1
      refine tg_getN (ci := 3) (ts := ty_POST) (C := RX3) (T := TX3) (N := 9) hx hb hts inX3 hown hK hw h_vu_1 rfl rfl 1 (by decide) (hSD.nest tn_203) (fun _ h9 => h9) (ft := vR 4) rfl dX8_sumOfParcels_9 (fun u_2 hv_u_2 m_u_2 => ?_)
      obtain ⟨vu_2, rfl, h_vu_2⟩ := hv_u_2
      refine lv_iconst (v := 2) hx hb dX8_sumOfParcels_12 (by decide) ?_
      refine tg_iald (lo := 0) (hi := 6) hx hb hK hw h_vu_2 rfl 2 2 rl_2 (by decide) (by decide +kernel) dX8_sumOfParcels_13 (fun v_3 r_v_3 m_v_3 o_v_3 => ?_)
      refine lv_icmp_ge (tgt := 35) hx hb dX8_sumOfParcels_14 (by decide) (fun c_14 => ?_) (fun c_14 => ?_)
      · refine lv_iload_n hx hb dX8_sumOfParcels_35 rfl (lv_at hl 2 rfl) ?_
        subst hQ
        exact W.iret (v := x2) hx hb hr (fun t ht hW => ⟨⟨x2, (), rfl, ⟨r_x2.to (by decide), (fun h0 => trivial), (fun h0 => trivial)⟩, by rw [ht]; exact hw.2.1, va_K.moved hW.alike hK, hw.2.2.1⟩, hw.2.2.2.1.F ht⟩) hw.2.2.2.1.2.2 dX8_sumOfParcels_36
      · have r_x3 : RI x3 0 5 := rc_lt1 r_x3 r_v_3 (ti_nle c_14) (by decide)
        have r_v_3 : RI v_3 1 6 := rc_lt2 r_x3 r_v_3 (ti_nle c_14) (by decide)
        refine lv_iload_n hx hb dX8_sumOfParcels_17 rfl (lv_at hl 3 rfl) ?_
        refine lv_aload_n hx hb dX8_sumOfParcels_18 rfl (lv_at hl 1 rfl) ?_
        refine tg_alenI (t0 := 1) (v := 6) hx hb hK hw h_p1 rfl rfl rfl dX8_sumOfParcels_19 ?_
        refine lv_icmp_ge (tgt := 35) hx hb dX8_sumOfParcels_20 (by decide) (fun c_20 => ?_) (fun c_20 => ?_)
        · have r_x3 : RI x3 6 5 := rc_le2 rl_6 r_x3 (ti_le c_20) (by decide)
          exact (r_x3.no (by decide)).elim
        · refine lv_iload_n hx hb dX8_sumOfParcels_23 rfl (lv_at hl 2 rfl) ?_
          refine lv_aload_n hx hb dX8_sumOfParcels_24 rfl (lv_at hl 1 rfl) ?_
          refine lv_iload_n hx hb dX8_sumOfParcels_25 rfl (lv_at hl 3 rfl) ?_
          refine tg_iald (lo := (-2147483648)) (hi := 2147483647) hx hb hK hw h_p1 rfl 0 5 r_x3 (by decide) (by exact fun _ _ _ => ⟨Int.le_refl _, Int.le_refl _⟩) dX8_sumOfParcels_26 (fun v_4 r_v_4 m_v_4 o_v_4 => ?_)
          refine lv_iadd hx hb dX8_sumOfParcels_27 (lv_topi (fun v_5 e_v_5 => ?_))
          have r_v_5 := ri_any v_5
          refine lv_istore_n (lv' := [(2, .int v_5), (0, .ref p0), (1, .ref p1), (3, .int x3)]) hx hb dX8_sumOfParcels_28 rfl hl (by decide) rfl (fun ls hl => ?_)
          obtain ⟨v_6, e_v_6⟩ : ∃ q9 : Int32, q9 = x3 + Int32.ofInt 1 := ⟨_, rfl⟩
          obtain ⟨t_v_6, r_v_6⟩ := tq_add (lo := 1) (hi := 6) r_x3 (show RI (Int32.ofInt 1) 1 1 by unfold RI; decide +kernel) (by decide +kernel) e_v_6
          have t_v_6 : v_6.toInt = x3.toInt + 1 := t_v_6
          refine lv_iinc (v := v_6) (lv' := [(3, .int v_6), (2, .int v_5), (0, .ref p0), (1, .ref p1)]) hx hb dX8_sumOfParcels_29 hl (k := 3) rfl e_v_6.symm (by decide) rfl (fun ls hl => ?_)
          refine lv_goto (tgt := 4) hx hb dX8_sumOfParcels_32 (by decide) ?_
          exact ih4 v_5 v_6 _ _ ls (by have q0 := r_v_6.1; have u0 := r_v_6.2; have o0 := r_x3.1; have p0 := r_x3.2; omega) r_v_5 (r_v_6.to (by decide)) hw (lv_sub hl [2, 3, 1, 0] rfl)
  refine lv_iconst (v := 0) hx hb dX8_sumOfParcels_0 (by decide) ?_
  refine lv_istore_n (lv' := [(2, .int 0), (0, .ref p0), (1, .ref p1)]) hx hb dX8_sumOfParcels_1 rfl hl (by decide) rfl (fun ls hl => ?_)
  refine lv_iconst (v := 0) hx hb dX8_sumOfParcels_2 (by decide) ?_
  refine lv_istore_n (lv' := [(3, .int 0), (2, .int 0), (0, .ref p0), (1, .ref p1)]) hx hb dX8_sumOfParcels_3 rfl hl (by decide) rfl (fun ls hl => ?_)
  exact B4 4294967298 0 0 _ _ ls (by have q0 := rl_0.1; have u0 := rl_0.2; omega) (rl_0.to (by decide)) (rl_0.to (by decide)) hw (lv_sub hl [2, 3, 1, 0] rfl)
abbrev wr_X8_takeFrom : List (Nat × Nat) := [(8, 0), (8, 1)]
abbrev wa_X8_takeFrom : List Nat := [8, 9, 10, 11, 12, 13]
set_option maxHeartbeats 4000000 in
set_option maxRecDepth 100000 in
theorem c_X8_takeFrom (l : Launch) (D : va_G) (cy : Nat → ClassId) (z : Nat → Nat) (sz : Nat) (Ps : PSI) (w0 : va_W) (hT : HT cy GG Ps w0) (p0 : Nat) (p1 : Nat) (h_p0 : (p0, 24) ∈ Ps) (h_p1 : (p1, 24) ∈ Ps) : Met l yX8_takeFrom (Cond.code yX8_takeFrom cX8_takeFrom 2 none :: gT) ({ frames := 2, cells := 0, slots := 0, locals := 400 } : Room) (va_Pc [.ref p0, .ref p1] (PRE D cy z w0 sz)) (va_Qv (fun (u : va_W) => (True) ∧ HT cy GG Ps u ∧ FR wr_X8_takeFrom wa_X8_takeFrom Ps w0 u) (BB D cy (va_A w0 sz) (fun (u : va_W) => u)) (va_A w0 sz)) 0 0 (va_A w0 sz) := by
  refine Met.ofW (cc := cX8_takeFrom) (maxL := 2) (ret := none) (by decide) rfl ?_
  intro p e s m args below meth c s₁ B hml hv
  obtain ⟨rfl, hsz, hP, hK, hD0, hSD⟩ := hv
  have hx := B.exec
  have hb := B.bytes
  have hr := B.returns
  have hlocks := B.notSynchronized
  have hts : ∀ w ∈ gT, w.before _ s = true := fun w h => atoms_spec (ws := Cond.code yX8_takeFrom cX8_takeFrom 2 none :: gT) B.pre w (List.mem_cons_of_mem _ h)
  have hown : s.vm.findClass RX8 = some m.cls := findClass_of_methodNamed B.named
  subst hsz
  have hD := hD0.self (sz := s.heap.size)
  generalize hAe : va_A w0 s.heap.size = A at hD hSD ⊢
  have hA : ∀ q : Nat, s.heap.size ≤ q → A q := fun q h => by rw [← hAe]; exact Or.inr h
  have hl := lv_entry ([.ref p0, .ref p1]) (n := 2) (Nat.le_of_ble_eq_true rfl)
  rw [lg_entry_eq]
  generalize (lg_sl ([.ref p0, .ref p1]) ++ List.replicate (2 - (lg_sl ([.ref p0, .ref p1])).length) Slot.unset).toArray = ls at hl ⊢
  have hl : lv_has ls 2 [(0, .ref p0), (1, .ref p1)] := hl
  refine nameQ (fun Q hQ => ?_)
  have hw : WD D cy GG A s wr_X8_takeFrom wa_X8_takeFrom Ps w0 Ps w0 s.heap [] := ⟨hT, hP, hD, va_S.rf, FR.rf, hT.1, [], (List.append_nil _).symm⟩
  refine lv_aload_n hx hb dX8_takeFrom_0 rfl (lv_at hl 0 rfl) ?_
  refine lv_aload_n hx hb dX8_takeFrom_1 rfl (lv_at hl 1 rfl) ?_
  refine tg_get (ci := 8) (ts := ty_WORLD) (C := RX8) (T := TX8) (N := 13) hx hb hts inX8 hown hK hw h_p1 rfl rfl 0 (by decide) (hts _ tw_247) (fun _ h9 => h9) (ft := vR 25) rfl dX8_takeFrom_2 (fun u_1 hv_u_1 m_u_1 => ?_)
  obtain ⟨vu_1, rfl, h_vu_1⟩ := hv_u_1
  refine tg_put (ci := 8) (ts := ty_WORLD) (v := .ref vu_1) (ty := .object "WonderParcels$Post") (C := RX8) (T := TX8) (N := 13) hx hb hts inX8 tyX8 tyX8_ok nmX8 hown hK hw h_p0 rfl rfl 0 (by decide) (hts _ tw_247) (fun _ h9 => h9) rfl (by decide +kernel) rfl rfl (ft := vR 25) rfl ⟨_, rfl, h_vu_1⟩ (by decide) dX8_takeFrom_5 (fun ws H locs hw n_k_2 hF9 => ?_)
  refine lv_aload_n hx hb dX8_takeFrom_8 rfl (lv_at hl 0 rfl) ?_
  refine lv_aload_n hx hb dX8_takeFrom_9 rfl (lv_at hl 1 rfl) ?_
  refine tg_get (ci := 8) (ts := ty_WORLD) (C := RX8) (T := TX8) (N := 13) hx hb hts inX8 hown hK hw h_p1 rfl rfl 1 (by decide) (hts _ tw_250) (fun _ h9 => h9) (ft := vI (-2147483648) 2147483647) rfl dX8_takeFrom_10 (fun u_3 hv_u_3 m_u_3 => ?_)
  obtain ⟨vu_3, rfl, r_vu_3⟩ := hv_u_3
  refine tg_put (ci := 8) (ts := ty_WORLD) (v := .int vu_3) (ty := .int) (C := RX8) (T := TX8) (N := 13) hx hb hts inX8 tyX8 tyX8_ok nmX8 hown hK hw h_p0 rfl rfl 1 (by decide) (hts _ tw_250) (fun _ h9 => h9) rfl (by decide +kernel) rfl rfl (ft := vI (-2147483648) 2147483647) rfl ⟨_, rfl, r_vu_3⟩ (by decide) dX8_takeFrom_13 (fun ws H locs hw n_k_4 hF9 => ?_)
  refine lv_aload_n hx hb dX8_takeFrom_16 rfl (lv_at hl 1 rfl) ?_
  refine tg_get (ci := 8) (ts := ty_WORLD) (C := RX8) (T := TX8) (N := 13) hx hb hts inX8 hown hK hw h_p1 rfl rfl 2 (by decide) (hts _ tw_252) (fun _ h9 => h9) (ft := vR 8) rfl dX8_takeFrom_17 (fun u_5 hv_u_5 m_u_5 => ?_)
  obtain ⟨vu_5, rfl, h_vu_5⟩ := hv_u_5
  refine lv_iconst (v := 0) hx hb dX8_takeFrom_20 (by decide) ?_
  refine lv_aload_n hx hb dX8_takeFrom_21 rfl (lv_at hl 0 rfl) ?_
  refine tg_get (ci := 8) (ts := ty_WORLD) (C := RX8) (T := TX8) (N := 13) hx hb hts inX8 hown hK hw h_p0 rfl rfl 2 (by decide) (hts _ tw_252) (fun _ h9 => h9) (ft := vR 8) rfl dX8_takeFrom_22 (fun u_6 hv_u_6 m_u_6 => ?_)
  obtain ⟨vu_6, rfl, h_vu_6⟩ := hv_u_6
  refine lv_iconst (v := 0) hx hb dX8_takeFrom_25 (by decide) ?_
  refine lv_aload_n hx hb dX8_takeFrom_26 rfl (lv_at hl 0 rfl) ?_
  refine tg_mem (ci := 8) (C := RX8) (T := TX8) (N := 13) hx hb hts inX8 hown hK hw 2 m_u_6 rfl (by decide) (hts _ tw_252) (fun _ h9 => h9) dX8_takeFrom_27 ?_
  refine tg_alenI (t0 := 1) (v := 36) hx hb hK hw h_vu_6 rfl rfl rfl dX8_takeFrom_30 ?_
  refine tg_copy (lo := (-2147483648)) (hi := 2147483647) (lo2 := (-2147483648)) (hi2 := 2147483647) hx hb (hml.trans hl.1.symm) hown (hts _ tw_525) (hts _ tw_527) (hts _ tw_526) (hts _ tw_17) hK hw h_vu_5 h_vu_6 rfl rfl (by decide) rl_36 (by decide) (by decide) (Nat.le_of_ble_eq_true rfl) (Nat.le_of_ble_eq_true rfl) dX8_takeFrom_31 (fun ws H locs hw hF9 => ?_)
  have n_k_4 := FLD.over hF9 n_k_4 (by decide)
  refine lv_aload_n hx hb dX8_takeFrom_34 rfl (lv_at hl 1 rfl) ?_
  refine tg_get (ci := 8) (ts := ty_WORLD) (C := RX8) (T := TX8) (N := 13) hx hb hts inX8 hown hK hw h_p1 rfl rfl 3 (by decide) (hts _ tw_253) (fun _ h9 => h9) (ft := vR 9) rfl dX8_takeFrom_35 (fun u_7 hv_u_7 m_u_7 => ?_)
  obtain ⟨vu_7, rfl, h_vu_7⟩ := hv_u_7
  refine lv_iconst (v := 0) hx hb dX8_takeFrom_38 (by decide) ?_
  refine lv_aload_n hx hb dX8_takeFrom_39 rfl (lv_at hl 0 rfl) ?_
  refine tg_get (ci := 8) (ts := ty_WORLD) (C := RX8) (T := TX8) (N := 13) hx hb hts inX8 hown hK hw h_p0 rfl rfl 3 (by decide) (hts _ tw_253) (fun _ h9 => h9) (ft := vR 9) rfl dX8_takeFrom_40 (fun u_8 hv_u_8 m_u_8 => ?_)
  obtain ⟨vu_8, rfl, h_vu_8⟩ := hv_u_8
  refine lv_iconst (v := 0) hx hb dX8_takeFrom_43 (by decide) ?_
  refine lv_aload_n hx hb dX8_takeFrom_44 rfl (lv_at hl 0 rfl) ?_
  refine tg_mem (ci := 8) (C := RX8) (T := TX8) (N := 13) hx hb hts inX8 hown hK hw 3 m_u_8 rfl (by decide) (hts _ tw_253) (fun _ h9 => h9) dX8_takeFrom_45 ?_
  refine tg_alenI (t0 := 1) (v := 6) hx hb hK hw h_vu_8 rfl rfl rfl dX8_takeFrom_48 ?_
  refine tg_copy (lo := (-2147483648)) (hi := 2147483647) (lo2 := (-2147483648)) (hi2 := 2147483647) hx hb (hml.trans hl.1.symm) hown (hts _ tw_525) (hts _ tw_527) (hts _ tw_526) (hts _ tw_17) hK hw h_vu_7 h_vu_8 rfl rfl (by decide) rl_6 (by decide) (by decide) (Nat.le_of_ble_eq_true rfl) (Nat.le_of_ble_eq_true rfl) dX8_takeFrom_49 (fun ws H locs hw hF9 => ?_)
  have n_k_4 := FLD.over hF9 n_k_4 (by decide)
  refine lv_aload_n hx hb dX8_takeFrom_52 rfl (lv_at hl 1 rfl) ?_
  refine tg_get (ci := 8) (ts := ty_WORLD) (C := RX8) (T := TX8) (N := 13) hx hb hts inX8 hown hK hw h_p1 rfl rfl 4 (by decide) (hts _ tw_257) (fun _ h9 => h9) (ft := vR 10) rfl dX8_takeFrom_53 (fun u_9 hv_u_9 m_u_9 => ?_)
  obtain ⟨vu_9, rfl, h_vu_9⟩ := hv_u_9
  refine lv_iconst (v := 0) hx hb dX8_takeFrom_56 (by decide) ?_
  refine lv_aload_n hx hb dX8_takeFrom_57 rfl (lv_at hl 0 rfl) ?_
  refine tg_get (ci := 8) (ts := ty_WORLD) (C := RX8) (T := TX8) (N := 13) hx hb hts inX8 hown hK hw h_p0 rfl rfl 4 (by decide) (hts _ tw_257) (fun _ h9 => h9) (ft := vR 10) rfl dX8_takeFrom_58 (fun u_10 hv_u_10 m_u_10 => ?_)
  obtain ⟨vu_10, rfl, h_vu_10⟩ := hv_u_10
  refine lv_iconst (v := 0) hx hb dX8_takeFrom_61 (by decide) ?_
  refine lv_aload_n hx hb dX8_takeFrom_62 rfl (lv_at hl 0 rfl) ?_
  refine tg_mem (ci := 8) (C := RX8) (T := TX8) (N := 13) hx hb hts inX8 hown hK hw 4 m_u_10 rfl (by decide) (hts _ tw_257) (fun _ h9 => h9) dX8_takeFrom_63 ?_
  refine tg_alenI (t0 := 1) (v := 6) hx hb hK hw h_vu_10 rfl rfl rfl dX8_takeFrom_66 ?_
  refine tg_copy (lo := (-2147483648)) (hi := 2147483647) (lo2 := (-2147483648)) (hi2 := 2147483647) hx hb (hml.trans hl.1.symm) hown (hts _ tw_525) (hts _ tw_527) (hts _ tw_526) (hts _ tw_17) hK hw h_vu_9 h_vu_10 rfl rfl (by decide) rl_6 (by decide) (by decide) (Nat.le_of_ble_eq_true rfl) (Nat.le_of_ble_eq_true rfl) dX8_takeFrom_67 (fun ws H locs hw hF9 => ?_)
  have n_k_4 := FLD.over hF9 n_k_4 (by decide)
  refine lv_aload_n hx hb dX8_takeFrom_70 rfl (lv_at hl 1 rfl) ?_
  refine tg_get (ci := 8) (ts := ty_WORLD) (C := RX8) (T := TX8) (N := 13) hx hb hts inX8 hown hK hw h_p1 rfl rfl 5 (by decide) (hts _ tw_260) (fun _ h9 => h9) (ft := vR 10) rfl dX8_takeFrom_71 (fun u_11 hv_u_11 m_u_11 => ?_)
  obtain ⟨vu_11, rfl, h_vu_11⟩ := hv_u_11
  refine lv_iconst (v := 0) hx hb dX8_takeFrom_74 (by decide) ?_
  refine lv_aload_n hx hb dX8_takeFrom_75 rfl (lv_at hl 0 rfl) ?_
  refine tg_get (ci := 8) (ts := ty_WORLD) (C := RX8) (T := TX8) (N := 13) hx hb hts inX8 hown hK hw h_p0 rfl rfl 5 (by decide) (hts _ tw_260) (fun _ h9 => h9) (ft := vR 10) rfl dX8_takeFrom_76 (fun u_12 hv_u_12 m_u_12 => ?_)
  obtain ⟨vu_12, rfl, h_vu_12⟩ := hv_u_12
  refine lv_iconst (v := 0) hx hb dX8_takeFrom_79 (by decide) ?_
  refine lv_aload_n hx hb dX8_takeFrom_80 rfl (lv_at hl 0 rfl) ?_
  refine tg_mem (ci := 8) (C := RX8) (T := TX8) (N := 13) hx hb hts inX8 hown hK hw 5 m_u_12 rfl (by decide) (hts _ tw_260) (fun _ h9 => h9) dX8_takeFrom_81 ?_
  refine tg_alenI (t0 := 1) (v := 6) hx hb hK hw h_vu_12 rfl rfl rfl dX8_takeFrom_84 ?_
  refine tg_copy (lo := (-2147483648)) (hi := 2147483647) (lo2 := (-2147483648)) (hi2 := 2147483647) hx hb (hml.trans hl.1.symm) hown (hts _ tw_525) (hts _ tw_527) (hts _ tw_526) (hts _ tw_17) hK hw h_vu_11 h_vu_12 rfl rfl (by decide) rl_6 (by decide) (by decide) (Nat.le_of_ble_eq_true rfl) (Nat.le_of_ble_eq_true rfl) dX8_takeFrom_85 (fun ws H locs hw hF9 => ?_)
  have n_k_4 := FLD.over hF9 n_k_4 (by decide)
  refine lv_aload_n hx hb dX8_takeFrom_88 rfl (lv_at hl 1 rfl) ?_
  refine tg_get (ci := 8) (ts := ty_WORLD) (C := RX8) (T := TX8) (N := 13) hx hb hts inX8 hown hK hw h_p1 rfl rfl 6 (by decide) (hts _ tw_262) (fun _ h9 => h9) (ft := vR 10) rfl dX8_takeFrom_89 (fun u_13 hv_u_13 m_u_13 => ?_)
  obtain ⟨vu_13, rfl, h_vu_13⟩ := hv_u_13
  refine lv_iconst (v := 0) hx hb dX8_takeFrom_92 (by decide) ?_
  refine lv_aload_n hx hb dX8_takeFrom_93 rfl (lv_at hl 0 rfl) ?_
  refine tg_get (ci := 8) (ts := ty_WORLD) (C := RX8) (T := TX8) (N := 13) hx hb hts inX8 hown hK hw h_p0 rfl rfl 6 (by decide) (hts _ tw_262) (fun _ h9 => h9) (ft := vR 10) rfl dX8_takeFrom_94 (fun u_14 hv_u_14 m_u_14 => ?_)
  obtain ⟨vu_14, rfl, h_vu_14⟩ := hv_u_14
  refine lv_iconst (v := 0) hx hb dX8_takeFrom_97 (by decide) ?_
  refine lv_aload_n hx hb dX8_takeFrom_98 rfl (lv_at hl 0 rfl) ?_
  refine tg_mem (ci := 8) (C := RX8) (T := TX8) (N := 13) hx hb hts inX8 hown hK hw 6 m_u_14 rfl (by decide) (hts _ tw_262) (fun _ h9 => h9) dX8_takeFrom_99 ?_
  refine tg_alenI (t0 := 1) (v := 6) hx hb hK hw h_vu_14 rfl rfl rfl dX8_takeFrom_102 ?_
  refine tg_copy (lo := (-2147483648)) (hi := 2147483647) (lo2 := (-2147483648)) (hi2 := 2147483647) hx hb (hml.trans hl.1.symm) hown (hts _ tw_525) (hts _ tw_527) (hts _ tw_526) (hts _ tw_17) hK hw h_vu_13 h_vu_14 rfl rfl (by decide) rl_6 (by decide) (by decide) (Nat.le_of_ble_eq_true rfl) (Nat.le_of_ble_eq_true rfl) dX8_takeFrom_103 (fun ws H locs hw hF9 => ?_)
  have n_k_4 := FLD.over hF9 n_k_4 (by decide)
  refine lv_aload_n hx hb dX8_takeFrom_106 rfl (lv_at hl 1 rfl) ?_
  refine tg_get (ci := 8) (ts := ty_WORLD) (C := RX8) (T := TX8) (N := 13) hx hb hts inX8 hown hK hw h_p1 rfl rfl 7 (by decide) (hts _ tw_265) (fun _ h9 => h9) (ft := vR 11) rfl dX8_takeFrom_107 (fun u_15 hv_u_15 m_u_15 => ?_)
  obtain ⟨vu_15, rfl, h_vu_15⟩ := hv_u_15
  refine lv_iconst (v := 0) hx hb dX8_takeFrom_110 (by decide) ?_
  refine lv_aload_n hx hb dX8_takeFrom_111 rfl (lv_at hl 0 rfl) ?_
  refine tg_get (ci := 8) (ts := ty_WORLD) (C := RX8) (T := TX8) (N := 13) hx hb hts inX8 hown hK hw h_p0 rfl rfl 7 (by decide) (hts _ tw_265) (fun _ h9 => h9) (ft := vR 11) rfl dX8_takeFrom_112 (fun u_16 hv_u_16 m_u_16 => ?_)
  obtain ⟨vu_16, rfl, h_vu_16⟩ := hv_u_16
  refine lv_iconst (v := 0) hx hb dX8_takeFrom_115 (by decide) ?_
  refine lv_aload_n hx hb dX8_takeFrom_116 rfl (lv_at hl 0 rfl) ?_
  refine tg_mem (ci := 8) (C := RX8) (T := TX8) (N := 13) hx hb hts inX8 hown hK hw 7 m_u_16 rfl (by decide) (hts _ tw_265) (fun _ h9 => h9) dX8_takeFrom_117 ?_
  refine tg_alenI (t0 := 1) (v := 8) hx hb hK hw h_vu_16 rfl rfl rfl dX8_takeFrom_120 ?_
  refine tg_copy (lo := 0) (hi := 5) (lo2 := 0) (hi2 := 5) hx hb (hml.trans hl.1.symm) hown (hts _ tw_525) (hts _ tw_527) (hts _ tw_526) (hts _ tw_17) hK hw h_vu_15 h_vu_16 rfl rfl (by decide) rl_8 (by decide) (by decide) (Nat.le_of_ble_eq_true rfl) (Nat.le_of_ble_eq_true rfl) dX8_takeFrom_121 (fun ws H locs hw hF9 => ?_)
  have n_k_4 := FLD.over hF9 n_k_4 (by decide)
  refine lv_aload_n hx hb dX8_takeFrom_124 rfl (lv_at hl 1 rfl) ?_
  refine tg_get (ci := 8) (ts := ty_WORLD) (C := RX8) (T := TX8) (N := 13) hx hb hts inX8 hown hK hw h_p1 rfl rfl 8 (by decide) (hts _ tw_268) (fun _ h9 => h9) (ft := vR 12) rfl dX8_takeFrom_125 (fun u_17 hv_u_17 m_u_17 => ?_)
  obtain ⟨vu_17, rfl, h_vu_17⟩ := hv_u_17
  refine lv_iconst (v := 0) hx hb dX8_takeFrom_128 (by decide) ?_
  refine lv_aload_n hx hb dX8_takeFrom_129 rfl (lv_at hl 0 rfl) ?_
  refine tg_get (ci := 8) (ts := ty_WORLD) (C := RX8) (T := TX8) (N := 13) hx hb hts inX8 hown hK hw h_p0 rfl rfl 8 (by decide) (hts _ tw_268) (fun _ h9 => h9) (ft := vR 12) rfl dX8_takeFrom_130 (fun u_18 hv_u_18 m_u_18 => ?_)
  obtain ⟨vu_18, rfl, h_vu_18⟩ := hv_u_18
  refine lv_iconst (v := 0) hx hb dX8_takeFrom_133 (by decide) ?_
  refine lv_aload_n hx hb dX8_takeFrom_134 rfl (lv_at hl 0 rfl) ?_
  refine tg_mem (ci := 8) (C := RX8) (T := TX8) (N := 13) hx hb hts inX8 hown hK hw 8 m_u_18 rfl (by decide) (hts _ tw_268) (fun _ h9 => h9) dX8_takeFrom_135 ?_
  refine tg_alenI (t0 := 1) (v := 8) hx hb hK hw h_vu_18 rfl rfl rfl dX8_takeFrom_138 ?_
  refine tg_copy (lo := (-1)) (hi := 5) (lo2 := (-1)) (hi2 := 5) hx hb (hml.trans hl.1.symm) hown (hts _ tw_525) (hts _ tw_527) (hts _ tw_526) (hts _ tw_17) hK hw h_vu_17 h_vu_18 rfl rfl (by decide) rl_8 (by decide) (by decide) (Nat.le_of_ble_eq_true rfl) (Nat.le_of_ble_eq_true rfl) dX8_takeFrom_139 (fun ws H locs hw hF9 => ?_)
  have n_k_4 := FLD.over hF9 n_k_4 (by decide)
  refine lv_aload_n hx hb dX8_takeFrom_142 rfl (lv_at hl 1 rfl) ?_
  refine tg_get (ci := 8) (ts := ty_WORLD) (C := RX8) (T := TX8) (N := 13) hx hb hts inX8 hown hK hw h_p1 rfl rfl 9 (by decide) (hts _ tw_271) (fun _ h9 => h9) (ft := vR 13) rfl dX8_takeFrom_143 (fun u_19 hv_u_19 m_u_19 => ?_)
  obtain ⟨vu_19, rfl, h_vu_19⟩ := hv_u_19
  refine lv_iconst (v := 0) hx hb dX8_takeFrom_146 (by decide) ?_
  refine lv_aload_n hx hb dX8_takeFrom_147 rfl (lv_at hl 0 rfl) ?_
  refine tg_get (ci := 8) (ts := ty_WORLD) (C := RX8) (T := TX8) (N := 13) hx hb hts inX8 hown hK hw h_p0 rfl rfl 9 (by decide) (hts _ tw_271) (fun _ h9 => h9) (ft := vR 13) rfl dX8_takeFrom_148 (fun u_20 hv_u_20 m_u_20 => ?_)
  obtain ⟨vu_20, rfl, h_vu_20⟩ := hv_u_20
  refine lv_iconst (v := 0) hx hb dX8_takeFrom_151 (by decide) ?_
  refine lv_aload_n hx hb dX8_takeFrom_152 rfl (lv_at hl 0 rfl) ?_
  refine tg_mem (ci := 8) (C := RX8) (T := TX8) (N := 13) hx hb hts inX8 hown hK hw 9 m_u_20 rfl (by decide) (hts _ tw_271) (fun _ h9 => h9) dX8_takeFrom_153 ?_
  refine tg_alenI (t0 := 1) (v := 8) hx hb hK hw h_vu_20 rfl rfl rfl dX8_takeFrom_156 ?_
  refine tg_copy (lo := (-2147483648)) (hi := 2147483647) (lo2 := (-2147483648)) (hi2 := 2147483647) hx hb (hml.trans hl.1.symm) hown (hts _ tw_525) (hts _ tw_527) (hts _ tw_526) (hts _ tw_17) hK hw h_vu_19 h_vu_20 rfl rfl (by decide) rl_8 (by decide) (by decide) (Nat.le_of_ble_eq_true rfl) (Nat.le_of_ble_eq_true rfl) dX8_takeFrom_157 (fun ws H locs hw hF9 => ?_)
  have n_k_4 := FLD.over hF9 n_k_4 (by decide)
  refine lv_aload_n hx hb dX8_takeFrom_160 rfl (lv_at hl 1 rfl) ?_
  refine tg_get (ci := 8) (ts := ty_WORLD) (C := RX8) (T := TX8) (N := 13) hx hb hts inX8 hown hK hw h_p1 rfl rfl 10 (by decide) (hts _ tw_273) (fun _ h9 => h9) (ft := vR 13) rfl dX8_takeFrom_161 (fun u_21 hv_u_21 m_u_21 => ?_)
  obtain ⟨vu_21, rfl, h_vu_21⟩ := hv_u_21
  refine lv_iconst (v := 0) hx hb dX8_takeFrom_164 (by decide) ?_
  refine lv_aload_n hx hb dX8_takeFrom_165 rfl (lv_at hl 0 rfl) ?_
  refine tg_get (ci := 8) (ts := ty_WORLD) (C := RX8) (T := TX8) (N := 13) hx hb hts inX8 hown hK hw h_p0 rfl rfl 10 (by decide) (hts _ tw_273) (fun _ h9 => h9) (ft := vR 13) rfl dX8_takeFrom_166 (fun u_22 hv_u_22 m_u_22 => ?_)
  obtain ⟨vu_22, rfl, h_vu_22⟩ := hv_u_22
  refine lv_iconst (v := 0) hx hb dX8_takeFrom_169 (by decide) ?_
  refine lv_aload_n hx hb dX8_takeFrom_170 rfl (lv_at hl 0 rfl) ?_
  refine tg_mem (ci := 8) (C := RX8) (T := TX8) (N := 13) hx hb hts inX8 hown hK hw 10 m_u_22 rfl (by decide) (hts _ tw_273) (fun _ h9 => h9) dX8_takeFrom_171 ?_
  refine tg_alenI (t0 := 1) (v := 8) hx hb hK hw h_vu_22 rfl rfl rfl dX8_takeFrom_174 ?_
  refine tg_copy (lo := (-2147483648)) (hi := 2147483647) (lo2 := (-2147483648)) (hi2 := 2147483647) hx hb (hml.trans hl.1.symm) hown (hts _ tw_525) (hts _ tw_527) (hts _ tw_526) (hts _ tw_17) hK hw h_vu_21 h_vu_22 rfl rfl (by decide) rl_8 (by decide) (by decide) (Nat.le_of_ble_eq_true rfl) (Nat.le_of_ble_eq_true rfl) dX8_takeFrom_175 (fun ws H locs hw hF9 => ?_)
  have n_k_4 := FLD.over hF9 n_k_4 (by decide)
  subst hQ
  exact W.vret hx hb hr (fun t ht hW => ⟨⟨ws, rfl, ⟨trivial, hw.1, hw.2.2.2.2.1⟩, by rw [ht]; exact hw.2.1, va_K.moved hW.alike hK, hw.2.2.1⟩, hw.2.2.2.1.F ht⟩) hw.2.2.2.1.2.2 dX8_takeFrom_178
abbrev wr_X8_whichAreNothing : List (Nat × Nat) := []
abbrev wa_X8_whichAreNothing : List Nat := []
set_option maxHeartbeats 4000000 in
set_option maxRecDepth 100000 in
theorem c_X8_whichAreNothing (l : Launch) (D : va_G) (cy : Nat → ClassId) (z : Nat → Nat) (sz : Nat) (Ps : PSI) (w0 : va_W) (hT : HT cy GG Ps w0) (p0 : Nat) (h_p0 : (p0, 24) ∈ Ps) : Met l yX8_whichAreNothing (Cond.code yX8_whichAreNothing cX8_whichAreNothing 3 (some .int) :: gT) ({ frames := 4, cells := 0, slots := 0, locals := 800 } : Room) (va_Pc [.ref p0] (PRE D cy z w0 sz)) (va_Qi (fun (r : Int32) (u : Unit) => RI r (-2147483648) 2147483647 ∧ (r = 0 → True) ∧ (¬ r = 0 → True)) (BB D cy (va_A w0 sz) (fun (u : Unit) => w0)) (va_A w0 sz)) 0 0 (va_A w0 sz) := by
  refine Met.ofW (cc := cX8_whichAreNothing) (maxL := 3) (ret := (some .int)) (by decide) rfl ?_
  intro p e s m args below meth c s₁ B hml hv
  obtain ⟨rfl, hsz, hP, hK, hD0, hSD⟩ := hv
  have hx := B.exec
  have hb := B.bytes
  have hr := B.returns
  have hlocks := B.notSynchronized
  have hts : ∀ w ∈ gT, w.before _ s = true := fun w h => atoms_spec (ws := Cond.code yX8_whichAreNothing cX8_whichAreNothing 3 (some .int) :: gT) B.pre w (List.mem_cons_of_mem _ h)
  have hown : s.vm.findClass RX8 = some m.cls := findClass_of_methodNamed B.named
  subst hsz
  have hD := hD0.self (sz := s.heap.size)
  generalize hAe : va_A w0 s.heap.size = A at hD hSD ⊢
  have hA : ∀ q : Nat, s.heap.size ≤ q → A q := fun q h => by rw [← hAe]; exact Or.inr h
  have hl := lv_entry ([.ref p0]) (n := 3) (Nat.le_of_ble_eq_true rfl)
  rw [lg_entry_eq]
  generalize (lg_sl ([.ref p0]) ++ List.replicate (3 - (lg_sl ([.ref p0])).length) Slot.unset).toArray = ls at hl ⊢
  have hl : lv_has ls 3 [(0, .ref p0)] := hl
  refine nameQ (fun Q hQ => ?_)
  have hw : WD D cy GG A s wr_X8_whichAreNothing wa_X8_whichAreNothing Ps w0 Ps w0 s.heap [] := ⟨hT, hP, hD, va_S.rf, FR.rf, hT.1, [], (List.append_nil _).symm⟩
  have B4 : ∀ (nf : Nat) (x1 : Int32) (x2 : Int32) (H : Heap) (locs : List Loc) (ls : Array Slot), 6 - x2.toInt < (nf : Int) → RI x1 (-2147483648) 2147483647 → RI x2 0 6 → WD D cy GG A s wr_X8_whichAreNothing wa_X8_whichAreNothing Ps w0 Ps w0 H locs → lv_has ls 3 [(0, .ref p0), (1, .int x1), (2, .int x2)] → W p l e (headSpec (Cond.code yX8_whichAreNothing cX8_whichAreNothing 3 (some .int) :: gT) ({ frames := 4, cells := 0, slots := 0, locals := 800 } : Room)).room s m ([.ref p0] : List Value).toArray below meth c H locs 0 0 Q (F0 m 4 ls []) := by
    intro nf4
    induction nf4 with
    | zero =>
      intro x1 x2 H locs ls hn4 r_x1 r_x2 hw hl
      exact absurd hn4 (by have q0 := r_x2.1; have u0 := r_x2.2; omega)
    | succ nf4 ih4 =>
      intro x1 x2 H locs ls hn4 r_x1 r_x2 hw hl
      refine lv_iload_n hx hb dX8_whichAreNothing_4 rfl (lv_at hl 2 rfl) ?_
      refine lv_aload_n hx hb dX8_whichAreNothing_5 rfl (lv_at hl 0 rfl) ?_
      refine tg_get (ci := 8) (ts := ty_WORLD) (C := RX8) (T := TX8) (N := 13) hx hb hts inX8 hown hK hw h_p0 rfl rfl 0 (by decide) (hts _ tw_247) (fun _ h9 => h9) (ft := vR 25) rfl dX8_whichAreNothing_6 (fun u_1 hv_u_1 m_u_1 => ?_)
      obtain ⟨vu_1, rfl, h_vu_1⟩ := hv_u_1
      refine tg_getN (ci := 3) (ts := ty_POST) (C := RX3) (T := TX3) (N := 9) hx hb hts inX3 hown hK hw h_vu_1 rfl rfl 1 (by decide) (hSD.nest tn_203) (fun _ h9 => h9) (ft := vR 4) rfl dX8_whichAreNothing_9 (fun u_2 hv_u_2 m_u_2 => ?_)
      obtain ⟨vu_2, rfl, h_vu_2⟩ := hv_u_2
      refine lv_iconst (v := 2) hx hb dX8_whichAreNothing_12 (by decide) ?_
      refine tg_iald (lo := 0) (hi := 6) hx hb hK hw h_vu_2 rfl 2 2 rl_2 (by decide) (by decide +kernel) dX8_whichAreNothing_13 (fun v_3 r_v_3 m_v_3 o_v_3 => ?_)
      refine lv_icmp_ge (tgt := 38) hx hb dX8_whichAreNothing_14 (by decide) (fun c_14 => ?_) (fun c_14 => ?_)
      · refine lv_iload_n hx hb dX8_whichAreNothing_38 rfl (lv_at hl 1 rfl) ?_
        subst hQ
        exact W.iret (v := x1) hx hb hr (fun t ht hW => ⟨⟨x1, (), rfl, ⟨r_x1.to (by decide), (fun h0 => trivial), (fun h0 => trivial)⟩, by rw [ht]; exact hw.2.1, va_K.moved hW.alike hK, hw.2.2.1⟩, hw.2.2.2.1.F ht⟩) hw.2.2.2.1.2.2 dX8_whichAreNothing_39
      · have r_x2 : RI x2 0 5 := rc_lt1 r_x2 r_v_3 (ti_nle c_14) (by decide)
        have r_v_3 : RI v_3 1 6 := rc_lt2 r_x2 r_v_3 (ti_nle c_14) (by decide)
        refine lv_aload_n hx hb dX8_whichAreNothing_17 rfl (lv_at hl 0 rfl) ?_
        refine lv_iload_n hx hb dX8_whichAreNothing_18 rfl (lv_at hl 2 rfl) ?_
        refine tk_ir (va_runV (As := [.int x2]) (rest := []) ⟨hx, hb, hml, hown, hts⟩ (c_X8_isNow l D cy z H.size Ps w0 hw.1 p0 x2 h_p0 r_x2) (cwV 1 hts (gV tw_569 tw_570 tw_571 tw_12 tw_572) rfl rfl rfl (by decide +kernel) ⟨Nat.le_of_ble_eq_true rfl, Nat.le_of_ble_eq_true rfl⟩) (tg_preV hw hK hSD hA (ci := 8) (q := (RX8, TX8, 13)) rfl h_p0 rfl) rfl rfl hl.1 rfl (lv_room (Nat.le_of_ble_eq_true rfl)) dX8_whichAreNothing_19 ⟨Nat.le_of_ble_eq_true rfl, Nat.le_of_ble_eq_true rfl⟩) hw hA (fun v_4  H locs hp_v_4 hw => ?_)
        have r_v_4 : RI v_4 (-1) 5 := hp_v_4.1
        by_cases c9_v_4 : v_4.toInt < 0
        · have r_v_4 : RI v_4 (-1) (-1) := by unfold RI at r_v_4 ⊢; omega
          have x_NBQ_p0_x2 := (hp_v_4.2.2.2.2.1 (by omega)).1
          refine lv_iconst (v := (-1)) hx hb dX8_whichAreNothing_22 (by decide) ?_
          refine lv_icmp_ne (tgt := 32) hx hb dX8_whichAreNothing_23 (by decide) (fun c_23 => ?_) (fun c_23 => ?_)
          · exact absurd (r_v_4.eq.trans rl_m1.eq.symm) ((ti_ne c_23))
          · refine lv_iload_n hx hb dX8_whichAreNothing_26 rfl (lv_at hl 1 rfl) ?_
            refine lv_iconst (v := 1) hx hb dX8_whichAreNothing_27 (by decide) ?_
            refine lv_iload_n hx hb dX8_whichAreNothing_28 rfl (lv_at hl 2 rfl) ?_
            refine lv_ishl hx hb dX8_whichAreNothing_29 (lv_topi (fun v_5 e_v_5 => ?_))
            have r_v_5 : RI v_5 1 256 := by rw [e_v_5]; exact ri_shl1 (r_x2.to (c := 0) (d := 5) (by decide)) (by decide)
            refine lv_ior hx hb dX8_whichAreNothing_30 (lv_topi (fun v_6 e_v_6 => ?_))
            have r_v_6 := ri_any v_6
            refine lv_istore_n (lv' := [(1, .int v_6), (0, .ref p0), (2, .int x2)]) hx hb dX8_whichAreNothing_31 rfl hl (by decide) rfl (fun ls hl => ?_)
            obtain ⟨v_7, e_v_7⟩ : ∃ q9 : Int32, q9 = x2 + Int32.ofInt 1 := ⟨_, rfl⟩
            obtain ⟨t_v_7, r_v_7⟩ := tq_add (lo := 1) (hi := 6) r_x2 (show RI (Int32.ofInt 1) 1 1 by unfold RI; decide +kernel) (by decide +kernel) e_v_7
            have t_v_7 : v_7.toInt = x2.toInt + 1 := t_v_7
            refine lv_iinc (v := v_7) (lv' := [(2, .int v_7), (1, .int v_6), (0, .ref p0)]) hx hb dX8_whichAreNothing_32 hl (k := 2) rfl e_v_7.symm (by decide) rfl (fun ls hl => ?_)
            refine lv_goto (tgt := 4) hx hb dX8_whichAreNothing_35 (by decide) ?_
            exact ih4 v_6 v_7 _ _ ls (by have q0 := r_v_7.1; have u0 := r_v_7.2; have o0 := r_x2.1; have p0 := r_x2.2; omega) r_v_6 (r_v_7.to (by decide)) hw (lv_sub hl [2, 1, 0] rfl)
        · have r_v_4 : RI v_4 0 5 := by unfold RI at r_v_4 ⊢; omega
          have x_WBQ_p0_x2 := (hp_v_4.2.2.2.2.2 (by omega)).1
          refine lv_iconst (v := (-1)) hx hb dX8_whichAreNothing_22 (by decide) ?_
          refine lv_icmp_ne (tgt := 32) hx hb dX8_whichAreNothing_23 (by decide) (fun c_23 => ?_) (fun c_23 => ?_)
          · obtain ⟨v_8, e_v_8⟩ : ∃ q9 : Int32, q9 = x2 + Int32.ofInt 1 := ⟨_, rfl⟩
            obtain ⟨t_v_8, r_v_8⟩ := tq_add (lo := 1) (hi := 6) r_x2 (show RI (Int32.ofInt 1) 1 1 by unfold RI; decide +kernel) (by decide +kernel) e_v_8
            have t_v_8 : v_8.toInt = x2.toInt + 1 := t_v_8
            refine lv_iinc (v := v_8) (lv' := [(2, .int v_8), (0, .ref p0), (1, .int x1)]) hx hb dX8_whichAreNothing_32 hl (k := 2) rfl e_v_8.symm (by decide) rfl (fun ls hl => ?_)
            refine lv_goto (tgt := 4) hx hb dX8_whichAreNothing_35 (by decide) ?_
            exact ih4 x1 v_8 _ _ ls (by have q0 := r_v_8.1; have u0 := r_v_8.2; have o0 := r_x2.1; have p0 := r_x2.2; omega) r_x1 (r_v_8.to (by decide)) hw (lv_sub hl [1, 2, 0] rfl)
          · have r_v_4 : RI v_4 0 (-1) := rc_eq1 r_v_4 rl_m1 (ti_eq c_23) (by decide)
            exact (r_v_4.no (by decide)).elim
  refine lv_iconst (v := 0) hx hb dX8_whichAreNothing_0 (by decide) ?_
  refine lv_istore_n (lv' := [(1, .int 0), (0, .ref p0)]) hx hb dX8_whichAreNothing_1 rfl hl (by decide) rfl (fun ls hl => ?_)
  refine lv_iconst (v := 0) hx hb dX8_whichAreNothing_2 (by decide) ?_
  refine lv_istore_n (lv' := [(2, .int 0), (1, .int 0), (0, .ref p0)]) hx hb dX8_whichAreNothing_3 rfl hl (by decide) rfl (fun ls hl => ?_)
  exact B4 4294967298 0 0 _ _ ls (by have q0 := rl_0.1; have u0 := rl_0.2; omega) (rl_0.to (by decide)) (rl_0.to (by decide)) hw (lv_sub hl [2, 1, 0] rfl)
abbrev wr_X8_whichAreOpen : List (Nat × Nat) := []
abbrev wa_X8_whichAreOpen : List Nat := []
set_option maxHeartbeats 4000000 in
set_option maxRecDepth 100000 in
theorem c_X8_whichAreOpen (l : Launch) (D : va_G) (cy : Nat → ClassId) (z : Nat → Nat) (sz : Nat) (Ps : PSI) (w0 : va_W) (hT : HT cy GG Ps w0) (p0 : Nat) (h_p0 : (p0, 24) ∈ Ps) : Met l yX8_whichAreOpen (Cond.code yX8_whichAreOpen cX8_whichAreOpen 3 (some .int) :: gT) ({ frames := 2, cells := 0, slots := 0, locals := 400 } : Room) (va_Pc [.ref p0] (PRE D cy z w0 sz)) (va_Qi (fun (r : Int32) (u : Unit) => RI r (-2147483648) 2147483647 ∧ (r = 0 → True) ∧ (¬ r = 0 → True)) (BB D cy (va_A w0 sz) (fun (u : Unit) => w0)) (va_A w0 sz)) 0 0 (va_A w0 sz) := by
  refine Met.ofW (cc := cX8_whichAreOpen) (maxL := 3) (ret := (some .int)) (by decide) rfl ?_
  intro p e s m args below meth c s₁ B hml hv
  obtain ⟨rfl, hsz, hP, hK, hD0, hSD⟩ := hv
  have hx := B.exec
  have hb := B.bytes
  have hr := B.returns
  have hlocks := B.notSynchronized
  have hts : ∀ w ∈ gT, w.before _ s = true := fun w h => atoms_spec (ws := Cond.code yX8_whichAreOpen cX8_whichAreOpen 3 (some .int) :: gT) B.pre w (List.mem_cons_of_mem _ h)
  have hown : s.vm.findClass RX8 = some m.cls := findClass_of_methodNamed B.named
  subst hsz
  have hD := hD0.self (sz := s.heap.size)
  generalize hAe : va_A w0 s.heap.size = A at hD hSD ⊢
  have hA : ∀ q : Nat, s.heap.size ≤ q → A q := fun q h => by rw [← hAe]; exact Or.inr h
  have hl := lv_entry ([.ref p0]) (n := 3) (Nat.le_of_ble_eq_true rfl)
  rw [lg_entry_eq]
  generalize (lg_sl ([.ref p0]) ++ List.replicate (3 - (lg_sl ([.ref p0])).length) Slot.unset).toArray = ls at hl ⊢
  have hl : lv_has ls 3 [(0, .ref p0)] := hl
  refine nameQ (fun Q hQ => ?_)
  have hw : WD D cy GG A s wr_X8_whichAreOpen wa_X8_whichAreOpen Ps w0 Ps w0 s.heap [] := ⟨hT, hP, hD, va_S.rf, FR.rf, hT.1, [], (List.append_nil _).symm⟩
  have B4 : ∀ (nf : Nat) (x1 : Int32) (x2 : Int32) (H : Heap) (locs : List Loc) (ls : Array Slot), 6 - x2.toInt < (nf : Int) → RI x1 (-2147483648) 2147483647 → RI x2 0 6 → WD D cy GG A s wr_X8_whichAreOpen wa_X8_whichAreOpen Ps w0 Ps w0 H locs → lv_has ls 3 [(0, .ref p0), (1, .int x1), (2, .int x2)] → W p l e (headSpec (Cond.code yX8_whichAreOpen cX8_whichAreOpen 3 (some .int) :: gT) ({ frames := 2, cells := 0, slots := 0, locals := 400 } : Room)).room s m ([.ref p0] : List Value).toArray below meth c H locs 0 0 Q (F0 m 4 ls []) := by
    intro nf4
    induction nf4 with
    | zero =>
      intro x1 x2 H locs ls hn4 r_x1 r_x2 hw hl
      exact absurd hn4 (by have q0 := r_x2.1; have u0 := r_x2.2; omega)
    | succ nf4 ih4 =>
      intro x1 x2 H locs ls hn4 r_x1 r_x2 hw hl
      refine lv_iload_n hx hb dX8_whichAreOpen_4 rfl (lv_at hl 2 rfl) ?_
      refine lv_aload_n hx hb dX8_whichAreOpen_5 rfl (lv_at hl 0 rfl) ?_
      refine tg_get (ci := 8) (ts := ty_WORLD) (C := RX8) (T := TX8) (N := 13) hx hb hts inX8 hown hK hw h_p0 rfl rfl 0 (by decide) (hts _ tw_247) (fun _ h9 => h9) (ft := vR 25) rfl dX8_whichAreOpen_6 (fun u_1 hv_u_1 m_u_1 => ?_)
      obtain ⟨vu_1, rfl, h_vu_1⟩ := hv_u_1
      refine tg_getN (ci := 3) (ts := ty_POST) (C := RX3) (T := TX3) (N := 9) hx hb hts inX3 hown hK hw h_vu_1 rfl rfl 1 (by decide) (hSD.nest tn_203) (fun _ h9 => h9) (ft := vR 4) rfl dX8_whichAreOpen_9 (fun u_2 hv_u_2 m_u_2 => ?_)
      obtain ⟨vu_2, rfl, h_vu_2⟩ := hv_u_2
      refine lv_iconst (v := 2) hx hb dX8_whichAreOpen_12 (by decide) ?_
      refine tg_iald (lo := 0) (hi := 6) hx hb hK hw h_vu_2 rfl 2 2 rl_2 (by decide) (by decide +kernel) dX8_whichAreOpen_13 (fun v_3 r_v_3 m_v_3 o_v_3 => ?_)
      refine lv_icmp_ge (tgt := 37) hx hb dX8_whichAreOpen_14 (by decide) (fun c_14 => ?_) (fun c_14 => ?_)
      · refine lv_iload_n hx hb dX8_whichAreOpen_37 rfl (lv_at hl 1 rfl) ?_
        subst hQ
        exact W.iret (v := x1) hx hb hr (fun t ht hW => ⟨⟨x1, (), rfl, ⟨r_x1.to (by decide), (fun h0 => trivial), (fun h0 => trivial)⟩, by rw [ht]; exact hw.2.1, va_K.moved hW.alike hK, hw.2.2.1⟩, hw.2.2.2.1.F ht⟩) hw.2.2.2.1.2.2 dX8_whichAreOpen_38
      · have r_x2 : RI x2 0 5 := rc_lt1 r_x2 r_v_3 (ti_nle c_14) (by decide)
        have r_v_3 : RI v_3 1 6 := rc_lt2 r_x2 r_v_3 (ti_nle c_14) (by decide)
        refine lv_aload_n hx hb dX8_whichAreOpen_17 rfl (lv_at hl 0 rfl) ?_
        refine lv_iload_n hx hb dX8_whichAreOpen_18 rfl (lv_at hl 2 rfl) ?_
        refine tk_ir (va_runV (As := [.int x2]) (rest := []) ⟨hx, hb, hml, hown, hts⟩ (c_X8_isOpen l D cy z H.size Ps w0 hw.1 p0 x2 h_p0 r_x2) (cwV 1 hts (gV tw_561 tw_562 tw_563 tw_12 tw_564) rfl rfl rfl (by decide +kernel) ⟨Nat.le_of_ble_eq_true rfl, Nat.le_of_ble_eq_true rfl⟩) (tg_preV hw hK hSD hA (ci := 8) (q := (RX8, TX8, 13)) rfl h_p0 rfl) rfl rfl hl.1 rfl (lv_room (Nat.le_of_ble_eq_true rfl)) dX8_whichAreOpen_19 ⟨Nat.le_of_ble_eq_true rfl, Nat.le_of_ble_eq_true rfl⟩) hw hA (fun v_4  H locs hp_v_4 hw => ?_)
        have r_v_4 : RI v_4 0 1 := hp_v_4.1
        refine lv_if_eq (tgt := 31) hx hb dX8_whichAreOpen_22 (by decide) (fun c_22 => ?_) (fun c_22 => ?_)
        · have r_v_4 : RI v_4 0 0 := rc_eq1 r_v_4 rl_0 (ti_eq c_22) (by decide)
          obtain ⟨v_5, e_v_5⟩ : ∃ q9 : Int32, q9 = x2 + Int32.ofInt 1 := ⟨_, rfl⟩
          obtain ⟨t_v_5, r_v_5⟩ := tq_add (lo := 1) (hi := 6) r_x2 (show RI (Int32.ofInt 1) 1 1 by unfold RI; decide +kernel) (by decide +kernel) e_v_5
          have t_v_5 : v_5.toInt = x2.toInt + 1 := t_v_5
          refine lv_iinc (v := v_5) (lv' := [(2, .int v_5), (0, .ref p0), (1, .int x1)]) hx hb dX8_whichAreOpen_31 hl (k := 2) rfl e_v_5.symm (by decide) rfl (fun ls hl => ?_)
          refine lv_goto (tgt := 4) hx hb dX8_whichAreOpen_34 (by decide) ?_
          exact ih4 x1 v_5 _ _ ls (by have q0 := r_v_5.1; have u0 := r_v_5.2; have o0 := r_x2.1; have p0 := r_x2.2; omega) r_x1 (r_v_5.to (by decide)) hw (lv_sub hl [1, 2, 0] rfl)
        · have r_v_4 : RI v_4 1 1 := rc_neL r_v_4 rl_0 (ti_ne c_22) (by decide)
          refine lv_iload_n hx hb dX8_whichAreOpen_25 rfl (lv_at hl 1 rfl) ?_
          refine lv_iconst (v := 1) hx hb dX8_whichAreOpen_26 (by decide) ?_
          refine lv_iload_n hx hb dX8_whichAreOpen_27 rfl (lv_at hl 2 rfl) ?_
          refine lv_ishl hx hb dX8_whichAreOpen_28 (lv_topi (fun v_6 e_v_6 => ?_))
          have r_v_6 : RI v_6 1 256 := by rw [e_v_6]; exact ri_shl1 (r_x2.to (c := 0) (d := 5) (by decide)) (by decide)
          refine lv_ior hx hb dX8_whichAreOpen_29 (lv_topi (fun v_7 e_v_7 => ?_))
          have r_v_7 := ri_any v_7
          refine lv_istore_n (lv' := [(1, .int v_7), (0, .ref p0), (2, .int x2)]) hx hb dX8_whichAreOpen_30 rfl hl (by decide) rfl (fun ls hl => ?_)
          obtain ⟨v_8, e_v_8⟩ : ∃ q9 : Int32, q9 = x2 + Int32.ofInt 1 := ⟨_, rfl⟩
          obtain ⟨t_v_8, r_v_8⟩ := tq_add (lo := 1) (hi := 6) r_x2 (show RI (Int32.ofInt 1) 1 1 by unfold RI; decide +kernel) (by decide +kernel) e_v_8
          have t_v_8 : v_8.toInt = x2.toInt + 1 := t_v_8
          refine lv_iinc (v := v_8) (lv' := [(2, .int v_8), (1, .int v_7), (0, .ref p0)]) hx hb dX8_whichAreOpen_31 hl (k := 2) rfl e_v_8.symm (by decide) rfl (fun ls hl => ?_)
          refine lv_goto (tgt := 4) hx hb dX8_whichAreOpen_34 (by decide) ?_
          exact ih4 v_7 v_8 _ _ ls (by have q0 := r_v_8.1; have u0 := r_v_8.2; have o0 := r_x2.1; have p0 := r_x2.2; omega) r_v_7 (r_v_8.to (by decide)) hw (lv_sub hl [2, 1, 0] rfl)
  refine lv_iconst (v := 0) hx hb dX8_whichAreOpen_0 (by decide) ?_
  refine lv_istore_n (lv' := [(1, .int 0), (0, .ref p0)]) hx hb dX8_whichAreOpen_1 rfl hl (by decide) rfl (fun ls hl => ?_)
  refine lv_iconst (v := 0) hx hb dX8_whichAreOpen_2 (by decide) ?_
  refine lv_istore_n (lv' := [(2, .int 0), (1, .int 0), (0, .ref p0)]) hx hb dX8_whichAreOpen_3 rfl hl (by decide) rfl (fun ls hl => ?_)
  exact B4 4294967298 0 0 _ _ ls (by have q0 := rl_0.1; have u0 := rl_0.2; omega) (rl_0.to (by decide)) (rl_0.to (by decide)) hw (lv_sub hl [2, 1, 0] rfl)
abbrev wr_X8_whoSitsBy : List (Nat × Nat) := []
abbrev wa_X8_whoSitsBy : List Nat := []
set_option maxHeartbeats 4000000 in
set_option maxRecDepth 100000 in
theorem c_X8_whoSitsBy (l : Launch) (D : va_G) (cy : Nat → ClassId) (z : Nat → Nat) (sz : Nat) (Ps : PSI) (w0 : va_W) (hT : HT cy GG Ps w0) (p0 : Nat) (p1 : Int32) (h_p0 : (p0, 24) ∈ Ps) (r_p1 : RI p1 (-2147483648) 2147483647) : Met l yX8_whoSitsBy (Cond.code yX8_whoSitsBy cX8_whoSitsBy 4 (some .int) :: gT) ({ frames := 0, cells := 0, slots := 0, locals := 200 } : Room) (va_Pc [.ref p0, .int p1] (PRE D cy z w0 sz)) (va_Qi (fun (r : Int32) (u : Unit) => RI r (-2147483648) 2147483647 ∧ (r = 0 → True) ∧ (¬ r = 0 → True)) (BB D cy (va_A w0 sz) (fun (u : Unit) => w0)) (va_A w0 sz)) 0 0 (va_A w0 sz) := by
  refine Met.ofW (cc := cX8_whoSitsBy) (maxL := 4) (ret := (some .int)) (by decide) rfl ?_
  intro p e s m args below meth c s₁ B hml hv
  obtain ⟨rfl, hsz, hP, hK, hD0, hSD⟩ := hv
  have hx := B.exec
  have hb := B.bytes
  have hr := B.returns
  have hlocks := B.notSynchronized
  have hts : ∀ w ∈ gT, w.before _ s = true := fun w h => atoms_spec (ws := Cond.code yX8_whoSitsBy cX8_whoSitsBy 4 (some .int) :: gT) B.pre w (List.mem_cons_of_mem _ h)
  have hown : s.vm.findClass RX8 = some m.cls := findClass_of_methodNamed B.named
  subst hsz
  have hD := hD0.self (sz := s.heap.size)
  generalize hAe : va_A w0 s.heap.size = A at hD hSD ⊢
  have hA : ∀ q : Nat, s.heap.size ≤ q → A q := fun q h => by rw [← hAe]; exact Or.inr h
  have hl := lv_entry ([.ref p0, .int p1]) (n := 4) (Nat.le_of_ble_eq_true rfl)
  rw [lg_entry_eq]
  generalize (lg_sl ([.ref p0, .int p1]) ++ List.replicate (4 - (lg_sl ([.ref p0, .int p1])).length) Slot.unset).toArray = ls at hl ⊢
  have hl : lv_has ls 4 [(0, .ref p0), (1, .int p1)] := hl
  refine nameQ (fun Q hQ => ?_)
  have hw : WD D cy GG A s wr_X8_whoSitsBy wa_X8_whoSitsBy Ps w0 Ps w0 s.heap [] := ⟨hT, hP, hD, va_S.rf, FR.rf, hT.1, [], (List.append_nil _).symm⟩
  have B4 : ∀ (nf : Nat) (x2 : Int32) (x3 : Int32) (H : Heap) (locs : List Loc) (ls : Array Slot), 8 - x3.toInt < (nf : Int) → RI p1 (-2147483648) 2147483647 → RI x2 (-2147483648) 2147483647 → RI x3 0 8 → WD D cy GG A s wr_X8_whoSitsBy wa_X8_whoSitsBy Ps w0 Ps w0 H locs → lv_has ls 4 [(0, .ref p0), (1, .int p1), (2, .int x2), (3, .int x3)] → W p l e (headSpec (Cond.code yX8_whoSitsBy cX8_whoSitsBy 4 (some .int) :: gT) ({ frames := 0, cells := 0, slots := 0, locals := 200 } : Room)).room s m ([.ref p0, .int p1] : List Value).toArray below meth c H locs 0 0 Q (F0 m 4 ls []) := by
    intro nf4
    induction nf4 with
    | zero =>
      intro x2 x3 H locs ls hn4 r_p1 r_x2 r_x3 hw hl
      exact absurd hn4 (by have q0 := r_x3.1; have u0 := r_x3.2; omega)
    | succ nf4 ih4 =>
      intro x2 x3 H locs ls hn4 r_p1 r_x2 r_x3 hw hl
      refine lv_iload_n hx hb dX8_whoSitsBy_4 rfl (lv_at hl 3 rfl) ?_
      refine lv_aload_n hx hb dX8_whoSitsBy_5 rfl (lv_at hl 0 rfl) ?_
      refine tg_get (ci := 8) (ts := ty_WORLD) (C := RX8) (T := TX8) (N := 13) hx hb hts inX8 hown hK hw h_p0 rfl rfl 0 (by decide) (hts _ tw_247) (fun _ h9 => h9) (ft := vR 25) rfl dX8_whoSitsBy_6 (fun u_1 hv_u_1 m_u_1 => ?_)
      obtain ⟨vu_1, rfl, h_vu_1⟩ := hv_u_1
      refine tg_getN (ci := 3) (ts := ty_POST) (C := RX3) (T := TX3) (N := 9) hx hb hts inX3 hown hK hw h_vu_1 rfl rfl 1 (by decide) (hSD.nest tn_203) (fun _ h9 => h9) (ft := vR 4) rfl dX8_whoSitsBy_9 (fun u_2 hv_u_2 m_u_2 => ?_)
      obtain ⟨vu_2, rfl, h_vu_2⟩ := hv_u_2
      refine lv_iconst (v := 3) hx hb dX8_whoSitsBy_12 (by decide) ?_
      refine tg_iald (lo := 0) (hi := 8) hx hb hK hw h_vu_2 rfl 3 3 rl_3 (by decide) (by decide +kernel) dX8_whoSitsBy_13 (fun v_3 r_v_3 m_v_3 o_v_3 => ?_)
      refine lv_icmp_ge (tgt := 39) hx hb dX8_whoSitsBy_14 (by decide) (fun c_14 => ?_) (fun c_14 => ?_)
      · refine lv_iload_n hx hb dX8_whoSitsBy_39 rfl (lv_at hl 2 rfl) ?_
        subst hQ
        exact W.iret (v := x2) hx hb hr (fun t ht hW => ⟨⟨x2, (), rfl, ⟨r_x2.to (by decide), (fun h0 => trivial), (fun h0 => trivial)⟩, by rw [ht]; exact hw.2.1, va_K.moved hW.alike hK, hw.2.2.1⟩, hw.2.2.2.1.F ht⟩) hw.2.2.2.1.2.2 dX8_whoSitsBy_40
      · have r_x3 : RI x3 0 7 := rc_lt1 r_x3 r_v_3 (ti_nle c_14) (by decide)
        have r_v_3 : RI v_3 1 8 := rc_lt2 r_x3 r_v_3 (ti_nle c_14) (by decide)
        refine lv_aload_n hx hb dX8_whoSitsBy_17 rfl (lv_at hl 0 rfl) ?_
        refine tg_get (ci := 8) (ts := ty_WORLD) (C := RX8) (T := TX8) (N := 13) hx hb hts inX8 hown hK hw h_p0 rfl rfl 8 (by decide) (hts _ tw_268) (fun _ h9 => h9) (ft := vR 12) rfl dX8_whoSitsBy_18 (fun u_4 hv_u_4 m_u_4 => ?_)
        obtain ⟨vu_4, rfl, h_vu_4⟩ := hv_u_4
        refine lv_iload_n hx hb dX8_whoSitsBy_21 rfl (lv_at hl 3 rfl) ?_
        refine tg_iald (lo := (-1)) (hi := 5) hx hb hK hw h_vu_4 rfl 0 7 r_x3 (by decide) (by exact fun _ _ _ => ⟨Int.le_refl _, Int.le_refl _⟩) dX8_whoSitsBy_22 (fun v_5 r_v_5 m_v_5 o_v_5 => ?_)
        refine lv_iload_n hx hb dX8_whoSitsBy_23 rfl (lv_at hl 1 rfl) ?_
        refine lv_icmp_ne (tgt := 33) hx hb dX8_whoSitsBy_24 (by decide) (fun c_24 => ?_) (fun c_24 => ?_)
        · obtain ⟨v_6, e_v_6⟩ : ∃ q9 : Int32, q9 = x3 + Int32.ofInt 1 := ⟨_, rfl⟩
          obtain ⟨t_v_6, r_v_6⟩ := tq_add (lo := 1) (hi := 8) r_x3 (show RI (Int32.ofInt 1) 1 1 by unfold RI; decide +kernel) (by decide +kernel) e_v_6
          have t_v_6 : v_6.toInt = x3.toInt + 1 := t_v_6
          refine lv_iinc (v := v_6) (lv' := [(3, .int v_6), (0, .ref p0), (1, .int p1), (2, .int x2)]) hx hb dX8_whoSitsBy_33 hl (k := 3) rfl e_v_6.symm (by decide) rfl (fun ls hl => ?_)
          refine lv_goto (tgt := 4) hx hb dX8_whoSitsBy_36 (by decide) ?_
          exact ih4 x2 v_6 _ _ ls (by have q0 := r_v_6.1; have u0 := r_v_6.2; have o0 := r_x3.1; have p0 := r_x3.2; omega) r_p1 r_x2 (r_v_6.to (by decide)) hw (lv_sub hl [1, 2, 3, 0] rfl)
        · have r_p1 : RI p1 (-1) 5 := rc_eq2 r_v_5 r_p1 (ti_eq c_24) (by decide)
          refine lv_iload_n hx hb dX8_whoSitsBy_27 rfl (lv_at hl 2 rfl) ?_
          refine lv_iconst (v := 1) hx hb dX8_whoSitsBy_28 (by decide) ?_
          refine lv_iload_n hx hb dX8_whoSitsBy_29 rfl (lv_at hl 3 rfl) ?_
          refine lv_ishl hx hb dX8_whoSitsBy_30 (lv_topi (fun v_7 e_v_7 => ?_))
          have r_v_7 : RI v_7 1 256 := by rw [e_v_7]; exact ri_shl1 (r_x3.to (c := 0) (d := 7) (by decide)) (by decide)
          refine lv_ior hx hb dX8_whoSitsBy_31 (lv_topi (fun v_8 e_v_8 => ?_))
          have r_v_8 := ri_any v_8
          refine lv_istore_n (lv' := [(2, .int v_8), (0, .ref p0), (1, .int p1), (3, .int x3)]) hx hb dX8_whoSitsBy_32 rfl hl (by decide) rfl (fun ls hl => ?_)
          obtain ⟨v_9, e_v_9⟩ : ∃ q9 : Int32, q9 = x3 + Int32.ofInt 1 := ⟨_, rfl⟩
          obtain ⟨t_v_9, r_v_9⟩ := tq_add (lo := 1) (hi := 8) r_x3 (show RI (Int32.ofInt 1) 1 1 by unfold RI; decide +kernel) (by decide +kernel) e_v_9
          have t_v_9 : v_9.toInt = x3.toInt + 1 := t_v_9
          refine lv_iinc (v := v_9) (lv' := [(3, .int v_9), (2, .int v_8), (0, .ref p0), (1, .int p1)]) hx hb dX8_whoSitsBy_33 hl (k := 3) rfl e_v_9.symm (by decide) rfl (fun ls hl => ?_)
          refine lv_goto (tgt := 4) hx hb dX8_whoSitsBy_36 (by decide) ?_
          exact ih4 v_8 v_9 _ _ ls (by have q0 := r_v_9.1; have u0 := r_v_9.2; have o0 := r_x3.1; have p0 := r_x3.2; omega) (r_p1.to (by decide)) r_v_8 (r_v_9.to (by decide)) hw (lv_sub hl [2, 3, 1, 0] rfl)
  refine lv_iconst (v := 0) hx hb dX8_whoSitsBy_0 (by decide) ?_
  refine lv_istore_n (lv' := [(2, .int 0), (0, .ref p0), (1, .int p1)]) hx hb dX8_whoSitsBy_1 rfl hl (by decide) rfl (fun ls hl => ?_)
  refine lv_iconst (v := 0) hx hb dX8_whoSitsBy_2 (by decide) ?_
  refine lv_istore_n (lv' := [(3, .int 0), (2, .int 0), (0, .ref p0), (1, .int p1)]) hx hb dX8_whoSitsBy_3 rfl hl (by decide) rfl (fun ls hl => ?_)
  exact B4 4294967298 0 0 _ _ ls (by have q0 := rl_0.1; have u0 := rl_0.2; omega) r_p1 (rl_0.to (by decide)) (rl_0.to (by decide)) hw (lv_sub hl [2, 3, 1, 0] rfl)
abbrev wr_X8_whichAreWatched : List (Nat × Nat) := []
abbrev wa_X8_whichAreWatched : List Nat := []
set_option maxHeartbeats 4000000 in
set_option maxRecDepth 100000 in
theorem c_X8_whichAreWatched (l : Launch) (D : va_G) (cy : Nat → ClassId) (z : Nat → Nat) (sz : Nat) (Ps : PSI) (w0 : va_W) (hT : HT cy GG Ps w0) (p0 : Nat) (h_p0 : (p0, 24) ∈ Ps) : Met l yX8_whichAreWatched (Cond.code yX8_whichAreWatched cX8_whichAreWatched 3 (some .int) :: gT) ({ frames := 2, cells := 0, slots := 0, locals := 400 } : Room) (va_Pc [.ref p0] (PRE D cy z w0 sz)) (va_Qi (fun (r : Int32) (u : Unit) => RI r (-2147483648) 2147483647 ∧ (r = 0 → True) ∧ (¬ r = 0 → True)) (BB D cy (va_A w0 sz) (fun (u : Unit) => w0)) (va_A w0 sz)) 0 0 (va_A w0 sz) := by
  refine Met.ofW (cc := cX8_whichAreWatched) (maxL := 3) (ret := (some .int)) (by decide) rfl ?_
  intro p e s m args below meth c s₁ B hml hv
  obtain ⟨rfl, hsz, hP, hK, hD0, hSD⟩ := hv
  have hx := B.exec
  have hb := B.bytes
  have hr := B.returns
  have hlocks := B.notSynchronized
  have hts : ∀ w ∈ gT, w.before _ s = true := fun w h => atoms_spec (ws := Cond.code yX8_whichAreWatched cX8_whichAreWatched 3 (some .int) :: gT) B.pre w (List.mem_cons_of_mem _ h)
  have hown : s.vm.findClass RX8 = some m.cls := findClass_of_methodNamed B.named
  subst hsz
  have hD := hD0.self (sz := s.heap.size)
  generalize hAe : va_A w0 s.heap.size = A at hD hSD ⊢
  have hA : ∀ q : Nat, s.heap.size ≤ q → A q := fun q h => by rw [← hAe]; exact Or.inr h
  have hl := lv_entry ([.ref p0]) (n := 3) (Nat.le_of_ble_eq_true rfl)
  rw [lg_entry_eq]
  generalize (lg_sl ([.ref p0]) ++ List.replicate (3 - (lg_sl ([.ref p0])).length) Slot.unset).toArray = ls at hl ⊢
  have hl : lv_has ls 3 [(0, .ref p0)] := hl
  refine nameQ (fun Q hQ => ?_)
  have hw : WD D cy GG A s wr_X8_whichAreWatched wa_X8_whichAreWatched Ps w0 Ps w0 s.heap [] := ⟨hT, hP, hD, va_S.rf, FR.rf, hT.1, [], (List.append_nil _).symm⟩
  have B4 : ∀ (nf : Nat) (x1 : Int32) (x2 : Int32) (H : Heap) (locs : List Loc) (ls : Array Slot), 6 - x2.toInt < (nf : Int) → RI x1 (-2147483648) 2147483647 → RI x2 0 6 → WD D cy GG A s wr_X8_whichAreWatched wa_X8_whichAreWatched Ps w0 Ps w0 H locs → lv_has ls 3 [(0, .ref p0), (1, .int x1), (2, .int x2)] → W p l e (headSpec (Cond.code yX8_whichAreWatched cX8_whichAreWatched 3 (some .int) :: gT) ({ frames := 2, cells := 0, slots := 0, locals := 400 } : Room)).room s m ([.ref p0] : List Value).toArray below meth c H locs 0 0 Q (F0 m 4 ls []) := by
    intro nf4
    induction nf4 with
    | zero =>
      intro x1 x2 H locs ls hn4 r_x1 r_x2 hw hl
      exact absurd hn4 (by have q0 := r_x2.1; have u0 := r_x2.2; omega)
    | succ nf4 ih4 =>
      intro x1 x2 H locs ls hn4 r_x1 r_x2 hw hl
      refine lv_iload_n hx hb dX8_whichAreWatched_4 rfl (lv_at hl 2 rfl) ?_
      refine lv_aload_n hx hb dX8_whichAreWatched_5 rfl (lv_at hl 0 rfl) ?_
      refine tg_get (ci := 8) (ts := ty_WORLD) (C := RX8) (T := TX8) (N := 13) hx hb hts inX8 hown hK hw h_p0 rfl rfl 0 (by decide) (hts _ tw_247) (fun _ h9 => h9) (ft := vR 25) rfl dX8_whichAreWatched_6 (fun u_1 hv_u_1 m_u_1 => ?_)
      obtain ⟨vu_1, rfl, h_vu_1⟩ := hv_u_1
      refine tg_getN (ci := 3) (ts := ty_POST) (C := RX3) (T := TX3) (N := 9) hx hb hts inX3 hown hK hw h_vu_1 rfl rfl 1 (by decide) (hSD.nest tn_203) (fun _ h9 => h9) (ft := vR 4) rfl dX8_whichAreWatched_9 (fun u_2 hv_u_2 m_u_2 => ?_)
      obtain ⟨vu_2, rfl, h_vu_2⟩ := hv_u_2
      refine lv_iconst (v := 2) hx hb dX8_whichAreWatched_12 (by decide) ?_
      refine tg_iald (lo := 0) (hi := 6) hx hb hK hw h_vu_2 rfl 2 2 rl_2 (by decide) (by decide +kernel) dX8_whichAreWatched_13 (fun v_3 r_v_3 m_v_3 o_v_3 => ?_)
      refine lv_icmp_ge (tgt := 37) hx hb dX8_whichAreWatched_14 (by decide) (fun c_14 => ?_) (fun c_14 => ?_)
      · refine lv_iload_n hx hb dX8_whichAreWatched_37 rfl (lv_at hl 1 rfl) ?_
        subst hQ
        exact W.iret (v := x1) hx hb hr (fun t ht hW => ⟨⟨x1, (), rfl, ⟨r_x1.to (by decide), (fun h0 => trivial), (fun h0 => trivial)⟩, by rw [ht]; exact hw.2.1, va_K.moved hW.alike hK, hw.2.2.1⟩, hw.2.2.2.1.F ht⟩) hw.2.2.2.1.2.2 dX8_whichAreWatched_38
      · have r_x2 : RI x2 0 5 := rc_lt1 r_x2 r_v_3 (ti_nle c_14) (by decide)
        have r_v_3 : RI v_3 1 6 := rc_lt2 r_x2 r_v_3 (ti_nle c_14) (by decide)
        refine lv_aload_n hx hb dX8_whichAreWatched_17 rfl (lv_at hl 0 rfl) ?_
        refine lv_iload_n hx hb dX8_whichAreWatched_18 rfl (lv_at hl 2 rfl) ?_
        refine tk_ir (va_runV (As := [.int x2]) (rest := []) ⟨hx, hb, hml, hown, hts⟩ (c_X8_whoSitsBy l D cy z H.size Ps w0 hw.1 p0 x2 h_p0 (r_x2.to (by decide))) (cwV 1 hts (gV tw_585 tw_586 tw_587 tw_12 tw_588) rfl rfl rfl (by decide +kernel) ⟨Nat.le_of_ble_eq_true rfl, Nat.le_of_ble_eq_true rfl⟩) (tg_preV hw hK hSD hA (ci := 8) (q := (RX8, TX8, 13)) rfl h_p0 rfl) rfl rfl hl.1 rfl (lv_room (Nat.le_of_ble_eq_true rfl)) dX8_whichAreWatched_19 ⟨Nat.le_of_ble_eq_true rfl, Nat.le_of_ble_eq_true rfl⟩) hw hA (fun v_4  H locs hp_v_4 hw => ?_)
        have r_v_4 : RI v_4 (-2147483648) 2147483647 := hp_v_4.1
        refine lv_if_eq (tgt := 31) hx hb dX8_whichAreWatched_22 (by decide) (fun c_22 => ?_) (fun c_22 => ?_)
        · have r_v_4 : RI v_4 0 0 := rc_eq1 r_v_4 rl_0 (ti_eq c_22) (by decide)
          obtain ⟨v_5, e_v_5⟩ : ∃ q9 : Int32, q9 = x2 + Int32.ofInt 1 := ⟨_, rfl⟩
          obtain ⟨t_v_5, r_v_5⟩ := tq_add (lo := 1) (hi := 6) r_x2 (show RI (Int32.ofInt 1) 1 1 by unfold RI; decide +kernel) (by decide +kernel) e_v_5
          have t_v_5 : v_5.toInt = x2.toInt + 1 := t_v_5
          refine lv_iinc (v := v_5) (lv' := [(2, .int v_5), (0, .ref p0), (1, .int x1)]) hx hb dX8_whichAreWatched_31 hl (k := 2) rfl e_v_5.symm (by decide) rfl (fun ls hl => ?_)
          refine lv_goto (tgt := 4) hx hb dX8_whichAreWatched_34 (by decide) ?_
          exact ih4 x1 v_5 _ _ ls (by have q0 := r_v_5.1; have u0 := r_v_5.2; have o0 := r_x2.1; have p0 := r_x2.2; omega) r_x1 (r_v_5.to (by decide)) hw (lv_sub hl [1, 2, 0] rfl)
        · refine lv_iload_n hx hb dX8_whichAreWatched_25 rfl (lv_at hl 1 rfl) ?_
          refine lv_iconst (v := 1) hx hb dX8_whichAreWatched_26 (by decide) ?_
          refine lv_iload_n hx hb dX8_whichAreWatched_27 rfl (lv_at hl 2 rfl) ?_
          refine lv_ishl hx hb dX8_whichAreWatched_28 (lv_topi (fun v_6 e_v_6 => ?_))
          have r_v_6 : RI v_6 1 256 := by rw [e_v_6]; exact ri_shl1 (r_x2.to (c := 0) (d := 5) (by decide)) (by decide)
          refine lv_ior hx hb dX8_whichAreWatched_29 (lv_topi (fun v_7 e_v_7 => ?_))
          have r_v_7 := ri_any v_7
          refine lv_istore_n (lv' := [(1, .int v_7), (0, .ref p0), (2, .int x2)]) hx hb dX8_whichAreWatched_30 rfl hl (by decide) rfl (fun ls hl => ?_)
          obtain ⟨v_8, e_v_8⟩ : ∃ q9 : Int32, q9 = x2 + Int32.ofInt 1 := ⟨_, rfl⟩
          obtain ⟨t_v_8, r_v_8⟩ := tq_add (lo := 1) (hi := 6) r_x2 (show RI (Int32.ofInt 1) 1 1 by unfold RI; decide +kernel) (by decide +kernel) e_v_8
          have t_v_8 : v_8.toInt = x2.toInt + 1 := t_v_8
          refine lv_iinc (v := v_8) (lv' := [(2, .int v_8), (1, .int v_7), (0, .ref p0)]) hx hb dX8_whichAreWatched_31 hl (k := 2) rfl e_v_8.symm (by decide) rfl (fun ls hl => ?_)
          refine lv_goto (tgt := 4) hx hb dX8_whichAreWatched_34 (by decide) ?_
          exact ih4 v_7 v_8 _ _ ls (by have q0 := r_v_8.1; have u0 := r_v_8.2; have o0 := r_x2.1; have p0 := r_x2.2; omega) r_v_7 (r_v_8.to (by decide)) hw (lv_sub hl [2, 1, 0] rfl)
  refine lv_iconst (v := 0) hx hb dX8_whichAreWatched_0 (by decide) ?_
  refine lv_istore_n (lv' := [(1, .int 0), (0, .ref p0)]) hx hb dX8_whichAreWatched_1 rfl hl (by decide) rfl (fun ls hl => ?_)
  refine lv_iconst (v := 0) hx hb dX8_whichAreWatched_2 (by decide) ?_
  refine lv_istore_n (lv' := [(2, .int 0), (1, .int 0), (0, .ref p0)]) hx hb dX8_whichAreWatched_3 rfl hl (by decide) rfl (fun ls hl => ?_)
  exact B4 4294967298 0 0 _ _ ls (by have q0 := rl_0.1; have u0 := rl_0.2; omega) (rl_0.to (by decide)) (rl_0.to (by decide)) hw (lv_sub hl [2, 1, 0] rfl)
abbrev wr_X8_whyNoGuess : List (Nat × Nat) := []
abbrev wa_X8_whyNoGuess : List Nat := []
set_option maxHeartbeats 4000000 in
set_option maxRecDepth 100000 in
theorem c_X8_whyNoGuess (l : Launch) (D : va_G) (cy : Nat → ClassId) (z : Nat → Nat) (sz : Nat) (Ps : PSI) (w0 : va_W) (hT : HT cy GG Ps w0) (p0 : Nat) (p1 : Int32) (h_p0 : (p0, 24) ∈ Ps) (r_p1 : RI p1 0 7) : Met l yX8_whyNoGuess (Cond.code yX8_whyNoGuess cX8_whyNoGuess 2 (some .int) :: gT) ({ frames := 2, cells := 0, slots := 0, locals := 400 } : Room) (va_Pc [.ref p0, .int p1] (PRE D cy z w0 sz)) (va_Qi (fun (r : Int32) (u : Unit) => RI r 0 2 ∧ (r = 0 → True) ∧ (¬ r = 0 → True)) (BB D cy (va_A w0 sz) (fun (u : Unit) => w0)) (va_A w0 sz)) 0 0 (va_A w0 sz) := by
  refine Met.ofW (cc := cX8_whyNoGuess) (maxL := 2) (ret := (some .int)) (by decide) rfl ?_
  intro p e s m args below meth c s₁ B hml hv
  obtain ⟨rfl, hsz, hP, hK, hD0, hSD⟩ := hv
  have hx := B.exec
  have hb := B.bytes
  have hr := B.returns
  have hlocks := B.notSynchronized
  have hts : ∀ w ∈ gT, w.before _ s = true := fun w h => atoms_spec (ws := Cond.code yX8_whyNoGuess cX8_whyNoGuess 2 (some .int) :: gT) B.pre w (List.mem_cons_of_mem _ h)
  have hown : s.vm.findClass RX8 = some m.cls := findClass_of_methodNamed B.named
  subst hsz
  have hD := hD0.self (sz := s.heap.size)
  generalize hAe : va_A w0 s.heap.size = A at hD hSD ⊢
  have hA : ∀ q : Nat, s.heap.size ≤ q → A q := fun q h => by rw [← hAe]; exact Or.inr h
  have hl := lv_entry ([.ref p0, .int p1]) (n := 2) (Nat.le_of_ble_eq_true rfl)
  rw [lg_entry_eq]
  generalize (lg_sl ([.ref p0, .int p1]) ++ List.replicate (2 - (lg_sl ([.ref p0, .int p1])).length) Slot.unset).toArray = ls at hl ⊢
  have hl : lv_has ls 2 [(0, .ref p0), (1, .int p1)] := hl
  refine nameQ (fun Q hQ => ?_)
  have hw : WD D cy GG A s wr_X8_whyNoGuess wa_X8_whyNoGuess Ps w0 Ps w0 s.heap [] := ⟨hT, hP, hD, va_S.rf, FR.rf, hT.1, [], (List.append_nil _).symm⟩
  refine lv_aload_n hx hb dX8_whyNoGuess_0 rfl (lv_at hl 0 rfl) ?_
  refine tg_get (ci := 8) (ts := ty_WORLD) (C := RX8) (T := TX8) (N := 13) hx hb hts inX8 hown hK hw h_p0 rfl rfl 8 (by decide) (hts _ tw_268) (fun _ h9 => h9) (ft := vR 12) rfl dX8_whyNoGuess_1 (fun u_1 hv_u_1 m_u_1 => ?_)
  obtain ⟨vu_1, rfl, h_vu_1⟩ := hv_u_1
  refine lv_iload_n hx hb dX8_whyNoGuess_4 rfl (lv_at hl 1 rfl) ?_
  refine tg_iald (lo := (-1)) (hi := 5) hx hb hK hw h_vu_1 rfl 0 7 r_p1 (by decide) (by exact fun _ _ _ => ⟨Int.le_refl _, Int.le_refl _⟩) dX8_whyNoGuess_5 (fun v_2 r_v_2 m_v_2 o_v_2 => ?_)
  refine lv_iconst (v := (-1)) hx hb dX8_whyNoGuess_6 (by decide) ?_
  refine lv_icmp_ne (tgt := 12) hx hb dX8_whyNoGuess_7 (by decide) (fun c_7 => ?_) (fun c_7 => ?_)
  · have r_v_2 : RI v_2 0 5 := rc_neL r_v_2 rl_m1 (ti_ne c_7) (by decide)
    refine lv_aload_n hx hb dX8_whyNoGuess_12 rfl (lv_at hl 0 rfl) ?_
    refine lv_aload_n hx hb dX8_whyNoGuess_13 rfl (lv_at hl 0 rfl) ?_
    refine tg_mem (ci := 8) (C := RX8) (T := TX8) (N := 13) hx hb hts inX8 hown hK hw 8 m_u_1 rfl (by decide) (hts _ tw_268) (fun _ h9 => h9) dX8_whyNoGuess_14 ?_
    refine lv_iload_n hx hb dX8_whyNoGuess_17 rfl (lv_at hl 1 rfl) ?_
    refine tg_imem hx hb hK hw h_vu_1 rfl r_p1 (by decide) m_v_2 dX8_whyNoGuess_18 ?_
    refine tk_ir (va_runV (As := [.int v_2]) (rest := []) ⟨hx, hb, hml, hown, hts⟩ (c_X8_isOpen l D cy z s.heap.size Ps w0 hw.1 p0 v_2 h_p0 r_v_2) (cwV 1 hts (gV tw_561 tw_562 tw_563 tw_12 tw_564) rfl rfl rfl (by decide +kernel) ⟨Nat.le_of_ble_eq_true rfl, Nat.le_of_ble_eq_true rfl⟩) (tg_preV hw hK hSD hA (ci := 8) (q := (RX8, TX8, 13)) rfl h_p0 rfl) rfl rfl hl.1 rfl (lv_room (Nat.le_of_ble_eq_true rfl)) dX8_whyNoGuess_19 ⟨Nat.le_of_ble_eq_true rfl, Nat.le_of_ble_eq_true rfl⟩) hw hA (fun v_4  H locs hp_v_4 hw => ?_)
    have r_v_4 : RI v_4 0 1 := hp_v_4.1
    refine lv_if_eq (tgt := 29) hx hb dX8_whyNoGuess_22 (by decide) (fun c_22 => ?_) (fun c_22 => ?_)
    · have r_v_4 : RI v_4 0 0 := rc_eq1 r_v_4 rl_0 (ti_eq c_22) (by decide)
      refine lv_iconst (v := 0) hx hb dX8_whyNoGuess_29 (by decide) ?_
      subst hQ
      exact W.iret (v := 0) hx hb hr (fun t ht hW => ⟨⟨0, (), rfl, ⟨rl_0.to (by decide), (fun h0 => trivial), (fun _ => trivial)⟩, by rw [ht]; exact hw.2.1, va_K.moved hW.alike hK, hw.2.2.1⟩, hw.2.2.2.1.F ht⟩) hw.2.2.2.1.2.2 dX8_whyNoGuess_30
    · have r_v_4 : RI v_4 1 1 := rc_neL r_v_4 rl_0 (ti_ne c_22) (by decide)
      refine lv_iconst (v := 2) hx hb dX8_whyNoGuess_25 (by decide) ?_
      refine lv_goto (tgt := 30) hx hb dX8_whyNoGuess_26 (by decide) ?_
      subst hQ
      exact W.iret (v := 2) hx hb hr (fun t ht hW => ⟨⟨2, (), rfl, ⟨rl_2.to (by decide), (fun _ => trivial), (fun h0 => trivial)⟩, by rw [ht]; exact hw.2.1, va_K.moved hW.alike hK, hw.2.2.1⟩, hw.2.2.2.1.F ht⟩) hw.2.2.2.1.2.2 dX8_whyNoGuess_30
  · have r_v_2 : RI v_2 (-1) (-1) := rc_eq1 r_v_2 rl_m1 (ti_eq c_7) (by decide)
    refine lv_iconst (v := 1) hx hb dX8_whyNoGuess_10 (by decide) ?_
    subst hQ
    exact W.iret (v := 1) hx hb hr (fun t ht hW => ⟨⟨1, (), rfl, ⟨rl_1.to (by decide), (fun _ => trivial), (fun h0 => trivial)⟩, by rw [ht]; exact hw.2.1, va_K.moved hW.alike hK, hw.2.2.1⟩, hw.2.2.2.1.F ht⟩) hw.2.2.2.1.2.2 dX8_whyNoGuess_11
