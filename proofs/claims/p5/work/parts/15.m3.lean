abbrev wr_X3_numberOf : List (Nat × Nat) := []
abbrev wa_X3_numberOf : List Nat := []
set_option maxHeartbeats 4000000 in
set_option maxRecDepth 100000 in
theorem c_X3_numberOf (l : Launch) (D : va_G) (cy : Nat → ClassId) (z : Nat → Nat) (sz : Nat) (Ps : PSI) (w0 : va_W) (hT : HT cy GG Ps w0) (p0 : Nat) (p1 : Int64) (p2 : Int32) (h_p0 : (p0, 25) ∈ Ps) (r_p1 : RJ p1 (-9223372036854775808) 9223372036854775807) (r_p2 : RI p2 0 0) : Met l yX3_numberOf (Cond.code yX3_numberOf cX3_numberOf 5 (some .int) :: gT) ({ frames := 0, cells := 0, slots := 0, locals := 200 } : Room) (va_Pc [.ref p0, .long p1, .int p2] (PRE D cy z w0 sz)) (va_Qi (fun (r : Int32) (u : Unit) => RI r (-1) 5 ∧ (r = 0 → True) ∧ (¬ r = 0 → True)) (BB D cy (va_A w0 sz) (fun (u : Unit) => w0)) (va_A w0 sz)) 0 0 (va_A w0 sz) := by
  refine Met.ofW (cc := cX3_numberOf) (maxL := 5) (ret := (some .int)) (by decide) rfl ?_
  intro p e s m args below meth c s₁ B hml hv
  obtain ⟨rfl, hsz, hP, hK, hD0, hSD⟩ := hv
  have hx := B.exec
  have hb := B.bytes
  have hr := B.returns
  have hlocks := B.notSynchronized
  have hts : ∀ w ∈ gT, w.before _ s = true := fun w h => atoms_spec (ws := Cond.code yX3_numberOf cX3_numberOf 5 (some .int) :: gT) B.pre w (List.mem_cons_of_mem _ h)
  have hown : s.vm.findClass RX3 = some m.cls := findClass_of_methodNamed B.named
  subst hsz
  have hD := hD0.self (sz := s.heap.size)
  generalize hAe : va_A w0 s.heap.size = A at hD hSD ⊢
  have hA : ∀ q : Nat, s.heap.size ≤ q → A q := fun q h => by rw [← hAe]; exact Or.inr h
  have hl := lv_entry ([.ref p0, .long p1, .int p2]) (n := 5) (Nat.le_of_ble_eq_true rfl)
  rw [lg_entry_eq]
  generalize (lg_sl ([.ref p0, .long p1, .int p2]) ++ List.replicate (5 - (lg_sl ([.ref p0, .long p1, .int p2])).length) Slot.unset).toArray = ls at hl ⊢
  have hl : lv_has ls 5 [(0, .ref p0), (1, .long p1), (3, .int p2)] := hl
  refine nameQ (fun Q hQ => ?_)
  have hw : WD D cy GG A s wr_X3_numberOf wa_X3_numberOf Ps w0 Ps w0 s.heap [] := ⟨hT, hP, hD, va_S.rf, FR.rf, hT.1, [], (List.append_nil _).symm⟩
  have B3 : ∀ (nf : Nat) (x4 : Int32) (H : Heap) (locs : List Loc) (ls : Array Slot), 6 - x4.toInt < (nf : Int) → RJ p1 (-9223372036854775808) 9223372036854775807 → RI p2 0 0 → RI x4 0 6 → WD D cy GG A s wr_X3_numberOf wa_X3_numberOf Ps w0 Ps w0 H locs → lv_has ls 5 [(0, .ref p0), (1, .long p1), (3, .int p2), (4, .int x4)] → W p l e (headSpec (Cond.code yX3_numberOf cX3_numberOf 5 (some .int) :: gT) ({ frames := 0, cells := 0, slots := 0, locals := 200 } : Room)).room s m ([.ref p0, .long p1, .int p2] : List Value).toArray below meth c H locs 0 0 Q (F0 m 3 ls []) := by
    intro nf3
    induction nf3 with
    | zero =>
      intro x4 H locs ls hn3 r_p1 r_p2 r_x4 hw hl
      exact absurd hn3 (by have q0 := r_x4.1; have u0 := r_x4.2; omega)
    | succ nf3 ih3 =>
      intro x4 H locs ls hn3 r_p1 r_p2 r_x4 hw hl
      refine lv_iload hx hb dX3_numberOf_3 (lv_at hl 3 rfl) ?_
      refine lv_aload_n hx hb dX3_numberOf_5 rfl (lv_at hl 0 rfl) ?_
      refine tg_get (ci := 3) (ts := ty_POST) (C := RX3) (T := TX3) (N := 9) hx hb hts inX3 hown hK hw h_p0 rfl rfl 1 (by decide) (hts _ tw_201) (fun _ h9 => h9) (ft := vR 4) rfl dX3_numberOf_6 (fun u_1 hv_u_1 m_u_1 => ?_)
      obtain ⟨vu_1, rfl, h_vu_1⟩ := hv_u_1
      refine lv_iload_n hx hb dX3_numberOf_9 rfl (lv_at hl 2 rfl) ?_
      refine tg_iald (lo := 0) (hi := 6) hx hb hK hw h_vu_1 rfl 0 0 r_p2 (by decide) (by decide +kernel) dX3_numberOf_10 (fun v_2 r_v_2 m_v_2 o_v_2 => ?_)
      refine lv_icmp_ge (tgt := 40) hx hb dX3_numberOf_11 (by decide) (fun c_11 => ?_) (fun c_11 => ?_)
      · refine lv_iconst (v := (-1)) hx hb dX3_numberOf_40 (by decide) ?_
        subst hQ
        exact W.iret (v := (-1)) hx hb hr (fun t ht hW => ⟨⟨(-1), (), rfl, ⟨rl_m1.to (by decide), (fun _ => trivial), (fun h0 => trivial)⟩, by rw [ht]; exact hw.2.1, va_K.moved hW.alike hK, hw.2.2.1⟩, hw.2.2.2.1.F ht⟩) hw.2.2.2.1.2.2 dX3_numberOf_41
      · have r_x4 : RI x4 0 5 := rc_lt1 r_x4 r_v_2 (ti_nle c_11) (by decide)
        have r_v_2 : RI v_2 1 6 := rc_lt2 r_x4 r_v_2 (ti_nle c_11) (by decide)
        refine lv_aload_n hx hb dX3_numberOf_14 rfl (lv_at hl 0 rfl) ?_
        refine tg_get (ci := 3) (ts := ty_POST) (C := RX3) (T := TX3) (N := 9) hx hb hts inX3 hown hK hw h_p0 rfl rfl 0 (by decide) (hts _ tw_200) (fun _ h9 => h9) (ft := vR 1) rfl dX3_numberOf_15 (fun u_3 hv_u_3 m_u_3 => ?_)
        obtain ⟨vu_3, rfl, h_vu_3⟩ := hv_u_3
        refine lv_iload_n hx hb dX3_numberOf_18 rfl (lv_at hl 2 rfl) ?_
        refine lv_bipush (v := 8) hx hb dX3_numberOf_19 (by decide) ?_
        refine lv_imul hx hb dX3_numberOf_21 (lv_topi (fun v_4 e_v_4 => ?_))
        obtain ⟨t_v_4, r_v_4⟩ := tq_mul (lo := 0) (hi := 0) r_p2 rl_8 (by decide +kernel) e_v_4
        have t_v_4 : v_4.toInt = p2.toInt * 8 := t_v_4
        refine lv_iload hx hb dX3_numberOf_22 (lv_at hl 3 rfl) ?_
        refine lv_iadd hx hb dX3_numberOf_24 (lv_topi (fun v_5 e_v_5 => ?_))
        obtain ⟨t_v_5, r_v_5⟩ := tq_add (lo := 0) (hi := 5) r_v_4 r_x4 (by decide +kernel) e_v_5
        refine tg_lald hx hb hK hw h_vu_3 rfl r_v_5 (by decide) dX3_numberOf_25 (fun w_6 r_w_6 => ?_)
        refine lv_lload_n hx hb dX3_numberOf_26 rfl (lv_at hl 1 rfl) ?_
        refine W.lcmp hx hb dX3_numberOf_27 (lv_topi (fun v_7 e_v_7 => ?_))
        have r_v_7 := ri_any v_7
        refine lv_if_ne (tgt := 34) hx hb dX3_numberOf_28 (by decide) (fun c_28 => ?_) (fun c_28 => ?_)
        · obtain ⟨v_8, e_v_8⟩ : ∃ q9 : Int32, q9 = x4 + Int32.ofInt 1 := ⟨_, rfl⟩
          obtain ⟨t_v_8, r_v_8⟩ := tq_add (lo := 1) (hi := 6) r_x4 (show RI (Int32.ofInt 1) 1 1 by unfold RI; decide +kernel) (by decide +kernel) e_v_8
          have t_v_8 : v_8.toInt = x4.toInt + 1 := t_v_8
          refine lv_iinc (v := v_8) (lv' := [(4, .int v_8), (0, .ref p0), (1, .long p1), (3, .int p2)]) hx hb dX3_numberOf_34 hl (k := 3) rfl e_v_8.symm (by decide) rfl (fun ls hl => ?_)
          refine lv_goto (tgt := 3) hx hb dX3_numberOf_37 (by decide) ?_
          exact ih3 v_8 _ _ ls (by have q0 := r_v_8.1; have u0 := r_v_8.2; have o0 := r_x4.1; have p0 := r_x4.2; omega) r_p1 r_p2 (r_v_8.to (by decide)) hw (lv_sub hl [1, 2, 3, 0] rfl)
        · have r_v_7 : RI v_7 0 0 := rc_eq1 r_v_7 rl_0 (ti_eq c_28) (by decide)
          refine lv_iload hx hb dX3_numberOf_31 (lv_at hl 3 rfl) ?_
          subst hQ
          exact W.iret (v := x4) hx hb hr (fun t ht hW => ⟨⟨x4, (), rfl, ⟨r_x4.to (by decide), (fun h0 => trivial), (fun h0 => trivial)⟩, by rw [ht]; exact hw.2.1, va_K.moved hW.alike hK, hw.2.2.1⟩, hw.2.2.2.1.F ht⟩) hw.2.2.2.1.2.2 dX3_numberOf_33
  refine lv_iconst (v := 0) hx hb dX3_numberOf_0 (by decide) ?_
  refine lv_istore (lv' := [(4, .int 0), (0, .ref p0), (1, .long p1), (3, .int p2)]) hx hb dX3_numberOf_1 hl (by decide) rfl (fun ls hl => ?_)
  exact B3 4294967298 0 _ _ ls (by have q0 := rl_0.1; have u0 := rl_0.2; omega) r_p1 r_p2 (rl_0.to (by decide)) hw (lv_sub hl [1, 2, 3, 0] rfl)
abbrev wr_X7_nameAhead : List (Nat × Nat) := [(7, 10), (7, 11)]
abbrev wa_X7_nameAhead : List Nat := []
set_option maxHeartbeats 4000000 in
set_option maxRecDepth 100000 in
theorem c_X7_nameAhead (l : Launch) (D : va_G) (cy : Nat → ClassId) (z : Nat → Nat) (sz : Nat) (Ps : PSI) (w0 : va_W) (hT : HT cy GG Ps w0) (p0 : Nat) (p1 : Nat) (p2 : Int32) (h_p0 : (p0, 26) ∈ Ps) (h_p1 : (p1, 25) ∈ Ps) (r_p2 : RI p2 0 0) : Met l yX7_nameAhead (Cond.code yX7_nameAhead cX7_nameAhead 4 (some .int) :: gT) ({ frames := 2, cells := 0, slots := 0, locals := 400 } : Room) (va_Pc [.ref p0, .ref p1, .int p2] (PRE D cy z w0 sz)) (va_Qi (fun (r : Int32) (u : va_W) => (RI r (-1) 5 ∧ (r = 0 → (∃ v9 : Int32, FLD u p0 7 10 (.int v9) ∧ RI v9 0 0) ∧ True) ∧ (¬ r = 0 → True)) ∧ HT cy GG Ps u ∧ FR wr_X7_nameAhead wa_X7_nameAhead Ps w0 u) (BB D cy (va_A w0 sz) (fun (u : va_W) => u)) (va_A w0 sz)) 0 0 (va_A w0 sz) := by
  refine Met.ofW (cc := cX7_nameAhead) (maxL := 4) (ret := (some .int)) (by decide) rfl ?_
  intro p e s m args below meth c s₁ B hml hv
  obtain ⟨rfl, hsz, hP, hK, hD0, hSD⟩ := hv
  have hx := B.exec
  have hb := B.bytes
  have hr := B.returns
  have hlocks := B.notSynchronized
  have hts : ∀ w ∈ gT, w.before _ s = true := fun w h => atoms_spec (ws := Cond.code yX7_nameAhead cX7_nameAhead 4 (some .int) :: gT) B.pre w (List.mem_cons_of_mem _ h)
  have hown : s.vm.findClass RX7 = some m.cls := findClass_of_methodNamed B.named
  subst hsz
  have hD := hD0.self (sz := s.heap.size)
  generalize hAe : va_A w0 s.heap.size = A at hD hSD ⊢
  have hA : ∀ q : Nat, s.heap.size ≤ q → A q := fun q h => by rw [← hAe]; exact Or.inr h
  have hl := lv_entry ([.ref p0, .ref p1, .int p2]) (n := 4) (Nat.le_of_ble_eq_true rfl)
  rw [lg_entry_eq]
  generalize (lg_sl ([.ref p0, .ref p1, .int p2]) ++ List.replicate (4 - (lg_sl ([.ref p0, .ref p1, .int p2])).length) Slot.unset).toArray = ls at hl ⊢
  have hl : lv_has ls 4 [(0, .ref p0), (1, .ref p1), (2, .int p2)] := hl
  refine nameQ (fun Q hQ => ?_)
  have hw : WD D cy GG A s wr_X7_nameAhead wa_X7_nameAhead Ps w0 Ps w0 s.heap [] := ⟨hT, hP, hD, va_S.rf, FR.rf, hT.1, [], (List.append_nil _).symm⟩
  have B35 : ∀ (x3 : Int32) (z0_7 : Int32) (ws : va_W) (H : Heap) (locs : List Loc) (ls : Array Slot), RI p2 0 0 → RI x3 (-1) 5 → RI z0_7 2 2 → FLD ws p0 7 7 (.int z0_7) → WD D cy GG A s wr_X7_nameAhead wa_X7_nameAhead Ps w0 Ps ws H locs → lv_has ls 4 [(0, .ref p0), (1, .ref p1), (2, .int p2), (3, .int x3)] → W p l e (headSpec (Cond.code yX7_nameAhead cX7_nameAhead 4 (some .int) :: gT) ({ frames := 2, cells := 0, slots := 0, locals := 400 } : Room)).room s m ([.ref p0, .ref p1, .int p2] : List Value).toArray below meth c H locs 0 0 Q (F0 m 35 ls []) := by
    intro x3 z0_7 ws H locs ls r_p2 r_x3 r_z0_7 m_z0_7 hw hl
    refine lv_aload_n hx hb dX7_nameAhead_35 rfl (lv_at hl 0 rfl) ?_
    refine tg_get (ci := 7) (ts := ty_TAPE) (C := RX7) (T := TX7) (N := 12) hx hb hts inX7 hown hK hw h_p0 rfl rfl 10 (by decide) (hts _ tw_104) (fun _ h9 => h9) (ft := vI 0 4) rfl dX7_nameAhead_36 (fun u_1 hv_u_1 m_u_1 => ?_)
    obtain ⟨vu_1, rfl, r_vu_1⟩ := hv_u_1
    refine lv_if_ne (tgt := 46) hx hb dX7_nameAhead_39 (by decide) (fun c_39 => ?_) (fun c_39 => ?_)
    · have r_vu_1 : RI vu_1 1 4 := rc_neL r_vu_1 rl_0 (ti_ne c_39) (by decide)
      refine lv_iconst (v := (-1)) hx hb dX7_nameAhead_46 (by decide) ?_
      subst hQ
      exact W.iret (v := (-1)) hx hb hr (fun t ht hW => ⟨⟨(-1), ws, rfl, ⟨⟨rl_m1.to (by decide), (fun h0 => absurd h0 (by decide)), (fun h0 => trivial)⟩, hw.1, hw.2.2.2.2.1⟩, by rw [ht]; exact hw.2.1, va_K.moved hW.alike hK, hw.2.2.1⟩, hw.2.2.2.1.F ht⟩) hw.2.2.2.1.2.2 dX7_nameAhead_47
    · have r_vu_1 : RI vu_1 0 0 := rc_eq1 r_vu_1 rl_0 (ti_eq c_39) (by decide)
      refine lv_iload_n hx hb dX7_nameAhead_42 rfl (lv_at hl 3 rfl) ?_
      refine lv_goto (tgt := 47) hx hb dX7_nameAhead_43 (by decide) ?_
      subst hQ
      exact W.iret (v := x3) hx hb hr (fun t ht hW => ⟨⟨x3, ws, rfl, ⟨⟨r_x3.to (by decide), (fun h0 => ⟨⟨_, m_u_1, r_vu_1⟩, trivial⟩), (fun h0 => trivial)⟩, hw.1, hw.2.2.2.2.1⟩, by rw [ht]; exact hw.2.1, va_K.moved hW.alike hK, hw.2.2.1⟩, hw.2.2.2.1.F ht⟩) hw.2.2.2.1.2.2 dX7_nameAhead_47
  refine lv_aload_n hx hb dX7_nameAhead_0 rfl (lv_at hl 0 rfl) ?_
  refine tg_get (ci := 7) (ts := ty_TAPE) (C := RX7) (T := TX7) (N := 12) hx hb hts inX7 hown hK hw h_p0 rfl rfl 7 (by decide) (hts _ tw_98) (fun _ h9 => h9) (ft := vI (-2147483648) 2147483647) rfl dX7_nameAhead_1 (fun u_2 hv_u_2 m_u_2 => ?_)
  obtain ⟨vu_2, rfl, r_vu_2⟩ := hv_u_2
  refine lv_iconst (v := 2) hx hb dX7_nameAhead_4 (by decide) ?_
  refine lv_icmp_eq (tgt := 15) hx hb dX7_nameAhead_5 (by decide) (fun c_5 => ?_) (fun c_5 => ?_)
  · have r_vu_2 : RI vu_2 2 2 := rc_eq1 r_vu_2 rl_2 (ti_eq c_5) (by decide)
    refine lv_aload_n hx hb dX7_nameAhead_15 rfl (lv_at hl 1 rfl) ?_
    refine lv_aload_n hx hb dX7_nameAhead_16 rfl (lv_at hl 0 rfl) ?_
    refine tg_get (ci := 7) (ts := ty_TAPE) (C := RX7) (T := TX7) (N := 12) hx hb hts inX7 hown hK hw h_p0 rfl rfl 8 (by decide) (hts _ tw_100) (fun _ h9 => h9) (ft := vJ (-9223372036854775808) 9223372036854775807) rfl dX7_nameAhead_17 (fun u_3 hv_u_3 m_u_3 => ?_)
    obtain ⟨vu_3, rfl, r_vu_3⟩ := hv_u_3
    refine lv_iload_n hx hb dX7_nameAhead_20 rfl (lv_at hl 2 rfl) ?_
    refine tk_ir (va_runV (As := [.long vu_3, .int p2]) (rest := []) ⟨hx, hb, hml, hown, hts⟩ (c_X3_numberOf l D cy z s.heap.size Ps w0 hw.1 p1 vu_3 p2 h_p1 r_vu_3 r_p2) (cwV 2 hts (gV tw_460 tw_461 tw_462 tw_11 tw_463) rfl rfl rfl (by decide +kernel) ⟨Nat.le_of_ble_eq_true rfl, Nat.le_of_ble_eq_true rfl⟩) (tg_preV hw hK hSD hA (ci := 3) (q := (RX3, TX3, 9)) rfl h_p1 rfl) rfl rfl hl.1 rfl (lv_room (Nat.le_of_ble_eq_true rfl)) dX7_nameAhead_21 ⟨Nat.le_of_ble_eq_true rfl, Nat.le_of_ble_eq_true rfl⟩) hw hA (fun v_4  H locs hp_v_4 hw => ?_)
    have r_v_4 : RI v_4 (-1) 5 := hp_v_4.1
    refine lv_istore_n (lv' := [(3, .int v_4), (0, .ref p0), (1, .ref p1), (2, .int p2)]) hx hb dX7_nameAhead_24 rfl hl (by decide) rfl (fun ls hl => ?_)
    refine lv_iload_n hx hb dX7_nameAhead_25 rfl (lv_at hl 0 rfl) ?_
    refine lv_iconst (v := (-1)) hx hb dX7_nameAhead_26 (by decide) ?_
    refine lv_icmp_ne (tgt := 35) hx hb dX7_nameAhead_27 (by decide) (fun c_27 => ?_) (fun c_27 => ?_)
    · have r_v_4 : RI v_4 0 5 := rc_neL r_v_4 rl_m1 (ti_ne c_27) (by decide)
      exact B35 v_4 vu_2 w0 _ _ ls r_p2 (r_v_4.to (by decide)) r_vu_2 m_u_2 hw (lv_sub hl [1, 2, 3, 0] rfl)
    · have r_v_4 : RI v_4 (-1) (-1) := rc_eq1 r_v_4 rl_m1 (ti_eq c_27) (by decide)
      refine lv_aload_n hx hb dX7_nameAhead_30 rfl (lv_at hl 1 rfl) ?_
      refine lv_iconst (v := 3) hx hb dX7_nameAhead_31 (by decide) ?_
      refine tk_v (va_runV (As := [.int 3]) (rest := []) ⟨hx, hb, hml, hown, hts⟩ (c_X7_refuse l D cy z H.size Ps w0 hw.1 p0 3 h_p0 (rl_3.to (by decide))) (cwV 1 hts (gV tw_442 tw_443 tw_444 tw_2 tw_445) rfl rfl rfl (by decide +kernel) ⟨Nat.le_of_ble_eq_true rfl, Nat.le_of_ble_eq_true rfl⟩) (tg_preV hw hK hSD hA (ci := 7) (q := (RX7, TX7, 12)) rfl h_p0 rfl) rfl rfl hl.1 rfl (lv_room (Nat.le_of_ble_eq_true rfl)) dX7_nameAhead_32 ⟨Nat.le_of_ble_eq_true rfl, Nat.le_of_ble_eq_true rfl⟩) hw hA ⟨by decide, by decide⟩ (fun ws H locs hp_v_5 hw hF9 => ?_)
      have m_u_2 := FLD.over hF9 m_u_2 (by decide)
      obtain ⟨v_6, m_v_6, r_v_6⟩ := (hp_v_5.1)
      exact B35 v_4 vu_2 ws _ _ ls r_p2 (r_v_4.to (by decide)) r_vu_2 m_u_2 hw (lv_sub hl [1, 2, 3, 0] rfl)
  · refine lv_aload_n hx hb dX7_nameAhead_8 rfl (lv_at hl 0 rfl) ?_
    refine lv_iconst (v := 1) hx hb dX7_nameAhead_9 (by decide) ?_
    refine tk_v (va_runV (As := [.int 1]) (rest := []) ⟨hx, hb, hml, hown, hts⟩ (c_X7_refuse l D cy z s.heap.size Ps w0 hw.1 p0 1 h_p0 (rl_1.to (by decide))) (cwV 1 hts (gV tw_442 tw_443 tw_444 tw_2 tw_445) rfl rfl rfl (by decide +kernel) ⟨Nat.le_of_ble_eq_true rfl, Nat.le_of_ble_eq_true rfl⟩) (tg_preV hw hK hSD hA (ci := 7) (q := (RX7, TX7, 12)) rfl h_p0 rfl) rfl rfl hl.1 rfl (lv_room (Nat.le_of_ble_eq_true rfl)) dX7_nameAhead_10 ⟨Nat.le_of_ble_eq_true rfl, Nat.le_of_ble_eq_true rfl⟩) hw hA ⟨by decide, by decide⟩ (fun ws H locs hp_v_7 hw hF9 => ?_)
    have m_u_2 := FLD.over hF9 m_u_2 (by decide)
    obtain ⟨v_8, m_v_8, r_v_8⟩ := (hp_v_7.1)
    refine lv_iconst (v := (-1)) hx hb dX7_nameAhead_13 (by decide) ?_
    subst hQ
    exact W.iret (v := (-1)) hx hb hr (fun t ht hW => ⟨⟨(-1), ws, rfl, ⟨⟨rl_m1.to (by decide), (fun h0 => absurd h0 (by decide)), (fun h0 => trivial)⟩, hw.1, hw.2.2.2.2.1⟩, by rw [ht]; exact hw.2.1, va_K.moved hW.alike hK, hw.2.2.1⟩, hw.2.2.2.1.F ht⟩) hw.2.2.2.1.2.2 dX7_nameAhead_14
abbrev wr_X7_takeName : List (Nat × Nat) := [(7, 5), (7, 6), (7, 7), (7, 8), (7, 9), (7, 10), (7, 11)]
abbrev wa_X7_takeName : List Nat := []
set_option maxHeartbeats 4000000 in
set_option maxRecDepth 100000 in
theorem c_X7_takeName (l : Launch) (D : va_G) (cy : Nat → ClassId) (z : Nat → Nat) (sz : Nat) (Ps : PSI) (w0 : va_W) (hT : HT cy GG Ps w0) (p0 : Nat) (p1 : Nat) (p2 : Int32) (h_p0 : (p0, 26) ∈ Ps) (h_p1 : (p1, 25) ∈ Ps) (r_p2 : RI p2 0 0) : Met l yX7_takeName (Cond.code yX7_takeName cX7_takeName 4 (some .int) :: gT) ({ frames := 3, cells := 0, slots := 0, locals := 600 } : Room) (va_Pc [.ref p0, .ref p1, .int p2] (PRE D cy z w0 sz)) (va_Qi (fun (r : Int32) (u : va_W) => (RI r (-1) 5 ∧ (r = 0 → True) ∧ (¬ r = 0 → True)) ∧ HT cy GG Ps u ∧ FR wr_X7_takeName wa_X7_takeName Ps w0 u) (BB D cy (va_A w0 sz) (fun (u : va_W) => u)) (va_A w0 sz)) 0 0 (va_A w0 sz) := by
  refine Met.ofW (cc := cX7_takeName) (maxL := 4) (ret := (some .int)) (by decide) rfl ?_
  intro p e s m args below meth c s₁ B hml hv
  obtain ⟨rfl, hsz, hP, hK, hD0, hSD⟩ := hv
  have hx := B.exec
  have hb := B.bytes
  have hr := B.returns
  have hlocks := B.notSynchronized
  have hts : ∀ w ∈ gT, w.before _ s = true := fun w h => atoms_spec (ws := Cond.code yX7_takeName cX7_takeName 4 (some .int) :: gT) B.pre w (List.mem_cons_of_mem _ h)
  have hown : s.vm.findClass RX7 = some m.cls := findClass_of_methodNamed B.named
  subst hsz
  have hD := hD0.self (sz := s.heap.size)
  generalize hAe : va_A w0 s.heap.size = A at hD hSD ⊢
  have hA : ∀ q : Nat, s.heap.size ≤ q → A q := fun q h => by rw [← hAe]; exact Or.inr h
  have hl := lv_entry ([.ref p0, .ref p1, .int p2]) (n := 4) (Nat.le_of_ble_eq_true rfl)
  rw [lg_entry_eq]
  generalize (lg_sl ([.ref p0, .ref p1, .int p2]) ++ List.replicate (4 - (lg_sl ([.ref p0, .ref p1, .int p2])).length) Slot.unset).toArray = ls at hl ⊢
  have hl : lv_has ls 4 [(0, .ref p0), (1, .ref p1), (2, .int p2)] := hl
  refine nameQ (fun Q hQ => ?_)
  have hw : WD D cy GG A s wr_X7_takeName wa_X7_takeName Ps w0 Ps w0 s.heap [] := ⟨hT, hP, hD, va_S.rf, FR.rf, hT.1, [], (List.append_nil _).symm⟩
  refine lv_aload_n hx hb dX7_takeName_0 rfl (lv_at hl 0 rfl) ?_
  refine lv_aload_n hx hb dX7_takeName_1 rfl (lv_at hl 1 rfl) ?_
  refine lv_iload_n hx hb dX7_takeName_2 rfl (lv_at hl 2 rfl) ?_
  refine tk_i (va_runV (As := [.ref p1, .int p2]) (rest := []) ⟨hx, hb, hml, hown, hts⟩ (c_X7_nameAhead l D cy z s.heap.size Ps w0 hw.1 p0 p1 p2 h_p0 h_p1 r_p2) (cwV 2 hts (gV tw_468 tw_457 tw_458 tw_2 tw_459) rfl rfl rfl (by decide +kernel) ⟨Nat.le_of_ble_eq_true rfl, Nat.le_of_ble_eq_true rfl⟩) (tg_preV hw hK hSD hA (ci := 7) (q := (RX7, TX7, 12)) rfl h_p0 rfl) rfl rfl hl.1 rfl (lv_room (Nat.le_of_ble_eq_true rfl)) dX7_takeName_3 ⟨Nat.le_of_ble_eq_true rfl, Nat.le_of_ble_eq_true rfl⟩) hw hA ⟨by decide, by decide⟩ (fun v_1 ws H locs hp_v_1 hw hF9 => ?_)
  have r_v_1 : RI v_1 (-1) 5 := hp_v_1.1
  by_cases c9_v_1 : v_1 = 0
  · have r_v_1 : RI v_1 0 0 := by rw [c9_v_1]; exact rl_0
    obtain ⟨v_2, m_v_2, r_v_2⟩ := ((hp_v_1.2.1 c9_v_1).1)
    refine lv_istore_n (lv' := [(3, .int v_1), (0, .ref p0), (1, .ref p1), (2, .int p2)]) hx hb dX7_takeName_6 rfl hl (by decide) rfl (fun ls hl => ?_)
    refine lv_aload_n hx hb dX7_takeName_7 rfl (lv_at hl 1 rfl) ?_
    refine tk_v (va_runV (As := []) (rest := []) ⟨hx, hb, hml, hown, hts⟩ (c_X7_pass l D cy z H.size Ps ws hw.1 p0 h_p0) (cwV 0 hts (gV tw_424 tw_425 tw_426 tw_2 tw_427) rfl rfl rfl (by decide +kernel) ⟨Nat.le_of_ble_eq_true rfl, Nat.le_of_ble_eq_true rfl⟩) (tg_preV hw hK hSD hA (ci := 7) (q := (RX7, TX7, 12)) rfl h_p0 rfl) rfl rfl hl.1 rfl (lv_room (Nat.le_of_ble_eq_true rfl)) dX7_takeName_8 ⟨Nat.le_of_ble_eq_true rfl, Nat.le_of_ble_eq_true rfl⟩) hw hA ⟨by decide, by decide⟩ (fun ws H locs hp_v_3 hw hF9 => ?_)
    have m_v_2 := FLD.over hF9 m_v_2 (by decide)
    refine lv_iload_n hx hb dX7_takeName_11 rfl (lv_at hl 0 rfl) ?_
    subst hQ
    exact W.iret (v := v_1) hx hb hr (fun t ht hW => ⟨⟨v_1, ws, rfl, ⟨⟨r_v_1.to (by decide), (fun h0 => trivial), (fun _ => trivial)⟩, hw.1, hw.2.2.2.2.1⟩, by rw [ht]; exact hw.2.1, va_K.moved hW.alike hK, hw.2.2.1⟩, hw.2.2.2.1.F ht⟩) hw.2.2.2.1.2.2 dX7_takeName_12
  · refine lv_istore_n (lv' := [(3, .int v_1), (0, .ref p0), (1, .ref p1), (2, .int p2)]) hx hb dX7_takeName_6 rfl hl (by decide) rfl (fun ls hl => ?_)
    refine lv_aload_n hx hb dX7_takeName_7 rfl (lv_at hl 1 rfl) ?_
    refine tk_v (va_runV (As := []) (rest := []) ⟨hx, hb, hml, hown, hts⟩ (c_X7_pass l D cy z H.size Ps ws hw.1 p0 h_p0) (cwV 0 hts (gV tw_424 tw_425 tw_426 tw_2 tw_427) rfl rfl rfl (by decide +kernel) ⟨Nat.le_of_ble_eq_true rfl, Nat.le_of_ble_eq_true rfl⟩) (tg_preV hw hK hSD hA (ci := 7) (q := (RX7, TX7, 12)) rfl h_p0 rfl) rfl rfl hl.1 rfl (lv_room (Nat.le_of_ble_eq_true rfl)) dX7_takeName_8 ⟨Nat.le_of_ble_eq_true rfl, Nat.le_of_ble_eq_true rfl⟩) hw hA ⟨by decide, by decide⟩ (fun ws H locs hp_v_4 hw hF9 => ?_)
    refine lv_iload_n hx hb dX7_takeName_11 rfl (lv_at hl 0 rfl) ?_
    subst hQ
    exact W.iret (v := v_1) hx hb hr (fun t ht hW => ⟨⟨v_1, ws, rfl, ⟨⟨r_v_1.to (by decide), (fun h0 => trivial), (fun h0 => trivial)⟩, hw.1, hw.2.2.2.2.1⟩, by rw [ht]; exact hw.2.1, va_K.moved hW.alike hK, hw.2.2.1⟩, hw.2.2.2.1.F ht⟩) hw.2.2.2.1.2.2 dX7_takeName_12
abbrev wr_X3_numberOf__1 : List (Nat × Nat) := []
abbrev wa_X3_numberOf__1 : List Nat := []
set_option maxHeartbeats 4000000 in
set_option maxRecDepth 100000 in
theorem c_X3_numberOf__1 (l : Launch) (D : va_G) (cy : Nat → ClassId) (z : Nat → Nat) (sz : Nat) (Ps : PSI) (w0 : va_W) (hT : HT cy GG Ps w0) (p0 : Nat) (p1 : Int64) (p2 : Int32) (h_p0 : (p0, 25) ∈ Ps) (r_p1 : RJ p1 (-9223372036854775808) 9223372036854775807) (r_p2 : RI p2 1 1) : Met l yX3_numberOf (Cond.code yX3_numberOf cX3_numberOf 5 (some .int) :: gT) ({ frames := 0, cells := 0, slots := 0, locals := 200 } : Room) (va_Pc [.ref p0, .long p1, .int p2] (PRE D cy z w0 sz)) (va_Qi (fun (r : Int32) (u : Unit) => RI r (-1) 3 ∧ (r = 0 → True) ∧ (¬ r = 0 → True)) (BB D cy (va_A w0 sz) (fun (u : Unit) => w0)) (va_A w0 sz)) 0 0 (va_A w0 sz) := by
  refine Met.ofW (cc := cX3_numberOf) (maxL := 5) (ret := (some .int)) (by decide) rfl ?_
  intro p e s m args below meth c s₁ B hml hv
  obtain ⟨rfl, hsz, hP, hK, hD0, hSD⟩ := hv
  have hx := B.exec
  have hb := B.bytes
  have hr := B.returns
  have hlocks := B.notSynchronized
  have hts : ∀ w ∈ gT, w.before _ s = true := fun w h => atoms_spec (ws := Cond.code yX3_numberOf cX3_numberOf 5 (some .int) :: gT) B.pre w (List.mem_cons_of_mem _ h)
  have hown : s.vm.findClass RX3 = some m.cls := findClass_of_methodNamed B.named
  subst hsz
  have hD := hD0.self (sz := s.heap.size)
  generalize hAe : va_A w0 s.heap.size = A at hD hSD ⊢
  have hA : ∀ q : Nat, s.heap.size ≤ q → A q := fun q h => by rw [← hAe]; exact Or.inr h
  have hl := lv_entry ([.ref p0, .long p1, .int p2]) (n := 5) (Nat.le_of_ble_eq_true rfl)
  rw [lg_entry_eq]
  generalize (lg_sl ([.ref p0, .long p1, .int p2]) ++ List.replicate (5 - (lg_sl ([.ref p0, .long p1, .int p2])).length) Slot.unset).toArray = ls at hl ⊢
  have hl : lv_has ls 5 [(0, .ref p0), (1, .long p1), (3, .int p2)] := hl
  refine nameQ (fun Q hQ => ?_)
  have hw : WD D cy GG A s wr_X3_numberOf__1 wa_X3_numberOf__1 Ps w0 Ps w0 s.heap [] := ⟨hT, hP, hD, va_S.rf, FR.rf, hT.1, [], (List.append_nil _).symm⟩
  have B3 : ∀ (nf : Nat) (x4 : Int32) (H : Heap) (locs : List Loc) (ls : Array Slot), 4 - x4.toInt < (nf : Int) → RJ p1 (-9223372036854775808) 9223372036854775807 → RI p2 1 1 → RI x4 0 4 → WD D cy GG A s wr_X3_numberOf__1 wa_X3_numberOf__1 Ps w0 Ps w0 H locs → lv_has ls 5 [(0, .ref p0), (1, .long p1), (3, .int p2), (4, .int x4)] → W p l e (headSpec (Cond.code yX3_numberOf cX3_numberOf 5 (some .int) :: gT) ({ frames := 0, cells := 0, slots := 0, locals := 200 } : Room)).room s m ([.ref p0, .long p1, .int p2] : List Value).toArray below meth c H locs 0 0 Q (F0 m 3 ls []) := by
    intro nf3
    induction nf3 with
    | zero =>
      intro x4 H locs ls hn3 r_p1 r_p2 r_x4 hw hl
      exact absurd hn3 (by have q0 := r_x4.1; have u0 := r_x4.2; omega)
    | succ nf3 ih3 =>
      intro x4 H locs ls hn3 r_p1 r_p2 r_x4 hw hl
      refine lv_iload hx hb dX3_numberOf_3 (lv_at hl 3 rfl) ?_
      refine lv_aload_n hx hb dX3_numberOf_5 rfl (lv_at hl 0 rfl) ?_
      refine tg_get (ci := 3) (ts := ty_POST) (C := RX3) (T := TX3) (N := 9) hx hb hts inX3 hown hK hw h_p0 rfl rfl 1 (by decide) (hts _ tw_201) (fun _ h9 => h9) (ft := vR 4) rfl dX3_numberOf_6 (fun u_1 hv_u_1 m_u_1 => ?_)
      obtain ⟨vu_1, rfl, h_vu_1⟩ := hv_u_1
      refine lv_iload_n hx hb dX3_numberOf_9 rfl (lv_at hl 2 rfl) ?_
      refine tg_iald (lo := 0) (hi := 4) hx hb hK hw h_vu_1 rfl 1 1 r_p2 (by decide) (by decide +kernel) dX3_numberOf_10 (fun v_2 r_v_2 m_v_2 o_v_2 => ?_)
      refine lv_icmp_ge (tgt := 40) hx hb dX3_numberOf_11 (by decide) (fun c_11 => ?_) (fun c_11 => ?_)
      · refine lv_iconst (v := (-1)) hx hb dX3_numberOf_40 (by decide) ?_
        subst hQ
        exact W.iret (v := (-1)) hx hb hr (fun t ht hW => ⟨⟨(-1), (), rfl, ⟨rl_m1.to (by decide), (fun _ => trivial), (fun h0 => trivial)⟩, by rw [ht]; exact hw.2.1, va_K.moved hW.alike hK, hw.2.2.1⟩, hw.2.2.2.1.F ht⟩) hw.2.2.2.1.2.2 dX3_numberOf_41
      · have r_x4 : RI x4 0 3 := rc_lt1 r_x4 r_v_2 (ti_nle c_11) (by decide)
        have r_v_2 : RI v_2 1 4 := rc_lt2 r_x4 r_v_2 (ti_nle c_11) (by decide)
        refine lv_aload_n hx hb dX3_numberOf_14 rfl (lv_at hl 0 rfl) ?_
        refine tg_get (ci := 3) (ts := ty_POST) (C := RX3) (T := TX3) (N := 9) hx hb hts inX3 hown hK hw h_p0 rfl rfl 0 (by decide) (hts _ tw_200) (fun _ h9 => h9) (ft := vR 1) rfl dX3_numberOf_15 (fun u_3 hv_u_3 m_u_3 => ?_)
        obtain ⟨vu_3, rfl, h_vu_3⟩ := hv_u_3
        refine lv_iload_n hx hb dX3_numberOf_18 rfl (lv_at hl 2 rfl) ?_
        refine lv_bipush (v := 8) hx hb dX3_numberOf_19 (by decide) ?_
        refine lv_imul hx hb dX3_numberOf_21 (lv_topi (fun v_4 e_v_4 => ?_))
        obtain ⟨t_v_4, r_v_4⟩ := tq_mul (lo := 8) (hi := 8) r_p2 rl_8 (by decide +kernel) e_v_4
        have t_v_4 : v_4.toInt = p2.toInt * 8 := t_v_4
        refine lv_iload hx hb dX3_numberOf_22 (lv_at hl 3 rfl) ?_
        refine lv_iadd hx hb dX3_numberOf_24 (lv_topi (fun v_5 e_v_5 => ?_))
        obtain ⟨t_v_5, r_v_5⟩ := tq_add (lo := 8) (hi := 11) r_v_4 r_x4 (by decide +kernel) e_v_5
        refine tg_lald hx hb hK hw h_vu_3 rfl r_v_5 (by decide) dX3_numberOf_25 (fun w_6 r_w_6 => ?_)
        refine lv_lload_n hx hb dX3_numberOf_26 rfl (lv_at hl 1 rfl) ?_
        refine W.lcmp hx hb dX3_numberOf_27 (lv_topi (fun v_7 e_v_7 => ?_))
        have r_v_7 := ri_any v_7
        refine lv_if_ne (tgt := 34) hx hb dX3_numberOf_28 (by decide) (fun c_28 => ?_) (fun c_28 => ?_)
        · obtain ⟨v_8, e_v_8⟩ : ∃ q9 : Int32, q9 = x4 + Int32.ofInt 1 := ⟨_, rfl⟩
          obtain ⟨t_v_8, r_v_8⟩ := tq_add (lo := 1) (hi := 4) r_x4 (show RI (Int32.ofInt 1) 1 1 by unfold RI; decide +kernel) (by decide +kernel) e_v_8
          have t_v_8 : v_8.toInt = x4.toInt + 1 := t_v_8
          refine lv_iinc (v := v_8) (lv' := [(4, .int v_8), (0, .ref p0), (1, .long p1), (3, .int p2)]) hx hb dX3_numberOf_34 hl (k := 3) rfl e_v_8.symm (by decide) rfl (fun ls hl => ?_)
          refine lv_goto (tgt := 3) hx hb dX3_numberOf_37 (by decide) ?_
          exact ih3 v_8 _ _ ls (by have q0 := r_v_8.1; have u0 := r_v_8.2; have o0 := r_x4.1; have p0 := r_x4.2; omega) r_p1 r_p2 (r_v_8.to (by decide)) hw (lv_sub hl [1, 2, 3, 0] rfl)
        · have r_v_7 : RI v_7 0 0 := rc_eq1 r_v_7 rl_0 (ti_eq c_28) (by decide)
          refine lv_iload hx hb dX3_numberOf_31 (lv_at hl 3 rfl) ?_
          subst hQ
          exact W.iret (v := x4) hx hb hr (fun t ht hW => ⟨⟨x4, (), rfl, ⟨r_x4.to (by decide), (fun h0 => trivial), (fun h0 => trivial)⟩, by rw [ht]; exact hw.2.1, va_K.moved hW.alike hK, hw.2.2.1⟩, hw.2.2.2.1.F ht⟩) hw.2.2.2.1.2.2 dX3_numberOf_33
  refine lv_iconst (v := 0) hx hb dX3_numberOf_0 (by decide) ?_
  refine lv_istore (lv' := [(4, .int 0), (0, .ref p0), (1, .long p1), (3, .int p2)]) hx hb dX3_numberOf_1 hl (by decide) rfl (fun ls hl => ?_)
  exact B3 4294967298 0 _ _ ls (by have q0 := rl_0.1; have u0 := rl_0.2; omega) r_p1 r_p2 (rl_0.to (by decide)) hw (lv_sub hl [1, 2, 3, 0] rfl)
abbrev wr_X7_nameAhead__1 : List (Nat × Nat) := [(7, 10), (7, 11)]
abbrev wa_X7_nameAhead__1 : List Nat := []
set_option maxHeartbeats 4000000 in
set_option maxRecDepth 100000 in
theorem c_X7_nameAhead__1 (l : Launch) (D : va_G) (cy : Nat → ClassId) (z : Nat → Nat) (sz : Nat) (Ps : PSI) (w0 : va_W) (hT : HT cy GG Ps w0) (p0 : Nat) (p1 : Nat) (p2 : Int32) (h_p0 : (p0, 26) ∈ Ps) (h_p1 : (p1, 25) ∈ Ps) (r_p2 : RI p2 1 1) : Met l yX7_nameAhead (Cond.code yX7_nameAhead cX7_nameAhead 4 (some .int) :: gT) ({ frames := 2, cells := 0, slots := 0, locals := 400 } : Room) (va_Pc [.ref p0, .ref p1, .int p2] (PRE D cy z w0 sz)) (va_Qi (fun (r : Int32) (u : va_W) => (RI r (-1) 3 ∧ (r = 0 → (∃ v9 : Int32, FLD u p0 7 10 (.int v9) ∧ RI v9 0 0) ∧ True) ∧ (¬ r = 0 → True)) ∧ HT cy GG Ps u ∧ FR wr_X7_nameAhead__1 wa_X7_nameAhead__1 Ps w0 u) (BB D cy (va_A w0 sz) (fun (u : va_W) => u)) (va_A w0 sz)) 0 0 (va_A w0 sz) := by
  refine Met.ofW (cc := cX7_nameAhead) (maxL := 4) (ret := (some .int)) (by decide) rfl ?_
  intro p e s m args below meth c s₁ B hml hv
  obtain ⟨rfl, hsz, hP, hK, hD0, hSD⟩ := hv
  have hx := B.exec
  have hb := B.bytes
  have hr := B.returns
  have hlocks := B.notSynchronized
  have hts : ∀ w ∈ gT, w.before _ s = true := fun w h => atoms_spec (ws := Cond.code yX7_nameAhead cX7_nameAhead 4 (some .int) :: gT) B.pre w (List.mem_cons_of_mem _ h)
  have hown : s.vm.findClass RX7 = some m.cls := findClass_of_methodNamed B.named
  subst hsz
  have hD := hD0.self (sz := s.heap.size)
  generalize hAe : va_A w0 s.heap.size = A at hD hSD ⊢
  have hA : ∀ q : Nat, s.heap.size ≤ q → A q := fun q h => by rw [← hAe]; exact Or.inr h
  have hl := lv_entry ([.ref p0, .ref p1, .int p2]) (n := 4) (Nat.le_of_ble_eq_true rfl)
  rw [lg_entry_eq]
  generalize (lg_sl ([.ref p0, .ref p1, .int p2]) ++ List.replicate (4 - (lg_sl ([.ref p0, .ref p1, .int p2])).length) Slot.unset).toArray = ls at hl ⊢
  have hl : lv_has ls 4 [(0, .ref p0), (1, .ref p1), (2, .int p2)] := hl
  refine nameQ (fun Q hQ => ?_)
  have hw : WD D cy GG A s wr_X7_nameAhead__1 wa_X7_nameAhead__1 Ps w0 Ps w0 s.heap [] := ⟨hT, hP, hD, va_S.rf, FR.rf, hT.1, [], (List.append_nil _).symm⟩
  have B35 : ∀ (x3 : Int32) (z0_7 : Int32) (ws : va_W) (H : Heap) (locs : List Loc) (ls : Array Slot), RI p2 1 1 → RI x3 (-1) 3 → RI z0_7 2 2 → FLD ws p0 7 7 (.int z0_7) → WD D cy GG A s wr_X7_nameAhead__1 wa_X7_nameAhead__1 Ps w0 Ps ws H locs → lv_has ls 4 [(0, .ref p0), (1, .ref p1), (2, .int p2), (3, .int x3)] → W p l e (headSpec (Cond.code yX7_nameAhead cX7_nameAhead 4 (some .int) :: gT) ({ frames := 2, cells := 0, slots := 0, locals := 400 } : Room)).room s m ([.ref p0, .ref p1, .int p2] : List Value).toArray below meth c H locs 0 0 Q (F0 m 35 ls []) := by
    intro x3 z0_7 ws H locs ls r_p2 r_x3 r_z0_7 m_z0_7 hw hl
    refine lv_aload_n hx hb dX7_nameAhead_35 rfl (lv_at hl 0 rfl) ?_
    refine tg_get (ci := 7) (ts := ty_TAPE) (C := RX7) (T := TX7) (N := 12) hx hb hts inX7 hown hK hw h_p0 rfl rfl 10 (by decide) (hts _ tw_104) (fun _ h9 => h9) (ft := vI 0 4) rfl dX7_nameAhead_36 (fun u_1 hv_u_1 m_u_1 => ?_)
    obtain ⟨vu_1, rfl, r_vu_1⟩ := hv_u_1
    refine lv_if_ne (tgt := 46) hx hb dX7_nameAhead_39 (by decide) (fun c_39 => ?_) (fun c_39 => ?_)
    · have r_vu_1 : RI vu_1 1 4 := rc_neL r_vu_1 rl_0 (ti_ne c_39) (by decide)
      refine lv_iconst (v := (-1)) hx hb dX7_nameAhead_46 (by decide) ?_
      subst hQ
      exact W.iret (v := (-1)) hx hb hr (fun t ht hW => ⟨⟨(-1), ws, rfl, ⟨⟨rl_m1.to (by decide), (fun h0 => absurd h0 (by decide)), (fun h0 => trivial)⟩, hw.1, hw.2.2.2.2.1⟩, by rw [ht]; exact hw.2.1, va_K.moved hW.alike hK, hw.2.2.1⟩, hw.2.2.2.1.F ht⟩) hw.2.2.2.1.2.2 dX7_nameAhead_47
    · have r_vu_1 : RI vu_1 0 0 := rc_eq1 r_vu_1 rl_0 (ti_eq c_39) (by decide)
      refine lv_iload_n hx hb dX7_nameAhead_42 rfl (lv_at hl 3 rfl) ?_
      refine lv_goto (tgt := 47) hx hb dX7_nameAhead_43 (by decide) ?_
      subst hQ
      exact W.iret (v := x3) hx hb hr (fun t ht hW => ⟨⟨x3, ws, rfl, ⟨⟨r_x3.to (by decide), (fun h0 => ⟨⟨_, m_u_1, r_vu_1⟩, trivial⟩), (fun h0 => trivial)⟩, hw.1, hw.2.2.2.2.1⟩, by rw [ht]; exact hw.2.1, va_K.moved hW.alike hK, hw.2.2.1⟩, hw.2.2.2.1.F ht⟩) hw.2.2.2.1.2.2 dX7_nameAhead_47
  refine lv_aload_n hx hb dX7_nameAhead_0 rfl (lv_at hl 0 rfl) ?_
  refine tg_get (ci := 7) (ts := ty_TAPE) (C := RX7) (T := TX7) (N := 12) hx hb hts inX7 hown hK hw h_p0 rfl rfl 7 (by decide) (hts _ tw_98) (fun _ h9 => h9) (ft := vI (-2147483648) 2147483647) rfl dX7_nameAhead_1 (fun u_2 hv_u_2 m_u_2 => ?_)
  obtain ⟨vu_2, rfl, r_vu_2⟩ := hv_u_2
  refine lv_iconst (v := 2) hx hb dX7_nameAhead_4 (by decide) ?_
  refine lv_icmp_eq (tgt := 15) hx hb dX7_nameAhead_5 (by decide) (fun c_5 => ?_) (fun c_5 => ?_)
  · have r_vu_2 : RI vu_2 2 2 := rc_eq1 r_vu_2 rl_2 (ti_eq c_5) (by decide)
    refine lv_aload_n hx hb dX7_nameAhead_15 rfl (lv_at hl 1 rfl) ?_
    refine lv_aload_n hx hb dX7_nameAhead_16 rfl (lv_at hl 0 rfl) ?_
    refine tg_get (ci := 7) (ts := ty_TAPE) (C := RX7) (T := TX7) (N := 12) hx hb hts inX7 hown hK hw h_p0 rfl rfl 8 (by decide) (hts _ tw_100) (fun _ h9 => h9) (ft := vJ (-9223372036854775808) 9223372036854775807) rfl dX7_nameAhead_17 (fun u_3 hv_u_3 m_u_3 => ?_)
    obtain ⟨vu_3, rfl, r_vu_3⟩ := hv_u_3
    refine lv_iload_n hx hb dX7_nameAhead_20 rfl (lv_at hl 2 rfl) ?_
    refine tk_ir (va_runV (As := [.long vu_3, .int p2]) (rest := []) ⟨hx, hb, hml, hown, hts⟩ (c_X3_numberOf__1 l D cy z s.heap.size Ps w0 hw.1 p1 vu_3 p2 h_p1 r_vu_3 r_p2) (cwV 2 hts (gV tw_460 tw_461 tw_462 tw_11 tw_463) rfl rfl rfl (by decide +kernel) ⟨Nat.le_of_ble_eq_true rfl, Nat.le_of_ble_eq_true rfl⟩) (tg_preV hw hK hSD hA (ci := 3) (q := (RX3, TX3, 9)) rfl h_p1 rfl) rfl rfl hl.1 rfl (lv_room (Nat.le_of_ble_eq_true rfl)) dX7_nameAhead_21 ⟨Nat.le_of_ble_eq_true rfl, Nat.le_of_ble_eq_true rfl⟩) hw hA (fun v_4  H locs hp_v_4 hw => ?_)
    have r_v_4 : RI v_4 (-1) 3 := hp_v_4.1
    refine lv_istore_n (lv' := [(3, .int v_4), (0, .ref p0), (1, .ref p1), (2, .int p2)]) hx hb dX7_nameAhead_24 rfl hl (by decide) rfl (fun ls hl => ?_)
    refine lv_iload_n hx hb dX7_nameAhead_25 rfl (lv_at hl 0 rfl) ?_
    refine lv_iconst (v := (-1)) hx hb dX7_nameAhead_26 (by decide) ?_
    refine lv_icmp_ne (tgt := 35) hx hb dX7_nameAhead_27 (by decide) (fun c_27 => ?_) (fun c_27 => ?_)
    · have r_v_4 : RI v_4 0 3 := rc_neL r_v_4 rl_m1 (ti_ne c_27) (by decide)
      exact B35 v_4 vu_2 w0 _ _ ls r_p2 (r_v_4.to (by decide)) r_vu_2 m_u_2 hw (lv_sub hl [1, 2, 3, 0] rfl)
    · have r_v_4 : RI v_4 (-1) (-1) := rc_eq1 r_v_4 rl_m1 (ti_eq c_27) (by decide)
      refine lv_aload_n hx hb dX7_nameAhead_30 rfl (lv_at hl 1 rfl) ?_
      refine lv_iconst (v := 3) hx hb dX7_nameAhead_31 (by decide) ?_
      refine tk_v (va_runV (As := [.int 3]) (rest := []) ⟨hx, hb, hml, hown, hts⟩ (c_X7_refuse l D cy z H.size Ps w0 hw.1 p0 3 h_p0 (rl_3.to (by decide))) (cwV 1 hts (gV tw_442 tw_443 tw_444 tw_2 tw_445) rfl rfl rfl (by decide +kernel) ⟨Nat.le_of_ble_eq_true rfl, Nat.le_of_ble_eq_true rfl⟩) (tg_preV hw hK hSD hA (ci := 7) (q := (RX7, TX7, 12)) rfl h_p0 rfl) rfl rfl hl.1 rfl (lv_room (Nat.le_of_ble_eq_true rfl)) dX7_nameAhead_32 ⟨Nat.le_of_ble_eq_true rfl, Nat.le_of_ble_eq_true rfl⟩) hw hA ⟨by decide, by decide⟩ (fun ws H locs hp_v_5 hw hF9 => ?_)
      have m_u_2 := FLD.over hF9 m_u_2 (by decide)
      obtain ⟨v_6, m_v_6, r_v_6⟩ := (hp_v_5.1)
      exact B35 v_4 vu_2 ws _ _ ls r_p2 (r_v_4.to (by decide)) r_vu_2 m_u_2 hw (lv_sub hl [1, 2, 3, 0] rfl)
  · refine lv_aload_n hx hb dX7_nameAhead_8 rfl (lv_at hl 0 rfl) ?_
    refine lv_iconst (v := 1) hx hb dX7_nameAhead_9 (by decide) ?_
    refine tk_v (va_runV (As := [.int 1]) (rest := []) ⟨hx, hb, hml, hown, hts⟩ (c_X7_refuse l D cy z s.heap.size Ps w0 hw.1 p0 1 h_p0 (rl_1.to (by decide))) (cwV 1 hts (gV tw_442 tw_443 tw_444 tw_2 tw_445) rfl rfl rfl (by decide +kernel) ⟨Nat.le_of_ble_eq_true rfl, Nat.le_of_ble_eq_true rfl⟩) (tg_preV hw hK hSD hA (ci := 7) (q := (RX7, TX7, 12)) rfl h_p0 rfl) rfl rfl hl.1 rfl (lv_room (Nat.le_of_ble_eq_true rfl)) dX7_nameAhead_10 ⟨Nat.le_of_ble_eq_true rfl, Nat.le_of_ble_eq_true rfl⟩) hw hA ⟨by decide, by decide⟩ (fun ws H locs hp_v_7 hw hF9 => ?_)
    have m_u_2 := FLD.over hF9 m_u_2 (by decide)
    obtain ⟨v_8, m_v_8, r_v_8⟩ := (hp_v_7.1)
    refine lv_iconst (v := (-1)) hx hb dX7_nameAhead_13 (by decide) ?_
    subst hQ
    exact W.iret (v := (-1)) hx hb hr (fun t ht hW => ⟨⟨(-1), ws, rfl, ⟨⟨rl_m1.to (by decide), (fun h0 => absurd h0 (by decide)), (fun h0 => trivial)⟩, hw.1, hw.2.2.2.2.1⟩, by rw [ht]; exact hw.2.1, va_K.moved hW.alike hK, hw.2.2.1⟩, hw.2.2.2.1.F ht⟩) hw.2.2.2.1.2.2 dX7_nameAhead_14
abbrev wr_X7_takeName__1 : List (Nat × Nat) := [(7, 5), (7, 6), (7, 7), (7, 8), (7, 9), (7, 10), (7, 11)]
abbrev wa_X7_takeName__1 : List Nat := []
set_option maxHeartbeats 4000000 in
set_option maxRecDepth 100000 in
theorem c_X7_takeName__1 (l : Launch) (D : va_G) (cy : Nat → ClassId) (z : Nat → Nat) (sz : Nat) (Ps : PSI) (w0 : va_W) (hT : HT cy GG Ps w0) (p0 : Nat) (p1 : Nat) (p2 : Int32) (h_p0 : (p0, 26) ∈ Ps) (h_p1 : (p1, 25) ∈ Ps) (r_p2 : RI p2 1 1) : Met l yX7_takeName (Cond.code yX7_takeName cX7_takeName 4 (some .int) :: gT) ({ frames := 3, cells := 0, slots := 0, locals := 600 } : Room) (va_Pc [.ref p0, .ref p1, .int p2] (PRE D cy z w0 sz)) (va_Qi (fun (r : Int32) (u : va_W) => (RI r (-1) 3 ∧ (r = 0 → True) ∧ (¬ r = 0 → True)) ∧ HT cy GG Ps u ∧ FR wr_X7_takeName__1 wa_X7_takeName__1 Ps w0 u) (BB D cy (va_A w0 sz) (fun (u : va_W) => u)) (va_A w0 sz)) 0 0 (va_A w0 sz) := by
  refine Met.ofW (cc := cX7_takeName) (maxL := 4) (ret := (some .int)) (by decide) rfl ?_
  intro p e s m args below meth c s₁ B hml hv
  obtain ⟨rfl, hsz, hP, hK, hD0, hSD⟩ := hv
  have hx := B.exec
  have hb := B.bytes
  have hr := B.returns
  have hlocks := B.notSynchronized
  have hts : ∀ w ∈ gT, w.before _ s = true := fun w h => atoms_spec (ws := Cond.code yX7_takeName cX7_takeName 4 (some .int) :: gT) B.pre w (List.mem_cons_of_mem _ h)
  have hown : s.vm.findClass RX7 = some m.cls := findClass_of_methodNamed B.named
  subst hsz
  have hD := hD0.self (sz := s.heap.size)
  generalize hAe : va_A w0 s.heap.size = A at hD hSD ⊢
  have hA : ∀ q : Nat, s.heap.size ≤ q → A q := fun q h => by rw [← hAe]; exact Or.inr h
  have hl := lv_entry ([.ref p0, .ref p1, .int p2]) (n := 4) (Nat.le_of_ble_eq_true rfl)
  rw [lg_entry_eq]
  generalize (lg_sl ([.ref p0, .ref p1, .int p2]) ++ List.replicate (4 - (lg_sl ([.ref p0, .ref p1, .int p2])).length) Slot.unset).toArray = ls at hl ⊢
  have hl : lv_has ls 4 [(0, .ref p0), (1, .ref p1), (2, .int p2)] := hl
  refine nameQ (fun Q hQ => ?_)
  have hw : WD D cy GG A s wr_X7_takeName__1 wa_X7_takeName__1 Ps w0 Ps w0 s.heap [] := ⟨hT, hP, hD, va_S.rf, FR.rf, hT.1, [], (List.append_nil _).symm⟩
  refine lv_aload_n hx hb dX7_takeName_0 rfl (lv_at hl 0 rfl) ?_
  refine lv_aload_n hx hb dX7_takeName_1 rfl (lv_at hl 1 rfl) ?_
  refine lv_iload_n hx hb dX7_takeName_2 rfl (lv_at hl 2 rfl) ?_
  refine tk_i (va_runV (As := [.ref p1, .int p2]) (rest := []) ⟨hx, hb, hml, hown, hts⟩ (c_X7_nameAhead__1 l D cy z s.heap.size Ps w0 hw.1 p0 p1 p2 h_p0 h_p1 r_p2) (cwV 2 hts (gV tw_468 tw_457 tw_458 tw_2 tw_459) rfl rfl rfl (by decide +kernel) ⟨Nat.le_of_ble_eq_true rfl, Nat.le_of_ble_eq_true rfl⟩) (tg_preV hw hK hSD hA (ci := 7) (q := (RX7, TX7, 12)) rfl h_p0 rfl) rfl rfl hl.1 rfl (lv_room (Nat.le_of_ble_eq_true rfl)) dX7_takeName_3 ⟨Nat.le_of_ble_eq_true rfl, Nat.le_of_ble_eq_true rfl⟩) hw hA ⟨by decide, by decide⟩ (fun v_1 ws H locs hp_v_1 hw hF9 => ?_)
  have r_v_1 : RI v_1 (-1) 3 := hp_v_1.1
  by_cases c9_v_1 : v_1 = 0
  · have r_v_1 : RI v_1 0 0 := by rw [c9_v_1]; exact rl_0
    obtain ⟨v_2, m_v_2, r_v_2⟩ := ((hp_v_1.2.1 c9_v_1).1)
    refine lv_istore_n (lv' := [(3, .int v_1), (0, .ref p0), (1, .ref p1), (2, .int p2)]) hx hb dX7_takeName_6 rfl hl (by decide) rfl (fun ls hl => ?_)
    refine lv_aload_n hx hb dX7_takeName_7 rfl (lv_at hl 1 rfl) ?_
    refine tk_v (va_runV (As := []) (rest := []) ⟨hx, hb, hml, hown, hts⟩ (c_X7_pass l D cy z H.size Ps ws hw.1 p0 h_p0) (cwV 0 hts (gV tw_424 tw_425 tw_426 tw_2 tw_427) rfl rfl rfl (by decide +kernel) ⟨Nat.le_of_ble_eq_true rfl, Nat.le_of_ble_eq_true rfl⟩) (tg_preV hw hK hSD hA (ci := 7) (q := (RX7, TX7, 12)) rfl h_p0 rfl) rfl rfl hl.1 rfl (lv_room (Nat.le_of_ble_eq_true rfl)) dX7_takeName_8 ⟨Nat.le_of_ble_eq_true rfl, Nat.le_of_ble_eq_true rfl⟩) hw hA ⟨by decide, by decide⟩ (fun ws H locs hp_v_3 hw hF9 => ?_)
    have m_v_2 := FLD.over hF9 m_v_2 (by decide)
    refine lv_iload_n hx hb dX7_takeName_11 rfl (lv_at hl 0 rfl) ?_
    subst hQ
    exact W.iret (v := v_1) hx hb hr (fun t ht hW => ⟨⟨v_1, ws, rfl, ⟨⟨r_v_1.to (by decide), (fun h0 => trivial), (fun _ => trivial)⟩, hw.1, hw.2.2.2.2.1⟩, by rw [ht]; exact hw.2.1, va_K.moved hW.alike hK, hw.2.2.1⟩, hw.2.2.2.1.F ht⟩) hw.2.2.2.1.2.2 dX7_takeName_12
  · refine lv_istore_n (lv' := [(3, .int v_1), (0, .ref p0), (1, .ref p1), (2, .int p2)]) hx hb dX7_takeName_6 rfl hl (by decide) rfl (fun ls hl => ?_)
    refine lv_aload_n hx hb dX7_takeName_7 rfl (lv_at hl 1 rfl) ?_
    refine tk_v (va_runV (As := []) (rest := []) ⟨hx, hb, hml, hown, hts⟩ (c_X7_pass l D cy z H.size Ps ws hw.1 p0 h_p0) (cwV 0 hts (gV tw_424 tw_425 tw_426 tw_2 tw_427) rfl rfl rfl (by decide +kernel) ⟨Nat.le_of_ble_eq_true rfl, Nat.le_of_ble_eq_true rfl⟩) (tg_preV hw hK hSD hA (ci := 7) (q := (RX7, TX7, 12)) rfl h_p0 rfl) rfl rfl hl.1 rfl (lv_room (Nat.le_of_ble_eq_true rfl)) dX7_takeName_8 ⟨Nat.le_of_ble_eq_true rfl, Nat.le_of_ble_eq_true rfl⟩) hw hA ⟨by decide, by decide⟩ (fun ws H locs hp_v_4 hw hF9 => ?_)
    refine lv_iload_n hx hb dX7_takeName_11 rfl (lv_at hl 0 rfl) ?_
    subst hQ
    exact W.iret (v := v_1) hx hb hr (fun t ht hW => ⟨⟨v_1, ws, rfl, ⟨⟨r_v_1.to (by decide), (fun h0 => trivial), (fun h0 => trivial)⟩, hw.1, hw.2.2.2.2.1⟩, by rw [ht]; exact hw.2.1, va_K.moved hW.alike hK, hw.2.2.1⟩, hw.2.2.2.1.F ht⟩) hw.2.2.2.1.2.2 dX7_takeName_12
abbrev wr_X3_numberOf__2 : List (Nat × Nat) := []
abbrev wa_X3_numberOf__2 : List Nat := []
set_option maxHeartbeats 4000000 in
set_option maxRecDepth 100000 in
theorem c_X3_numberOf__2 (l : Launch) (D : va_G) (cy : Nat → ClassId) (z : Nat → Nat) (sz : Nat) (Ps : PSI) (w0 : va_W) (hT : HT cy GG Ps w0) (p0 : Nat) (p1 : Int64) (p2 : Int32) (h_p0 : (p0, 25) ∈ Ps) (r_p1 : RJ p1 (-9223372036854775808) 9223372036854775807) (r_p2 : RI p2 2 2) : Met l yX3_numberOf (Cond.code yX3_numberOf cX3_numberOf 5 (some .int) :: gT) ({ frames := 0, cells := 0, slots := 0, locals := 200 } : Room) (va_Pc [.ref p0, .long p1, .int p2] (PRE D cy z w0 sz)) (va_Qi (fun (r : Int32) (u : Unit) => RI r (-1) 5 ∧ (r = 0 → True) ∧ (¬ r = 0 → True)) (BB D cy (va_A w0 sz) (fun (u : Unit) => w0)) (va_A w0 sz)) 0 0 (va_A w0 sz) := by
  refine Met.ofW (cc := cX3_numberOf) (maxL := 5) (ret := (some .int)) (by decide) rfl ?_
  intro p e s m args below meth c s₁ B hml hv
  obtain ⟨rfl, hsz, hP, hK, hD0, hSD⟩ := hv
  have hx := B.exec
  have hb := B.bytes
  have hr := B.returns
  have hlocks := B.notSynchronized
  have hts : ∀ w ∈ gT, w.before _ s = true := fun w h => atoms_spec (ws := Cond.code yX3_numberOf cX3_numberOf 5 (some .int) :: gT) B.pre w (List.mem_cons_of_mem _ h)
  have hown : s.vm.findClass RX3 = some m.cls := findClass_of_methodNamed B.named
  subst hsz
  have hD := hD0.self (sz := s.heap.size)
  generalize hAe : va_A w0 s.heap.size = A at hD hSD ⊢
  have hA : ∀ q : Nat, s.heap.size ≤ q → A q := fun q h => by rw [← hAe]; exact Or.inr h
  have hl := lv_entry ([.ref p0, .long p1, .int p2]) (n := 5) (Nat.le_of_ble_eq_true rfl)
  rw [lg_entry_eq]
  generalize (lg_sl ([.ref p0, .long p1, .int p2]) ++ List.replicate (5 - (lg_sl ([.ref p0, .long p1, .int p2])).length) Slot.unset).toArray = ls at hl ⊢
  have hl : lv_has ls 5 [(0, .ref p0), (1, .long p1), (3, .int p2)] := hl
  refine nameQ (fun Q hQ => ?_)
  have hw : WD D cy GG A s wr_X3_numberOf__2 wa_X3_numberOf__2 Ps w0 Ps w0 s.heap [] := ⟨hT, hP, hD, va_S.rf, FR.rf, hT.1, [], (List.append_nil _).symm⟩
  have B3 : ∀ (nf : Nat) (x4 : Int32) (H : Heap) (locs : List Loc) (ls : Array Slot), 6 - x4.toInt < (nf : Int) → RJ p1 (-9223372036854775808) 9223372036854775807 → RI p2 2 2 → RI x4 0 6 → WD D cy GG A s wr_X3_numberOf__2 wa_X3_numberOf__2 Ps w0 Ps w0 H locs → lv_has ls 5 [(0, .ref p0), (1, .long p1), (3, .int p2), (4, .int x4)] → W p l e (headSpec (Cond.code yX3_numberOf cX3_numberOf 5 (some .int) :: gT) ({ frames := 0, cells := 0, slots := 0, locals := 200 } : Room)).room s m ([.ref p0, .long p1, .int p2] : List Value).toArray below meth c H locs 0 0 Q (F0 m 3 ls []) := by
    intro nf3
    induction nf3 with
    | zero =>
      intro x4 H locs ls hn3 r_p1 r_p2 r_x4 hw hl
      exact absurd hn3 (by have q0 := r_x4.1; have u0 := r_x4.2; omega)
    | succ nf3 ih3 =>
      intro x4 H locs ls hn3 r_p1 r_p2 r_x4 hw hl
      refine lv_iload hx hb dX3_numberOf_3 (lv_at hl 3 rfl) ?_
      refine lv_aload_n hx hb dX3_numberOf_5 rfl (lv_at hl 0 rfl) ?_
      refine tg_get (ci := 3) (ts := ty_POST) (C := RX3) (T := TX3) (N := 9) hx hb hts inX3 hown hK hw h_p0 rfl rfl 1 (by decide) (hts _ tw_201) (fun _ h9 => h9) (ft := vR 4) rfl dX3_numberOf_6 (fun u_1 hv_u_1 m_u_1 => ?_)
      obtain ⟨vu_1, rfl, h_vu_1⟩ := hv_u_1
      refine lv_iload_n hx hb dX3_numberOf_9 rfl (lv_at hl 2 rfl) ?_
      refine tg_iald (lo := 0) (hi := 6) hx hb hK hw h_vu_1 rfl 2 2 r_p2 (by decide) (by decide +kernel) dX3_numberOf_10 (fun v_2 r_v_2 m_v_2 o_v_2 => ?_)
      refine lv_icmp_ge (tgt := 40) hx hb dX3_numberOf_11 (by decide) (fun c_11 => ?_) (fun c_11 => ?_)
      · refine lv_iconst (v := (-1)) hx hb dX3_numberOf_40 (by decide) ?_
        subst hQ
        exact W.iret (v := (-1)) hx hb hr (fun t ht hW => ⟨⟨(-1), (), rfl, ⟨rl_m1.to (by decide), (fun _ => trivial), (fun h0 => trivial)⟩, by rw [ht]; exact hw.2.1, va_K.moved hW.alike hK, hw.2.2.1⟩, hw.2.2.2.1.F ht⟩) hw.2.2.2.1.2.2 dX3_numberOf_41
      · have r_x4 : RI x4 0 5 := rc_lt1 r_x4 r_v_2 (ti_nle c_11) (by decide)
        have r_v_2 : RI v_2 1 6 := rc_lt2 r_x4 r_v_2 (ti_nle c_11) (by decide)
        refine lv_aload_n hx hb dX3_numberOf_14 rfl (lv_at hl 0 rfl) ?_
        refine tg_get (ci := 3) (ts := ty_POST) (C := RX3) (T := TX3) (N := 9) hx hb hts inX3 hown hK hw h_p0 rfl rfl 0 (by decide) (hts _ tw_200) (fun _ h9 => h9) (ft := vR 1) rfl dX3_numberOf_15 (fun u_3 hv_u_3 m_u_3 => ?_)
        obtain ⟨vu_3, rfl, h_vu_3⟩ := hv_u_3
        refine lv_iload_n hx hb dX3_numberOf_18 rfl (lv_at hl 2 rfl) ?_
        refine lv_bipush (v := 8) hx hb dX3_numberOf_19 (by decide) ?_
        refine lv_imul hx hb dX3_numberOf_21 (lv_topi (fun v_4 e_v_4 => ?_))
        obtain ⟨t_v_4, r_v_4⟩ := tq_mul (lo := 16) (hi := 16) r_p2 rl_8 (by decide +kernel) e_v_4
        have t_v_4 : v_4.toInt = p2.toInt * 8 := t_v_4
        refine lv_iload hx hb dX3_numberOf_22 (lv_at hl 3 rfl) ?_
        refine lv_iadd hx hb dX3_numberOf_24 (lv_topi (fun v_5 e_v_5 => ?_))
        obtain ⟨t_v_5, r_v_5⟩ := tq_add (lo := 16) (hi := 21) r_v_4 r_x4 (by decide +kernel) e_v_5
        refine tg_lald hx hb hK hw h_vu_3 rfl r_v_5 (by decide) dX3_numberOf_25 (fun w_6 r_w_6 => ?_)
        refine lv_lload_n hx hb dX3_numberOf_26 rfl (lv_at hl 1 rfl) ?_
        refine W.lcmp hx hb dX3_numberOf_27 (lv_topi (fun v_7 e_v_7 => ?_))
        have r_v_7 := ri_any v_7
        refine lv_if_ne (tgt := 34) hx hb dX3_numberOf_28 (by decide) (fun c_28 => ?_) (fun c_28 => ?_)
        · obtain ⟨v_8, e_v_8⟩ : ∃ q9 : Int32, q9 = x4 + Int32.ofInt 1 := ⟨_, rfl⟩
          obtain ⟨t_v_8, r_v_8⟩ := tq_add (lo := 1) (hi := 6) r_x4 (show RI (Int32.ofInt 1) 1 1 by unfold RI; decide +kernel) (by decide +kernel) e_v_8
          have t_v_8 : v_8.toInt = x4.toInt + 1 := t_v_8
          refine lv_iinc (v := v_8) (lv' := [(4, .int v_8), (0, .ref p0), (1, .long p1), (3, .int p2)]) hx hb dX3_numberOf_34 hl (k := 3) rfl e_v_8.symm (by decide) rfl (fun ls hl => ?_)
          refine lv_goto (tgt := 3) hx hb dX3_numberOf_37 (by decide) ?_
          exact ih3 v_8 _ _ ls (by have q0 := r_v_8.1; have u0 := r_v_8.2; have o0 := r_x4.1; have p0 := r_x4.2; omega) r_p1 r_p2 (r_v_8.to (by decide)) hw (lv_sub hl [1, 2, 3, 0] rfl)
        · have r_v_7 : RI v_7 0 0 := rc_eq1 r_v_7 rl_0 (ti_eq c_28) (by decide)
          refine lv_iload hx hb dX3_numberOf_31 (lv_at hl 3 rfl) ?_
          subst hQ
          exact W.iret (v := x4) hx hb hr (fun t ht hW => ⟨⟨x4, (), rfl, ⟨r_x4.to (by decide), (fun h0 => trivial), (fun h0 => trivial)⟩, by rw [ht]; exact hw.2.1, va_K.moved hW.alike hK, hw.2.2.1⟩, hw.2.2.2.1.F ht⟩) hw.2.2.2.1.2.2 dX3_numberOf_33
  refine lv_iconst (v := 0) hx hb dX3_numberOf_0 (by decide) ?_
  refine lv_istore (lv' := [(4, .int 0), (0, .ref p0), (1, .long p1), (3, .int p2)]) hx hb dX3_numberOf_1 hl (by decide) rfl (fun ls hl => ?_)
  exact B3 4294967298 0 _ _ ls (by have q0 := rl_0.1; have u0 := rl_0.2; omega) r_p1 r_p2 (rl_0.to (by decide)) hw (lv_sub hl [1, 2, 3, 0] rfl)
abbrev wr_X7_nameAhead__2 : List (Nat × Nat) := [(7, 10), (7, 11)]
abbrev wa_X7_nameAhead__2 : List Nat := []
set_option maxHeartbeats 4000000 in
set_option maxRecDepth 100000 in
theorem c_X7_nameAhead__2 (l : Launch) (D : va_G) (cy : Nat → ClassId) (z : Nat → Nat) (sz : Nat) (Ps : PSI) (w0 : va_W) (hT : HT cy GG Ps w0) (p0 : Nat) (p1 : Nat) (p2 : Int32) (h_p0 : (p0, 26) ∈ Ps) (h_p1 : (p1, 25) ∈ Ps) (r_p2 : RI p2 2 2) : Met l yX7_nameAhead (Cond.code yX7_nameAhead cX7_nameAhead 4 (some .int) :: gT) ({ frames := 2, cells := 0, slots := 0, locals := 400 } : Room) (va_Pc [.ref p0, .ref p1, .int p2] (PRE D cy z w0 sz)) (va_Qi (fun (r : Int32) (u : va_W) => (RI r (-1) 5 ∧ (r = 0 → (∃ v9 : Int32, FLD u p0 7 10 (.int v9) ∧ RI v9 0 0) ∧ True) ∧ (¬ r = 0 → True)) ∧ HT cy GG Ps u ∧ FR wr_X7_nameAhead__2 wa_X7_nameAhead__2 Ps w0 u) (BB D cy (va_A w0 sz) (fun (u : va_W) => u)) (va_A w0 sz)) 0 0 (va_A w0 sz) := by
  refine Met.ofW (cc := cX7_nameAhead) (maxL := 4) (ret := (some .int)) (by decide) rfl ?_
  intro p e s m args below meth c s₁ B hml hv
  obtain ⟨rfl, hsz, hP, hK, hD0, hSD⟩ := hv
  have hx := B.exec
  have hb := B.bytes
  have hr := B.returns
  have hlocks := B.notSynchronized
  have hts : ∀ w ∈ gT, w.before _ s = true := fun w h => atoms_spec (ws := Cond.code yX7_nameAhead cX7_nameAhead 4 (some .int) :: gT) B.pre w (List.mem_cons_of_mem _ h)
  have hown : s.vm.findClass RX7 = some m.cls := findClass_of_methodNamed B.named
  subst hsz
  have hD := hD0.self (sz := s.heap.size)
  generalize hAe : va_A w0 s.heap.size = A at hD hSD ⊢
  have hA : ∀ q : Nat, s.heap.size ≤ q → A q := fun q h => by rw [← hAe]; exact Or.inr h
  have hl := lv_entry ([.ref p0, .ref p1, .int p2]) (n := 4) (Nat.le_of_ble_eq_true rfl)
  rw [lg_entry_eq]
  generalize (lg_sl ([.ref p0, .ref p1, .int p2]) ++ List.replicate (4 - (lg_sl ([.ref p0, .ref p1, .int p2])).length) Slot.unset).toArray = ls at hl ⊢
  have hl : lv_has ls 4 [(0, .ref p0), (1, .ref p1), (2, .int p2)] := hl
  refine nameQ (fun Q hQ => ?_)
  have hw : WD D cy GG A s wr_X7_nameAhead__2 wa_X7_nameAhead__2 Ps w0 Ps w0 s.heap [] := ⟨hT, hP, hD, va_S.rf, FR.rf, hT.1, [], (List.append_nil _).symm⟩
  have B35 : ∀ (x3 : Int32) (z0_7 : Int32) (ws : va_W) (H : Heap) (locs : List Loc) (ls : Array Slot), RI p2 2 2 → RI x3 (-1) 5 → RI z0_7 2 2 → FLD ws p0 7 7 (.int z0_7) → WD D cy GG A s wr_X7_nameAhead__2 wa_X7_nameAhead__2 Ps w0 Ps ws H locs → lv_has ls 4 [(0, .ref p0), (1, .ref p1), (2, .int p2), (3, .int x3)] → W p l e (headSpec (Cond.code yX7_nameAhead cX7_nameAhead 4 (some .int) :: gT) ({ frames := 2, cells := 0, slots := 0, locals := 400 } : Room)).room s m ([.ref p0, .ref p1, .int p2] : List Value).toArray below meth c H locs 0 0 Q (F0 m 35 ls []) := by
    intro x3 z0_7 ws H locs ls r_p2 r_x3 r_z0_7 m_z0_7 hw hl
    refine lv_aload_n hx hb dX7_nameAhead_35 rfl (lv_at hl 0 rfl) ?_
    refine tg_get (ci := 7) (ts := ty_TAPE) (C := RX7) (T := TX7) (N := 12) hx hb hts inX7 hown hK hw h_p0 rfl rfl 10 (by decide) (hts _ tw_104) (fun _ h9 => h9) (ft := vI 0 4) rfl dX7_nameAhead_36 (fun u_1 hv_u_1 m_u_1 => ?_)
    obtain ⟨vu_1, rfl, r_vu_1⟩ := hv_u_1
    refine lv_if_ne (tgt := 46) hx hb dX7_nameAhead_39 (by decide) (fun c_39 => ?_) (fun c_39 => ?_)
    · have r_vu_1 : RI vu_1 1 4 := rc_neL r_vu_1 rl_0 (ti_ne c_39) (by decide)
      refine lv_iconst (v := (-1)) hx hb dX7_nameAhead_46 (by decide) ?_
      subst hQ
      exact W.iret (v := (-1)) hx hb hr (fun t ht hW => ⟨⟨(-1), ws, rfl, ⟨⟨rl_m1.to (by decide), (fun h0 => absurd h0 (by decide)), (fun h0 => trivial)⟩, hw.1, hw.2.2.2.2.1⟩, by rw [ht]; exact hw.2.1, va_K.moved hW.alike hK, hw.2.2.1⟩, hw.2.2.2.1.F ht⟩) hw.2.2.2.1.2.2 dX7_nameAhead_47
    · have r_vu_1 : RI vu_1 0 0 := rc_eq1 r_vu_1 rl_0 (ti_eq c_39) (by decide)
      refine lv_iload_n hx hb dX7_nameAhead_42 rfl (lv_at hl 3 rfl) ?_
      refine lv_goto (tgt := 47) hx hb dX7_nameAhead_43 (by decide) ?_
      subst hQ
      exact W.iret (v := x3) hx hb hr (fun t ht hW => ⟨⟨x3, ws, rfl, ⟨⟨r_x3.to (by decide), (fun h0 => ⟨⟨_, m_u_1, r_vu_1⟩, trivial⟩), (fun h0 => trivial)⟩, hw.1, hw.2.2.2.2.1⟩, by rw [ht]; exact hw.2.1, va_K.moved hW.alike hK, hw.2.2.1⟩, hw.2.2.2.1.F ht⟩) hw.2.2.2.1.2.2 dX7_nameAhead_47
  refine lv_aload_n hx hb dX7_nameAhead_0 rfl (lv_at hl 0 rfl) ?_
  refine tg_get (ci := 7) (ts := ty_TAPE) (C := RX7) (T := TX7) (N := 12) hx hb hts inX7 hown hK hw h_p0 rfl rfl 7 (by decide) (hts _ tw_98) (fun _ h9 => h9) (ft := vI (-2147483648) 2147483647) rfl dX7_nameAhead_1 (fun u_2 hv_u_2 m_u_2 => ?_)
  obtain ⟨vu_2, rfl, r_vu_2⟩ := hv_u_2
  refine lv_iconst (v := 2) hx hb dX7_nameAhead_4 (by decide) ?_
  refine lv_icmp_eq (tgt := 15) hx hb dX7_nameAhead_5 (by decide) (fun c_5 => ?_) (fun c_5 => ?_)
  · have r_vu_2 : RI vu_2 2 2 := rc_eq1 r_vu_2 rl_2 (ti_eq c_5) (by decide)
    refine lv_aload_n hx hb dX7_nameAhead_15 rfl (lv_at hl 1 rfl) ?_
    refine lv_aload_n hx hb dX7_nameAhead_16 rfl (lv_at hl 0 rfl) ?_
    refine tg_get (ci := 7) (ts := ty_TAPE) (C := RX7) (T := TX7) (N := 12) hx hb hts inX7 hown hK hw h_p0 rfl rfl 8 (by decide) (hts _ tw_100) (fun _ h9 => h9) (ft := vJ (-9223372036854775808) 9223372036854775807) rfl dX7_nameAhead_17 (fun u_3 hv_u_3 m_u_3 => ?_)
    obtain ⟨vu_3, rfl, r_vu_3⟩ := hv_u_3
    refine lv_iload_n hx hb dX7_nameAhead_20 rfl (lv_at hl 2 rfl) ?_
    refine tk_ir (va_runV (As := [.long vu_3, .int p2]) (rest := []) ⟨hx, hb, hml, hown, hts⟩ (c_X3_numberOf__2 l D cy z s.heap.size Ps w0 hw.1 p1 vu_3 p2 h_p1 r_vu_3 r_p2) (cwV 2 hts (gV tw_460 tw_461 tw_462 tw_11 tw_463) rfl rfl rfl (by decide +kernel) ⟨Nat.le_of_ble_eq_true rfl, Nat.le_of_ble_eq_true rfl⟩) (tg_preV hw hK hSD hA (ci := 3) (q := (RX3, TX3, 9)) rfl h_p1 rfl) rfl rfl hl.1 rfl (lv_room (Nat.le_of_ble_eq_true rfl)) dX7_nameAhead_21 ⟨Nat.le_of_ble_eq_true rfl, Nat.le_of_ble_eq_true rfl⟩) hw hA (fun v_4  H locs hp_v_4 hw => ?_)
    have r_v_4 : RI v_4 (-1) 5 := hp_v_4.1
    refine lv_istore_n (lv' := [(3, .int v_4), (0, .ref p0), (1, .ref p1), (2, .int p2)]) hx hb dX7_nameAhead_24 rfl hl (by decide) rfl (fun ls hl => ?_)
    refine lv_iload_n hx hb dX7_nameAhead_25 rfl (lv_at hl 0 rfl) ?_
    refine lv_iconst (v := (-1)) hx hb dX7_nameAhead_26 (by decide) ?_
    refine lv_icmp_ne (tgt := 35) hx hb dX7_nameAhead_27 (by decide) (fun c_27 => ?_) (fun c_27 => ?_)
    · have r_v_4 : RI v_4 0 5 := rc_neL r_v_4 rl_m1 (ti_ne c_27) (by decide)
      exact B35 v_4 vu_2 w0 _ _ ls r_p2 (r_v_4.to (by decide)) r_vu_2 m_u_2 hw (lv_sub hl [1, 2, 3, 0] rfl)
    · have r_v_4 : RI v_4 (-1) (-1) := rc_eq1 r_v_4 rl_m1 (ti_eq c_27) (by decide)
      refine lv_aload_n hx hb dX7_nameAhead_30 rfl (lv_at hl 1 rfl) ?_
      refine lv_iconst (v := 3) hx hb dX7_nameAhead_31 (by decide) ?_
      refine tk_v (va_runV (As := [.int 3]) (rest := []) ⟨hx, hb, hml, hown, hts⟩ (c_X7_refuse l D cy z H.size Ps w0 hw.1 p0 3 h_p0 (rl_3.to (by decide))) (cwV 1 hts (gV tw_442 tw_443 tw_444 tw_2 tw_445) rfl rfl rfl (by decide +kernel) ⟨Nat.le_of_ble_eq_true rfl, Nat.le_of_ble_eq_true rfl⟩) (tg_preV hw hK hSD hA (ci := 7) (q := (RX7, TX7, 12)) rfl h_p0 rfl) rfl rfl hl.1 rfl (lv_room (Nat.le_of_ble_eq_true rfl)) dX7_nameAhead_32 ⟨Nat.le_of_ble_eq_true rfl, Nat.le_of_ble_eq_true rfl⟩) hw hA ⟨by decide, by decide⟩ (fun ws H locs hp_v_5 hw hF9 => ?_)
      have m_u_2 := FLD.over hF9 m_u_2 (by decide)
      obtain ⟨v_6, m_v_6, r_v_6⟩ := (hp_v_5.1)
      exact B35 v_4 vu_2 ws _ _ ls r_p2 (r_v_4.to (by decide)) r_vu_2 m_u_2 hw (lv_sub hl [1, 2, 3, 0] rfl)
  · refine lv_aload_n hx hb dX7_nameAhead_8 rfl (lv_at hl 0 rfl) ?_
    refine lv_iconst (v := 1) hx hb dX7_nameAhead_9 (by decide) ?_
    refine tk_v (va_runV (As := [.int 1]) (rest := []) ⟨hx, hb, hml, hown, hts⟩ (c_X7_refuse l D cy z s.heap.size Ps w0 hw.1 p0 1 h_p0 (rl_1.to (by decide))) (cwV 1 hts (gV tw_442 tw_443 tw_444 tw_2 tw_445) rfl rfl rfl (by decide +kernel) ⟨Nat.le_of_ble_eq_true rfl, Nat.le_of_ble_eq_true rfl⟩) (tg_preV hw hK hSD hA (ci := 7) (q := (RX7, TX7, 12)) rfl h_p0 rfl) rfl rfl hl.1 rfl (lv_room (Nat.le_of_ble_eq_true rfl)) dX7_nameAhead_10 ⟨Nat.le_of_ble_eq_true rfl, Nat.le_of_ble_eq_true rfl⟩) hw hA ⟨by decide, by decide⟩ (fun ws H locs hp_v_7 hw hF9 => ?_)
    have m_u_2 := FLD.over hF9 m_u_2 (by decide)
    obtain ⟨v_8, m_v_8, r_v_8⟩ := (hp_v_7.1)
    refine lv_iconst (v := (-1)) hx hb dX7_nameAhead_13 (by decide) ?_
    subst hQ
    exact W.iret (v := (-1)) hx hb hr (fun t ht hW => ⟨⟨(-1), ws, rfl, ⟨⟨rl_m1.to (by decide), (fun h0 => absurd h0 (by decide)), (fun h0 => trivial)⟩, hw.1, hw.2.2.2.2.1⟩, by rw [ht]; exact hw.2.1, va_K.moved hW.alike hK, hw.2.2.1⟩, hw.2.2.2.1.F ht⟩) hw.2.2.2.1.2.2 dX7_nameAhead_14
abbrev wr_X7_takeName__2 : List (Nat × Nat) := [(7, 5), (7, 6), (7, 7), (7, 8), (7, 9), (7, 10), (7, 11)]
abbrev wa_X7_takeName__2 : List Nat := []
set_option maxHeartbeats 4000000 in
set_option maxRecDepth 100000 in
theorem c_X7_takeName__2 (l : Launch) (D : va_G) (cy : Nat → ClassId) (z : Nat → Nat) (sz : Nat) (Ps : PSI) (w0 : va_W) (hT : HT cy GG Ps w0) (p0 : Nat) (p1 : Nat) (p2 : Int32) (h_p0 : (p0, 26) ∈ Ps) (h_p1 : (p1, 25) ∈ Ps) (r_p2 : RI p2 2 2) : Met l yX7_takeName (Cond.code yX7_takeName cX7_takeName 4 (some .int) :: gT) ({ frames := 3, cells := 0, slots := 0, locals := 600 } : Room) (va_Pc [.ref p0, .ref p1, .int p2] (PRE D cy z w0 sz)) (va_Qi (fun (r : Int32) (u : va_W) => (RI r (-1) 5 ∧ (r = 0 → True) ∧ (¬ r = 0 → True)) ∧ HT cy GG Ps u ∧ FR wr_X7_takeName__2 wa_X7_takeName__2 Ps w0 u) (BB D cy (va_A w0 sz) (fun (u : va_W) => u)) (va_A w0 sz)) 0 0 (va_A w0 sz) := by
  refine Met.ofW (cc := cX7_takeName) (maxL := 4) (ret := (some .int)) (by decide) rfl ?_
  intro p e s m args below meth c s₁ B hml hv
  obtain ⟨rfl, hsz, hP, hK, hD0, hSD⟩ := hv
  have hx := B.exec
  have hb := B.bytes
  have hr := B.returns
  have hlocks := B.notSynchronized
  have hts : ∀ w ∈ gT, w.before _ s = true := fun w h => atoms_spec (ws := Cond.code yX7_takeName cX7_takeName 4 (some .int) :: gT) B.pre w (List.mem_cons_of_mem _ h)
  have hown : s.vm.findClass RX7 = some m.cls := findClass_of_methodNamed B.named
  subst hsz
  have hD := hD0.self (sz := s.heap.size)
  generalize hAe : va_A w0 s.heap.size = A at hD hSD ⊢
  have hA : ∀ q : Nat, s.heap.size ≤ q → A q := fun q h => by rw [← hAe]; exact Or.inr h
  have hl := lv_entry ([.ref p0, .ref p1, .int p2]) (n := 4) (Nat.le_of_ble_eq_true rfl)
  rw [lg_entry_eq]
  generalize (lg_sl ([.ref p0, .ref p1, .int p2]) ++ List.replicate (4 - (lg_sl ([.ref p0, .ref p1, .int p2])).length) Slot.unset).toArray = ls at hl ⊢
  have hl : lv_has ls 4 [(0, .ref p0), (1, .ref p1), (2, .int p2)] := hl
  refine nameQ (fun Q hQ => ?_)
  have hw : WD D cy GG A s wr_X7_takeName__2 wa_X7_takeName__2 Ps w0 Ps w0 s.heap [] := ⟨hT, hP, hD, va_S.rf, FR.rf, hT.1, [], (List.append_nil _).symm⟩
  refine lv_aload_n hx hb dX7_takeName_0 rfl (lv_at hl 0 rfl) ?_
  refine lv_aload_n hx hb dX7_takeName_1 rfl (lv_at hl 1 rfl) ?_
  refine lv_iload_n hx hb dX7_takeName_2 rfl (lv_at hl 2 rfl) ?_
  refine tk_i (va_runV (As := [.ref p1, .int p2]) (rest := []) ⟨hx, hb, hml, hown, hts⟩ (c_X7_nameAhead__2 l D cy z s.heap.size Ps w0 hw.1 p0 p1 p2 h_p0 h_p1 r_p2) (cwV 2 hts (gV tw_468 tw_457 tw_458 tw_2 tw_459) rfl rfl rfl (by decide +kernel) ⟨Nat.le_of_ble_eq_true rfl, Nat.le_of_ble_eq_true rfl⟩) (tg_preV hw hK hSD hA (ci := 7) (q := (RX7, TX7, 12)) rfl h_p0 rfl) rfl rfl hl.1 rfl (lv_room (Nat.le_of_ble_eq_true rfl)) dX7_takeName_3 ⟨Nat.le_of_ble_eq_true rfl, Nat.le_of_ble_eq_true rfl⟩) hw hA ⟨by decide, by decide⟩ (fun v_1 ws H locs hp_v_1 hw hF9 => ?_)
  have r_v_1 : RI v_1 (-1) 5 := hp_v_1.1
  by_cases c9_v_1 : v_1 = 0
  · have r_v_1 : RI v_1 0 0 := by rw [c9_v_1]; exact rl_0
    obtain ⟨v_2, m_v_2, r_v_2⟩ := ((hp_v_1.2.1 c9_v_1).1)
    refine lv_istore_n (lv' := [(3, .int v_1), (0, .ref p0), (1, .ref p1), (2, .int p2)]) hx hb dX7_takeName_6 rfl hl (by decide) rfl (fun ls hl => ?_)
    refine lv_aload_n hx hb dX7_takeName_7 rfl (lv_at hl 1 rfl) ?_
    refine tk_v (va_runV (As := []) (rest := []) ⟨hx, hb, hml, hown, hts⟩ (c_X7_pass l D cy z H.size Ps ws hw.1 p0 h_p0) (cwV 0 hts (gV tw_424 tw_425 tw_426 tw_2 tw_427) rfl rfl rfl (by decide +kernel) ⟨Nat.le_of_ble_eq_true rfl, Nat.le_of_ble_eq_true rfl⟩) (tg_preV hw hK hSD hA (ci := 7) (q := (RX7, TX7, 12)) rfl h_p0 rfl) rfl rfl hl.1 rfl (lv_room (Nat.le_of_ble_eq_true rfl)) dX7_takeName_8 ⟨Nat.le_of_ble_eq_true rfl, Nat.le_of_ble_eq_true rfl⟩) hw hA ⟨by decide, by decide⟩ (fun ws H locs hp_v_3 hw hF9 => ?_)
    have m_v_2 := FLD.over hF9 m_v_2 (by decide)
    refine lv_iload_n hx hb dX7_takeName_11 rfl (lv_at hl 0 rfl) ?_
    subst hQ
    exact W.iret (v := v_1) hx hb hr (fun t ht hW => ⟨⟨v_1, ws, rfl, ⟨⟨r_v_1.to (by decide), (fun h0 => trivial), (fun _ => trivial)⟩, hw.1, hw.2.2.2.2.1⟩, by rw [ht]; exact hw.2.1, va_K.moved hW.alike hK, hw.2.2.1⟩, hw.2.2.2.1.F ht⟩) hw.2.2.2.1.2.2 dX7_takeName_12
  · refine lv_istore_n (lv' := [(3, .int v_1), (0, .ref p0), (1, .ref p1), (2, .int p2)]) hx hb dX7_takeName_6 rfl hl (by decide) rfl (fun ls hl => ?_)
    refine lv_aload_n hx hb dX7_takeName_7 rfl (lv_at hl 1 rfl) ?_
    refine tk_v (va_runV (As := []) (rest := []) ⟨hx, hb, hml, hown, hts⟩ (c_X7_pass l D cy z H.size Ps ws hw.1 p0 h_p0) (cwV 0 hts (gV tw_424 tw_425 tw_426 tw_2 tw_427) rfl rfl rfl (by decide +kernel) ⟨Nat.le_of_ble_eq_true rfl, Nat.le_of_ble_eq_true rfl⟩) (tg_preV hw hK hSD hA (ci := 7) (q := (RX7, TX7, 12)) rfl h_p0 rfl) rfl rfl hl.1 rfl (lv_room (Nat.le_of_ble_eq_true rfl)) dX7_takeName_8 ⟨Nat.le_of_ble_eq_true rfl, Nat.le_of_ble_eq_true rfl⟩) hw hA ⟨by decide, by decide⟩ (fun ws H locs hp_v_4 hw hF9 => ?_)
    refine lv_iload_n hx hb dX7_takeName_11 rfl (lv_at hl 0 rfl) ?_
    subst hQ
    exact W.iret (v := v_1) hx hb hr (fun t ht hW => ⟨⟨v_1, ws, rfl, ⟨⟨r_v_1.to (by decide), (fun h0 => trivial), (fun h0 => trivial)⟩, hw.1, hw.2.2.2.2.1⟩, by rw [ht]; exact hw.2.1, va_K.moved hW.alike hK, hw.2.2.1⟩, hw.2.2.2.1.F ht⟩) hw.2.2.2.1.2.2 dX7_takeName_12
abbrev wr_X3_numberOf__3 : List (Nat × Nat) := []
abbrev wa_X3_numberOf__3 : List Nat := []
set_option maxHeartbeats 4000000 in
set_option maxRecDepth 100000 in
theorem c_X3_numberOf__3 (l : Launch) (D : va_G) (cy : Nat → ClassId) (z : Nat → Nat) (sz : Nat) (Ps : PSI) (w0 : va_W) (hT : HT cy GG Ps w0) (p0 : Nat) (p1 : Int64) (p2 : Int32) (h_p0 : (p0, 25) ∈ Ps) (r_p1 : RJ p1 (-9223372036854775808) 9223372036854775807) (r_p2 : RI p2 3 3) : Met l yX3_numberOf (Cond.code yX3_numberOf cX3_numberOf 5 (some .int) :: gT) ({ frames := 0, cells := 0, slots := 0, locals := 200 } : Room) (va_Pc [.ref p0, .long p1, .int p2] (PRE D cy z w0 sz)) (va_Qi (fun (r : Int32) (u : Unit) => RI r (-1) 7 ∧ (r = 0 → True) ∧ (¬ r = 0 → True)) (BB D cy (va_A w0 sz) (fun (u : Unit) => w0)) (va_A w0 sz)) 0 0 (va_A w0 sz) := by
  refine Met.ofW (cc := cX3_numberOf) (maxL := 5) (ret := (some .int)) (by decide) rfl ?_
  intro p e s m args below meth c s₁ B hml hv
  obtain ⟨rfl, hsz, hP, hK, hD0, hSD⟩ := hv
  have hx := B.exec
  have hb := B.bytes
  have hr := B.returns
  have hlocks := B.notSynchronized
  have hts : ∀ w ∈ gT, w.before _ s = true := fun w h => atoms_spec (ws := Cond.code yX3_numberOf cX3_numberOf 5 (some .int) :: gT) B.pre w (List.mem_cons_of_mem _ h)
  have hown : s.vm.findClass RX3 = some m.cls := findClass_of_methodNamed B.named
  subst hsz
  have hD := hD0.self (sz := s.heap.size)
  generalize hAe : va_A w0 s.heap.size = A at hD hSD ⊢
  have hA : ∀ q : Nat, s.heap.size ≤ q → A q := fun q h => by rw [← hAe]; exact Or.inr h
  have hl := lv_entry ([.ref p0, .long p1, .int p2]) (n := 5) (Nat.le_of_ble_eq_true rfl)
  rw [lg_entry_eq]
  generalize (lg_sl ([.ref p0, .long p1, .int p2]) ++ List.replicate (5 - (lg_sl ([.ref p0, .long p1, .int p2])).length) Slot.unset).toArray = ls at hl ⊢
  have hl : lv_has ls 5 [(0, .ref p0), (1, .long p1), (3, .int p2)] := hl
  refine nameQ (fun Q hQ => ?_)
  have hw : WD D cy GG A s wr_X3_numberOf__3 wa_X3_numberOf__3 Ps w0 Ps w0 s.heap [] := ⟨hT, hP, hD, va_S.rf, FR.rf, hT.1, [], (List.append_nil _).symm⟩
  have B3 : ∀ (nf : Nat) (x4 : Int32) (H : Heap) (locs : List Loc) (ls : Array Slot), 8 - x4.toInt < (nf : Int) → RJ p1 (-9223372036854775808) 9223372036854775807 → RI p2 3 3 → RI x4 0 8 → WD D cy GG A s wr_X3_numberOf__3 wa_X3_numberOf__3 Ps w0 Ps w0 H locs → lv_has ls 5 [(0, .ref p0), (1, .long p1), (3, .int p2), (4, .int x4)] → W p l e (headSpec (Cond.code yX3_numberOf cX3_numberOf 5 (some .int) :: gT) ({ frames := 0, cells := 0, slots := 0, locals := 200 } : Room)).room s m ([.ref p0, .long p1, .int p2] : List Value).toArray below meth c H locs 0 0 Q (F0 m 3 ls []) := by
    intro nf3
    induction nf3 with
    | zero =>
      intro x4 H locs ls hn3 r_p1 r_p2 r_x4 hw hl
      exact absurd hn3 (by have q0 := r_x4.1; have u0 := r_x4.2; omega)
    | succ nf3 ih3 =>
      intro x4 H locs ls hn3 r_p1 r_p2 r_x4 hw hl
      refine lv_iload hx hb dX3_numberOf_3 (lv_at hl 3 rfl) ?_
      refine lv_aload_n hx hb dX3_numberOf_5 rfl (lv_at hl 0 rfl) ?_
      refine tg_get (ci := 3) (ts := ty_POST) (C := RX3) (T := TX3) (N := 9) hx hb hts inX3 hown hK hw h_p0 rfl rfl 1 (by decide) (hts _ tw_201) (fun _ h9 => h9) (ft := vR 4) rfl dX3_numberOf_6 (fun u_1 hv_u_1 m_u_1 => ?_)
      obtain ⟨vu_1, rfl, h_vu_1⟩ := hv_u_1
      refine lv_iload_n hx hb dX3_numberOf_9 rfl (lv_at hl 2 rfl) ?_
      refine tg_iald (lo := 0) (hi := 8) hx hb hK hw h_vu_1 rfl 3 3 r_p2 (by decide) (by decide +kernel) dX3_numberOf_10 (fun v_2 r_v_2 m_v_2 o_v_2 => ?_)
      refine lv_icmp_ge (tgt := 40) hx hb dX3_numberOf_11 (by decide) (fun c_11 => ?_) (fun c_11 => ?_)
      · refine lv_iconst (v := (-1)) hx hb dX3_numberOf_40 (by decide) ?_
        subst hQ
        exact W.iret (v := (-1)) hx hb hr (fun t ht hW => ⟨⟨(-1), (), rfl, ⟨rl_m1.to (by decide), (fun _ => trivial), (fun h0 => trivial)⟩, by rw [ht]; exact hw.2.1, va_K.moved hW.alike hK, hw.2.2.1⟩, hw.2.2.2.1.F ht⟩) hw.2.2.2.1.2.2 dX3_numberOf_41
      · have r_x4 : RI x4 0 7 := rc_lt1 r_x4 r_v_2 (ti_nle c_11) (by decide)
        have r_v_2 : RI v_2 1 8 := rc_lt2 r_x4 r_v_2 (ti_nle c_11) (by decide)
        refine lv_aload_n hx hb dX3_numberOf_14 rfl (lv_at hl 0 rfl) ?_
        refine tg_get (ci := 3) (ts := ty_POST) (C := RX3) (T := TX3) (N := 9) hx hb hts inX3 hown hK hw h_p0 rfl rfl 0 (by decide) (hts _ tw_200) (fun _ h9 => h9) (ft := vR 1) rfl dX3_numberOf_15 (fun u_3 hv_u_3 m_u_3 => ?_)
        obtain ⟨vu_3, rfl, h_vu_3⟩ := hv_u_3
        refine lv_iload_n hx hb dX3_numberOf_18 rfl (lv_at hl 2 rfl) ?_
        refine lv_bipush (v := 8) hx hb dX3_numberOf_19 (by decide) ?_
        refine lv_imul hx hb dX3_numberOf_21 (lv_topi (fun v_4 e_v_4 => ?_))
        obtain ⟨t_v_4, r_v_4⟩ := tq_mul (lo := 24) (hi := 24) r_p2 rl_8 (by decide +kernel) e_v_4
        have t_v_4 : v_4.toInt = p2.toInt * 8 := t_v_4
        refine lv_iload hx hb dX3_numberOf_22 (lv_at hl 3 rfl) ?_
        refine lv_iadd hx hb dX3_numberOf_24 (lv_topi (fun v_5 e_v_5 => ?_))
        obtain ⟨t_v_5, r_v_5⟩ := tq_add (lo := 24) (hi := 31) r_v_4 r_x4 (by decide +kernel) e_v_5
        refine tg_lald hx hb hK hw h_vu_3 rfl r_v_5 (by decide) dX3_numberOf_25 (fun w_6 r_w_6 => ?_)
        refine lv_lload_n hx hb dX3_numberOf_26 rfl (lv_at hl 1 rfl) ?_
        refine W.lcmp hx hb dX3_numberOf_27 (lv_topi (fun v_7 e_v_7 => ?_))
        have r_v_7 := ri_any v_7
        refine lv_if_ne (tgt := 34) hx hb dX3_numberOf_28 (by decide) (fun c_28 => ?_) (fun c_28 => ?_)
        · obtain ⟨v_8, e_v_8⟩ : ∃ q9 : Int32, q9 = x4 + Int32.ofInt 1 := ⟨_, rfl⟩
          obtain ⟨t_v_8, r_v_8⟩ := tq_add (lo := 1) (hi := 8) r_x4 (show RI (Int32.ofInt 1) 1 1 by unfold RI; decide +kernel) (by decide +kernel) e_v_8
          have t_v_8 : v_8.toInt = x4.toInt + 1 := t_v_8
          refine lv_iinc (v := v_8) (lv' := [(4, .int v_8), (0, .ref p0), (1, .long p1), (3, .int p2)]) hx hb dX3_numberOf_34 hl (k := 3) rfl e_v_8.symm (by decide) rfl (fun ls hl => ?_)
          refine lv_goto (tgt := 3) hx hb dX3_numberOf_37 (by decide) ?_
          exact ih3 v_8 _ _ ls (by have q0 := r_v_8.1; have u0 := r_v_8.2; have o0 := r_x4.1; have p0 := r_x4.2; omega) r_p1 r_p2 (r_v_8.to (by decide)) hw (lv_sub hl [1, 2, 3, 0] rfl)
        · have r_v_7 : RI v_7 0 0 := rc_eq1 r_v_7 rl_0 (ti_eq c_28) (by decide)
          refine lv_iload hx hb dX3_numberOf_31 (lv_at hl 3 rfl) ?_
          subst hQ
          exact W.iret (v := x4) hx hb hr (fun t ht hW => ⟨⟨x4, (), rfl, ⟨r_x4.to (by decide), (fun h0 => trivial), (fun h0 => trivial)⟩, by rw [ht]; exact hw.2.1, va_K.moved hW.alike hK, hw.2.2.1⟩, hw.2.2.2.1.F ht⟩) hw.2.2.2.1.2.2 dX3_numberOf_33
  refine lv_iconst (v := 0) hx hb dX3_numberOf_0 (by decide) ?_
  refine lv_istore (lv' := [(4, .int 0), (0, .ref p0), (1, .long p1), (3, .int p2)]) hx hb dX3_numberOf_1 hl (by decide) rfl (fun ls hl => ?_)
  exact B3 4294967298 0 _ _ ls (by have q0 := rl_0.1; have u0 := rl_0.2; omega) r_p1 r_p2 (rl_0.to (by decide)) hw (lv_sub hl [1, 2, 3, 0] rfl)
abbrev wr_X7_nameAhead__3 : List (Nat × Nat) := [(7, 10), (7, 11)]
abbrev wa_X7_nameAhead__3 : List Nat := []
set_option maxHeartbeats 4000000 in
set_option maxRecDepth 100000 in
theorem c_X7_nameAhead__3 (l : Launch) (D : va_G) (cy : Nat → ClassId) (z : Nat → Nat) (sz : Nat) (Ps : PSI) (w0 : va_W) (hT : HT cy GG Ps w0) (p0 : Nat) (p1 : Nat) (p2 : Int32) (h_p0 : (p0, 26) ∈ Ps) (h_p1 : (p1, 25) ∈ Ps) (r_p2 : RI p2 3 3) : Met l yX7_nameAhead (Cond.code yX7_nameAhead cX7_nameAhead 4 (some .int) :: gT) ({ frames := 2, cells := 0, slots := 0, locals := 400 } : Room) (va_Pc [.ref p0, .ref p1, .int p2] (PRE D cy z w0 sz)) (va_Qi (fun (r : Int32) (u : va_W) => (RI r (-1) 7 ∧ (r = 0 → (∃ v9 : Int32, FLD u p0 7 10 (.int v9) ∧ RI v9 0 0) ∧ True) ∧ (¬ r = 0 → True)) ∧ HT cy GG Ps u ∧ FR wr_X7_nameAhead__3 wa_X7_nameAhead__3 Ps w0 u) (BB D cy (va_A w0 sz) (fun (u : va_W) => u)) (va_A w0 sz)) 0 0 (va_A w0 sz) := by
  refine Met.ofW (cc := cX7_nameAhead) (maxL := 4) (ret := (some .int)) (by decide) rfl ?_
  intro p e s m args below meth c s₁ B hml hv
  obtain ⟨rfl, hsz, hP, hK, hD0, hSD⟩ := hv
  have hx := B.exec
  have hb := B.bytes
  have hr := B.returns
  have hlocks := B.notSynchronized
  have hts : ∀ w ∈ gT, w.before _ s = true := fun w h => atoms_spec (ws := Cond.code yX7_nameAhead cX7_nameAhead 4 (some .int) :: gT) B.pre w (List.mem_cons_of_mem _ h)
  have hown : s.vm.findClass RX7 = some m.cls := findClass_of_methodNamed B.named
  subst hsz
  have hD := hD0.self (sz := s.heap.size)
  generalize hAe : va_A w0 s.heap.size = A at hD hSD ⊢
  have hA : ∀ q : Nat, s.heap.size ≤ q → A q := fun q h => by rw [← hAe]; exact Or.inr h
  have hl := lv_entry ([.ref p0, .ref p1, .int p2]) (n := 4) (Nat.le_of_ble_eq_true rfl)
  rw [lg_entry_eq]
  generalize (lg_sl ([.ref p0, .ref p1, .int p2]) ++ List.replicate (4 - (lg_sl ([.ref p0, .ref p1, .int p2])).length) Slot.unset).toArray = ls at hl ⊢
  have hl : lv_has ls 4 [(0, .ref p0), (1, .ref p1), (2, .int p2)] := hl
  refine nameQ (fun Q hQ => ?_)
  have hw : WD D cy GG A s wr_X7_nameAhead__3 wa_X7_nameAhead__3 Ps w0 Ps w0 s.heap [] := ⟨hT, hP, hD, va_S.rf, FR.rf, hT.1, [], (List.append_nil _).symm⟩
  have B35 : ∀ (x3 : Int32) (z0_7 : Int32) (ws : va_W) (H : Heap) (locs : List Loc) (ls : Array Slot), RI p2 3 3 → RI x3 (-1) 7 → RI z0_7 2 2 → FLD ws p0 7 7 (.int z0_7) → WD D cy GG A s wr_X7_nameAhead__3 wa_X7_nameAhead__3 Ps w0 Ps ws H locs → lv_has ls 4 [(0, .ref p0), (1, .ref p1), (2, .int p2), (3, .int x3)] → W p l e (headSpec (Cond.code yX7_nameAhead cX7_nameAhead 4 (some .int) :: gT) ({ frames := 2, cells := 0, slots := 0, locals := 400 } : Room)).room s m ([.ref p0, .ref p1, .int p2] : List Value).toArray below meth c H locs 0 0 Q (F0 m 35 ls []) := by
    intro x3 z0_7 ws H locs ls r_p2 r_x3 r_z0_7 m_z0_7 hw hl
    refine lv_aload_n hx hb dX7_nameAhead_35 rfl (lv_at hl 0 rfl) ?_
    refine tg_get (ci := 7) (ts := ty_TAPE) (C := RX7) (T := TX7) (N := 12) hx hb hts inX7 hown hK hw h_p0 rfl rfl 10 (by decide) (hts _ tw_104) (fun _ h9 => h9) (ft := vI 0 4) rfl dX7_nameAhead_36 (fun u_1 hv_u_1 m_u_1 => ?_)
    obtain ⟨vu_1, rfl, r_vu_1⟩ := hv_u_1
    refine lv_if_ne (tgt := 46) hx hb dX7_nameAhead_39 (by decide) (fun c_39 => ?_) (fun c_39 => ?_)
    · have r_vu_1 : RI vu_1 1 4 := rc_neL r_vu_1 rl_0 (ti_ne c_39) (by decide)
      refine lv_iconst (v := (-1)) hx hb dX7_nameAhead_46 (by decide) ?_
      subst hQ
      exact W.iret (v := (-1)) hx hb hr (fun t ht hW => ⟨⟨(-1), ws, rfl, ⟨⟨rl_m1.to (by decide), (fun h0 => absurd h0 (by decide)), (fun h0 => trivial)⟩, hw.1, hw.2.2.2.2.1⟩, by rw [ht]; exact hw.2.1, va_K.moved hW.alike hK, hw.2.2.1⟩, hw.2.2.2.1.F ht⟩) hw.2.2.2.1.2.2 dX7_nameAhead_47
    · have r_vu_1 : RI vu_1 0 0 := rc_eq1 r_vu_1 rl_0 (ti_eq c_39) (by decide)
      refine lv_iload_n hx hb dX7_nameAhead_42 rfl (lv_at hl 3 rfl) ?_
      refine lv_goto (tgt := 47) hx hb dX7_nameAhead_43 (by decide) ?_
      subst hQ
      exact W.iret (v := x3) hx hb hr (fun t ht hW => ⟨⟨x3, ws, rfl, ⟨⟨r_x3.to (by decide), (fun h0 => ⟨⟨_, m_u_1, r_vu_1⟩, trivial⟩), (fun h0 => trivial)⟩, hw.1, hw.2.2.2.2.1⟩, by rw [ht]; exact hw.2.1, va_K.moved hW.alike hK, hw.2.2.1⟩, hw.2.2.2.1.F ht⟩) hw.2.2.2.1.2.2 dX7_nameAhead_47
  refine lv_aload_n hx hb dX7_nameAhead_0 rfl (lv_at hl 0 rfl) ?_
  refine tg_get (ci := 7) (ts := ty_TAPE) (C := RX7) (T := TX7) (N := 12) hx hb hts inX7 hown hK hw h_p0 rfl rfl 7 (by decide) (hts _ tw_98) (fun _ h9 => h9) (ft := vI (-2147483648) 2147483647) rfl dX7_nameAhead_1 (fun u_2 hv_u_2 m_u_2 => ?_)
  obtain ⟨vu_2, rfl, r_vu_2⟩ := hv_u_2
  refine lv_iconst (v := 2) hx hb dX7_nameAhead_4 (by decide) ?_
  refine lv_icmp_eq (tgt := 15) hx hb dX7_nameAhead_5 (by decide) (fun c_5 => ?_) (fun c_5 => ?_)
  · have r_vu_2 : RI vu_2 2 2 := rc_eq1 r_vu_2 rl_2 (ti_eq c_5) (by decide)
    refine lv_aload_n hx hb dX7_nameAhead_15 rfl (lv_at hl 1 rfl) ?_
    refine lv_aload_n hx hb dX7_nameAhead_16 rfl (lv_at hl 0 rfl) ?_
    refine tg_get (ci := 7) (ts := ty_TAPE) (C := RX7) (T := TX7) (N := 12) hx hb hts inX7 hown hK hw h_p0 rfl rfl 8 (by decide) (hts _ tw_100) (fun _ h9 => h9) (ft := vJ (-9223372036854775808) 9223372036854775807) rfl dX7_nameAhead_17 (fun u_3 hv_u_3 m_u_3 => ?_)
    obtain ⟨vu_3, rfl, r_vu_3⟩ := hv_u_3
    refine lv_iload_n hx hb dX7_nameAhead_20 rfl (lv_at hl 2 rfl) ?_
    refine tk_ir (va_runV (As := [.long vu_3, .int p2]) (rest := []) ⟨hx, hb, hml, hown, hts⟩ (c_X3_numberOf__3 l D cy z s.heap.size Ps w0 hw.1 p1 vu_3 p2 h_p1 r_vu_3 r_p2) (cwV 2 hts (gV tw_460 tw_461 tw_462 tw_11 tw_463) rfl rfl rfl (by decide +kernel) ⟨Nat.le_of_ble_eq_true rfl, Nat.le_of_ble_eq_true rfl⟩) (tg_preV hw hK hSD hA (ci := 3) (q := (RX3, TX3, 9)) rfl h_p1 rfl) rfl rfl hl.1 rfl (lv_room (Nat.le_of_ble_eq_true rfl)) dX7_nameAhead_21 ⟨Nat.le_of_ble_eq_true rfl, Nat.le_of_ble_eq_true rfl⟩) hw hA (fun v_4  H locs hp_v_4 hw => ?_)
    have r_v_4 : RI v_4 (-1) 7 := hp_v_4.1
    refine lv_istore_n (lv' := [(3, .int v_4), (0, .ref p0), (1, .ref p1), (2, .int p2)]) hx hb dX7_nameAhead_24 rfl hl (by decide) rfl (fun ls hl => ?_)
    refine lv_iload_n hx hb dX7_nameAhead_25 rfl (lv_at hl 0 rfl) ?_
    refine lv_iconst (v := (-1)) hx hb dX7_nameAhead_26 (by decide) ?_
    refine lv_icmp_ne (tgt := 35) hx hb dX7_nameAhead_27 (by decide) (fun c_27 => ?_) (fun c_27 => ?_)
    · have r_v_4 : RI v_4 0 7 := rc_neL r_v_4 rl_m1 (ti_ne c_27) (by decide)
      exact B35 v_4 vu_2 w0 _ _ ls r_p2 (r_v_4.to (by decide)) r_vu_2 m_u_2 hw (lv_sub hl [1, 2, 3, 0] rfl)
    · have r_v_4 : RI v_4 (-1) (-1) := rc_eq1 r_v_4 rl_m1 (ti_eq c_27) (by decide)
      refine lv_aload_n hx hb dX7_nameAhead_30 rfl (lv_at hl 1 rfl) ?_
      refine lv_iconst (v := 3) hx hb dX7_nameAhead_31 (by decide) ?_
      refine tk_v (va_runV (As := [.int 3]) (rest := []) ⟨hx, hb, hml, hown, hts⟩ (c_X7_refuse l D cy z H.size Ps w0 hw.1 p0 3 h_p0 (rl_3.to (by decide))) (cwV 1 hts (gV tw_442 tw_443 tw_444 tw_2 tw_445) rfl rfl rfl (by decide +kernel) ⟨Nat.le_of_ble_eq_true rfl, Nat.le_of_ble_eq_true rfl⟩) (tg_preV hw hK hSD hA (ci := 7) (q := (RX7, TX7, 12)) rfl h_p0 rfl) rfl rfl hl.1 rfl (lv_room (Nat.le_of_ble_eq_true rfl)) dX7_nameAhead_32 ⟨Nat.le_of_ble_eq_true rfl, Nat.le_of_ble_eq_true rfl⟩) hw hA ⟨by decide, by decide⟩ (fun ws H locs hp_v_5 hw hF9 => ?_)
      have m_u_2 := FLD.over hF9 m_u_2 (by decide)
      obtain ⟨v_6, m_v_6, r_v_6⟩ := (hp_v_5.1)
      exact B35 v_4 vu_2 ws _ _ ls r_p2 (r_v_4.to (by decide)) r_vu_2 m_u_2 hw (lv_sub hl [1, 2, 3, 0] rfl)
  · refine lv_aload_n hx hb dX7_nameAhead_8 rfl (lv_at hl 0 rfl) ?_
    refine lv_iconst (v := 1) hx hb dX7_nameAhead_9 (by decide) ?_
    refine tk_v (va_runV (As := [.int 1]) (rest := []) ⟨hx, hb, hml, hown, hts⟩ (c_X7_refuse l D cy z s.heap.size Ps w0 hw.1 p0 1 h_p0 (rl_1.to (by decide))) (cwV 1 hts (gV tw_442 tw_443 tw_444 tw_2 tw_445) rfl rfl rfl (by decide +kernel) ⟨Nat.le_of_ble_eq_true rfl, Nat.le_of_ble_eq_true rfl⟩) (tg_preV hw hK hSD hA (ci := 7) (q := (RX7, TX7, 12)) rfl h_p0 rfl) rfl rfl hl.1 rfl (lv_room (Nat.le_of_ble_eq_true rfl)) dX7_nameAhead_10 ⟨Nat.le_of_ble_eq_true rfl, Nat.le_of_ble_eq_true rfl⟩) hw hA ⟨by decide, by decide⟩ (fun ws H locs hp_v_7 hw hF9 => ?_)
    have m_u_2 := FLD.over hF9 m_u_2 (by decide)
    obtain ⟨v_8, m_v_8, r_v_8⟩ := (hp_v_7.1)
    refine lv_iconst (v := (-1)) hx hb dX7_nameAhead_13 (by decide) ?_
    subst hQ
    exact W.iret (v := (-1)) hx hb hr (fun t ht hW => ⟨⟨(-1), ws, rfl, ⟨⟨rl_m1.to (by decide), (fun h0 => absurd h0 (by decide)), (fun h0 => trivial)⟩, hw.1, hw.2.2.2.2.1⟩, by rw [ht]; exact hw.2.1, va_K.moved hW.alike hK, hw.2.2.1⟩, hw.2.2.2.1.F ht⟩) hw.2.2.2.1.2.2 dX7_nameAhead_14
abbrev wr_X7_takeName__3 : List (Nat × Nat) := [(7, 5), (7, 6), (7, 7), (7, 8), (7, 9), (7, 10), (7, 11)]
abbrev wa_X7_takeName__3 : List Nat := []
set_option maxHeartbeats 4000000 in
set_option maxRecDepth 100000 in
theorem c_X7_takeName__3 (l : Launch) (D : va_G) (cy : Nat → ClassId) (z : Nat → Nat) (sz : Nat) (Ps : PSI) (w0 : va_W) (hT : HT cy GG Ps w0) (p0 : Nat) (p1 : Nat) (p2 : Int32) (h_p0 : (p0, 26) ∈ Ps) (h_p1 : (p1, 25) ∈ Ps) (r_p2 : RI p2 3 3) : Met l yX7_takeName (Cond.code yX7_takeName cX7_takeName 4 (some .int) :: gT) ({ frames := 3, cells := 0, slots := 0, locals := 600 } : Room) (va_Pc [.ref p0, .ref p1, .int p2] (PRE D cy z w0 sz)) (va_Qi (fun (r : Int32) (u : va_W) => (RI r (-1) 7 ∧ (r = 0 → True) ∧ (¬ r = 0 → True)) ∧ HT cy GG Ps u ∧ FR wr_X7_takeName__3 wa_X7_takeName__3 Ps w0 u) (BB D cy (va_A w0 sz) (fun (u : va_W) => u)) (va_A w0 sz)) 0 0 (va_A w0 sz) := by
  refine Met.ofW (cc := cX7_takeName) (maxL := 4) (ret := (some .int)) (by decide) rfl ?_
  intro p e s m args below meth c s₁ B hml hv
  obtain ⟨rfl, hsz, hP, hK, hD0, hSD⟩ := hv
  have hx := B.exec
  have hb := B.bytes
  have hr := B.returns
  have hlocks := B.notSynchronized
  have hts : ∀ w ∈ gT, w.before _ s = true := fun w h => atoms_spec (ws := Cond.code yX7_takeName cX7_takeName 4 (some .int) :: gT) B.pre w (List.mem_cons_of_mem _ h)
  have hown : s.vm.findClass RX7 = some m.cls := findClass_of_methodNamed B.named
  subst hsz
  have hD := hD0.self (sz := s.heap.size)
  generalize hAe : va_A w0 s.heap.size = A at hD hSD ⊢
  have hA : ∀ q : Nat, s.heap.size ≤ q → A q := fun q h => by rw [← hAe]; exact Or.inr h
  have hl := lv_entry ([.ref p0, .ref p1, .int p2]) (n := 4) (Nat.le_of_ble_eq_true rfl)
  rw [lg_entry_eq]
  generalize (lg_sl ([.ref p0, .ref p1, .int p2]) ++ List.replicate (4 - (lg_sl ([.ref p0, .ref p1, .int p2])).length) Slot.unset).toArray = ls at hl ⊢
  have hl : lv_has ls 4 [(0, .ref p0), (1, .ref p1), (2, .int p2)] := hl
  refine nameQ (fun Q hQ => ?_)
  have hw : WD D cy GG A s wr_X7_takeName__3 wa_X7_takeName__3 Ps w0 Ps w0 s.heap [] := ⟨hT, hP, hD, va_S.rf, FR.rf, hT.1, [], (List.append_nil _).symm⟩
  refine lv_aload_n hx hb dX7_takeName_0 rfl (lv_at hl 0 rfl) ?_
  refine lv_aload_n hx hb dX7_takeName_1 rfl (lv_at hl 1 rfl) ?_
  refine lv_iload_n hx hb dX7_takeName_2 rfl (lv_at hl 2 rfl) ?_
  refine tk_i (va_runV (As := [.ref p1, .int p2]) (rest := []) ⟨hx, hb, hml, hown, hts⟩ (c_X7_nameAhead__3 l D cy z s.heap.size Ps w0 hw.1 p0 p1 p2 h_p0 h_p1 r_p2) (cwV 2 hts (gV tw_468 tw_457 tw_458 tw_2 tw_459) rfl rfl rfl (by decide +kernel) ⟨Nat.le_of_ble_eq_true rfl, Nat.le_of_ble_eq_true rfl⟩) (tg_preV hw hK hSD hA (ci := 7) (q := (RX7, TX7, 12)) rfl h_p0 rfl) rfl rfl hl.1 rfl (lv_room (Nat.le_of_ble_eq_true rfl)) dX7_takeName_3 ⟨Nat.le_of_ble_eq_true rfl, Nat.le_of_ble_eq_true rfl⟩) hw hA ⟨by decide, by decide⟩ (fun v_1 ws H locs hp_v_1 hw hF9 => ?_)
  have r_v_1 : RI v_1 (-1) 7 := hp_v_1.1
  by_cases c9_v_1 : v_1 = 0
  · have r_v_1 : RI v_1 0 0 := by rw [c9_v_1]; exact rl_0
    obtain ⟨v_2, m_v_2, r_v_2⟩ := ((hp_v_1.2.1 c9_v_1).1)
    refine lv_istore_n (lv' := [(3, .int v_1), (0, .ref p0), (1, .ref p1), (2, .int p2)]) hx hb dX7_takeName_6 rfl hl (by decide) rfl (fun ls hl => ?_)
    refine lv_aload_n hx hb dX7_takeName_7 rfl (lv_at hl 1 rfl) ?_
    refine tk_v (va_runV (As := []) (rest := []) ⟨hx, hb, hml, hown, hts⟩ (c_X7_pass l D cy z H.size Ps ws hw.1 p0 h_p0) (cwV 0 hts (gV tw_424 tw_425 tw_426 tw_2 tw_427) rfl rfl rfl (by decide +kernel) ⟨Nat.le_of_ble_eq_true rfl, Nat.le_of_ble_eq_true rfl⟩) (tg_preV hw hK hSD hA (ci := 7) (q := (RX7, TX7, 12)) rfl h_p0 rfl) rfl rfl hl.1 rfl (lv_room (Nat.le_of_ble_eq_true rfl)) dX7_takeName_8 ⟨Nat.le_of_ble_eq_true rfl, Nat.le_of_ble_eq_true rfl⟩) hw hA ⟨by decide, by decide⟩ (fun ws H locs hp_v_3 hw hF9 => ?_)
    have m_v_2 := FLD.over hF9 m_v_2 (by decide)
    refine lv_iload_n hx hb dX7_takeName_11 rfl (lv_at hl 0 rfl) ?_
    subst hQ
    exact W.iret (v := v_1) hx hb hr (fun t ht hW => ⟨⟨v_1, ws, rfl, ⟨⟨r_v_1.to (by decide), (fun h0 => trivial), (fun _ => trivial)⟩, hw.1, hw.2.2.2.2.1⟩, by rw [ht]; exact hw.2.1, va_K.moved hW.alike hK, hw.2.2.1⟩, hw.2.2.2.1.F ht⟩) hw.2.2.2.1.2.2 dX7_takeName_12
  · refine lv_istore_n (lv' := [(3, .int v_1), (0, .ref p0), (1, .ref p1), (2, .int p2)]) hx hb dX7_takeName_6 rfl hl (by decide) rfl (fun ls hl => ?_)
    refine lv_aload_n hx hb dX7_takeName_7 rfl (lv_at hl 1 rfl) ?_
    refine tk_v (va_runV (As := []) (rest := []) ⟨hx, hb, hml, hown, hts⟩ (c_X7_pass l D cy z H.size Ps ws hw.1 p0 h_p0) (cwV 0 hts (gV tw_424 tw_425 tw_426 tw_2 tw_427) rfl rfl rfl (by decide +kernel) ⟨Nat.le_of_ble_eq_true rfl, Nat.le_of_ble_eq_true rfl⟩) (tg_preV hw hK hSD hA (ci := 7) (q := (RX7, TX7, 12)) rfl h_p0 rfl) rfl rfl hl.1 rfl (lv_room (Nat.le_of_ble_eq_true rfl)) dX7_takeName_8 ⟨Nat.le_of_ble_eq_true rfl, Nat.le_of_ble_eq_true rfl⟩) hw hA ⟨by decide, by decide⟩ (fun ws H locs hp_v_4 hw hF9 => ?_)
    refine lv_iload_n hx hb dX7_takeName_11 rfl (lv_at hl 0 rfl) ?_
    subst hQ
    exact W.iret (v := v_1) hx hb hr (fun t ht hW => ⟨⟨v_1, ws, rfl, ⟨⟨r_v_1.to (by decide), (fun h0 => trivial), (fun h0 => trivial)⟩, hw.1, hw.2.2.2.2.1⟩, by rw [ht]; exact hw.2.1, va_K.moved hW.alike hK, hw.2.2.1⟩, hw.2.2.2.1.F ht⟩) hw.2.2.2.1.2.2 dX7_takeName_12
abbrev wr_X3_beginsLine : List (Nat × Nat) := [(7, 5), (7, 6), (7, 7), (7, 8), (7, 9), (7, 10), (7, 11)]
abbrev wa_X3_beginsLine : List Nat := []
set_option maxHeartbeats 4000000 in
set_option maxRecDepth 100000 in
theorem c_X3_beginsLine (l : Launch) (D : va_G) (cy : Nat → ClassId) (z : Nat → Nat) (sz : Nat) (Ps : PSI) (w0 : va_W) (hT : HT cy GG Ps w0) (p0 : Nat) (p1 : Nat) (p2 : Int32) (h_p0 : (p0, 25) ∈ Ps) (h_p1 : (p1, 26) ∈ Ps) (r_p2 : RI p2 (-2147483648) 2147483647) : Met l yX3_beginsLine (Cond.code yX3_beginsLine cX3_beginsLine 3 (some .boolean) :: gT) ({ frames := 3, cells := 0, slots := 0, locals := 600 } : Room) (va_Pc [.ref p0, .ref p1, .int p2] (PRE D cy z w0 sz)) (va_Qi (fun (r : Int32) (u : va_W) => (RI r 0 1 ∧ (r = 0 → (∃ v9 : Int32, FLD u p1 7 10 (.int v9) ∧ RI v9 1 4) ∧ True) ∧ (¬ r = 0 → (∃ v9 : Int32, FLD u p1 7 10 (.int v9) ∧ RI v9 0 0) ∧ True)) ∧ HT cy GG Ps u ∧ FR wr_X3_beginsLine wa_X3_beginsLine Ps w0 u) (BB D cy (va_A w0 sz) (fun (u : va_W) => u)) (va_A w0 sz)) 0 0 (va_A w0 sz) := by
  refine Met.ofW (cc := cX3_beginsLine) (maxL := 3) (ret := (some .boolean)) (by decide) rfl ?_
  intro p e s m args below meth c s₁ B hml hv
  obtain ⟨rfl, hsz, hP, hK, hD0, hSD⟩ := hv
  have hx := B.exec
  have hb := B.bytes
  have hr := B.returns
  have hlocks := B.notSynchronized
  have hts : ∀ w ∈ gT, w.before _ s = true := fun w h => atoms_spec (ws := Cond.code yX3_beginsLine cX3_beginsLine 3 (some .boolean) :: gT) B.pre w (List.mem_cons_of_mem _ h)
  have hown : s.vm.findClass RX3 = some m.cls := findClass_of_methodNamed B.named
  subst hsz
  have hD := hD0.self (sz := s.heap.size)
  generalize hAe : va_A w0 s.heap.size = A at hD hSD ⊢
  have hA : ∀ q : Nat, s.heap.size ≤ q → A q := fun q h => by rw [← hAe]; exact Or.inr h
  have hl := lv_entry ([.ref p0, .ref p1, .int p2]) (n := 3) (Nat.le_of_ble_eq_true rfl)
  rw [lg_entry_eq]
  generalize (lg_sl ([.ref p0, .ref p1, .int p2]) ++ List.replicate (3 - (lg_sl ([.ref p0, .ref p1, .int p2])).length) Slot.unset).toArray = ls at hl ⊢
  have hl : lv_has ls 3 [(0, .ref p0), (1, .ref p1), (2, .int p2)] := hl
  refine nameQ (fun Q hQ => ?_)
  have hw : WD D cy GG A s wr_X3_beginsLine wa_X3_beginsLine Ps w0 Ps w0 s.heap [] := ⟨hT, hP, hD, va_S.rf, FR.rf, hT.1, [], (List.append_nil _).symm⟩
  have B92 : ∀ (ws : va_W) (H : Heap) (locs : List Loc) (ls : Array Slot), RI p2 (-2147483648) 2147483647 → WD D cy GG A s wr_X3_beginsLine wa_X3_beginsLine Ps w0 Ps ws H locs → lv_has ls 3 [(0, .ref p0), (1, .ref p1), (2, .int p2)] → W p l e (headSpec (Cond.code yX3_beginsLine cX3_beginsLine 3 (some .boolean) :: gT) ({ frames := 3, cells := 0, slots := 0, locals := 600 } : Room)).room s m ([.ref p0, .ref p1, .int p2] : List Value).toArray below meth c H locs 0 0 Q (F0 m 92 ls []) := by
    intro  ws H locs ls r_p2 hw hl
    refine lv_aload_n hx hb dX3_beginsLine_92 rfl (lv_at hl 1 rfl) ?_
    refine tk_v (va_runV (As := []) (rest := []) ⟨hx, hb, hml, hown, hts⟩ (c_X7_pass l D cy z H.size Ps ws hw.1 p1 h_p1) (cwV 0 hts (gV tw_451 tw_425 tw_426 tw_2 tw_427) rfl rfl rfl (by decide +kernel) ⟨Nat.le_of_ble_eq_true rfl, Nat.le_of_ble_eq_true rfl⟩) (tg_preV hw hK hSD hA (ci := 7) (q := (RX7, TX7, 12)) rfl h_p1 rfl) rfl rfl hl.1 rfl (lv_room (Nat.le_of_ble_eq_true rfl)) dX3_beginsLine_93 ⟨Nat.le_of_ble_eq_true rfl, Nat.le_of_ble_eq_true rfl⟩) hw hA ⟨by decide, by decide⟩ (fun ws H locs hp_v_1 hw hF9 => ?_)
    refine lv_aload_n hx hb dX3_beginsLine_96 rfl (lv_at hl 1 rfl) ?_
    refine tg_getN (ci := 7) (ts := ty_TAPE) (C := RX7) (T := TX7) (N := 12) hx hb hts inX7 hown hK hw h_p1 rfl rfl 10 (by decide) (hSD.nest tn_105) (fun _ h9 => h9) (ft := vI 0 4) rfl dX3_beginsLine_97 (fun u_2 hv_u_2 m_u_2 => ?_)
    obtain ⟨vu_2, rfl, r_vu_2⟩ := hv_u_2
    refine lv_if_ne (tgt := 107) hx hb dX3_beginsLine_100 (by decide) (fun c_100 => ?_) (fun c_100 => ?_)
    · have r_vu_2 : RI vu_2 1 4 := rc_neL r_vu_2 rl_0 (ti_ne c_100) (by decide)
      refine lv_iconst (v := 0) hx hb dX3_beginsLine_107 (by decide) ?_
      subst hQ
      exact W.zret (v := 0) hx hb hr (rfl) (fun t ht hW => ⟨⟨0, ws, rfl, ⟨⟨rl_0.to (by decide), (fun h0 => ⟨⟨_, m_u_2, r_vu_2⟩, trivial⟩), (fun h0 => absurd rfl h0)⟩, hw.1, hw.2.2.2.2.1⟩, by rw [ht]; exact hw.2.1, va_K.moved hW.alike hK, hw.2.2.1⟩, hw.2.2.2.1.F ht⟩) hw.2.2.2.1.2.2 dX3_beginsLine_108
    · have r_vu_2 : RI vu_2 0 0 := rc_eq1 r_vu_2 rl_0 (ti_eq c_100) (by decide)
      refine lv_iconst (v := 1) hx hb dX3_beginsLine_103 (by decide) ?_
      refine lv_goto (tgt := 108) hx hb dX3_beginsLine_104 (by decide) ?_
      subst hQ
      exact W.zret (v := 1) hx hb hr (rfl) (fun t ht hW => ⟨⟨1, ws, rfl, ⟨⟨rl_1.to (by decide), (fun h0 => absurd h0 (by decide)), (fun h0 => ⟨⟨_, m_u_2, r_vu_2⟩, trivial⟩)⟩, hw.1, hw.2.2.2.2.1⟩, by rw [ht]; exact hw.2.1, va_K.moved hW.alike hK, hw.2.2.1⟩, hw.2.2.2.1.F ht⟩) hw.2.2.2.1.2.2 dX3_beginsLine_108
  have B87 : ∀ (ws : va_W) (H : Heap) (locs : List Loc) (ls : Array Slot), RI p2 135 136 → WD D cy GG A s wr_X3_beginsLine wa_X3_beginsLine Ps w0 Ps ws H locs → lv_has ls 3 [(0, .ref p0), (1, .ref p1), (2, .int p2)] → W p l e (headSpec (Cond.code yX3_beginsLine cX3_beginsLine 3 (some .boolean) :: gT) ({ frames := 3, cells := 0, slots := 0, locals := 600 } : Room)).room s m ([.ref p0, .ref p1, .int p2] : List Value).toArray below meth c H locs 0 0 Q (F0 m 87 ls []) := by
    intro  ws H locs ls r_p2 hw hl
    refine lv_aload_n hx hb dX3_beginsLine_87 rfl (lv_at hl 1 rfl) ?_
    refine lv_iconst (v := 3) hx hb dX3_beginsLine_88 (by decide) ?_
    refine tk_v (va_runV (As := [.int 3]) (rest := []) ⟨hx, hb, hml, hown, hts⟩ (c_X7_refuse l D cy z H.size Ps ws hw.1 p1 3 h_p1 (rl_3.to (by decide))) (cwV 1 hts (gV tw_450 tw_443 tw_444 tw_2 tw_445) rfl rfl rfl (by decide +kernel) ⟨Nat.le_of_ble_eq_true rfl, Nat.le_of_ble_eq_true rfl⟩) (tg_preV hw hK hSD hA (ci := 7) (q := (RX7, TX7, 12)) rfl h_p1 rfl) rfl rfl hl.1 rfl (lv_room (Nat.le_of_ble_eq_true rfl)) dX3_beginsLine_89 ⟨Nat.le_of_ble_eq_true rfl, Nat.le_of_ble_eq_true rfl⟩) hw hA ⟨by decide, by decide⟩ (fun ws H locs hp_v_3 hw hF9 => ?_)
    obtain ⟨v_4, m_v_4, r_v_4⟩ := (hp_v_3.1)
    exact B92  ws _ _ ls (r_p2.to (by decide)) hw hl
  have B73 : ∀ (ws : va_W) (H : Heap) (locs : List Loc) (ls : Array Slot), RI p2 128 136 → WD D cy GG A s wr_X3_beginsLine wa_X3_beginsLine Ps w0 Ps ws H locs → lv_has ls 3 [(0, .ref p0), (1, .ref p1), (2, .int p2)] → W p l e (headSpec (Cond.code yX3_beginsLine cX3_beginsLine 3 (some .boolean) :: gT) ({ frames := 3, cells := 0, slots := 0, locals := 600 } : Room)).room s m ([.ref p0, .ref p1, .int p2] : List Value).toArray below meth c H locs 0 0 Q (F0 m 73 ls []) := by
    intro  ws H locs ls r_p2 hw hl
    refine lv_iload_n hx hb dX3_beginsLine_73 rfl (lv_at hl 2 rfl) ?_
    refine lv_sipush (v := 136) hx hb dX3_beginsLine_74 (by decide) ?_
    refine lv_icmp_ne (tgt := 92) hx hb dX3_beginsLine_77 (by decide) (fun c_77 => ?_) (fun c_77 => ?_)
    · have r_p2 : RI p2 128 135 := rc_neU r_p2 rl_136 (ti_ne c_77) (by decide)
      exact B92  ws _ _ ls (r_p2.to (by decide)) hw hl
    · have r_p2 : RI p2 136 136 := rc_eq1 r_p2 rl_136 (ti_eq c_77) (by decide)
      refine lv_aload_n hx hb dX3_beginsLine_80 rfl (lv_at hl 0 rfl) ?_
      refine tg_get (ci := 3) (ts := ty_POST) (C := RX3) (T := TX3) (N := 9) hx hb hts inX3 hown hK hw h_p0 rfl rfl 8 (by decide) (hts _ tw_220) (fun _ h9 => h9) (ft := vI 0 1) rfl dX3_beginsLine_81 (fun u_5 hv_u_5 m_u_5 => ?_)
      obtain ⟨vu_5, rfl, r_vu_5⟩ := hv_u_5
      refine lv_if_eq (tgt := 92) hx hb dX3_beginsLine_84 (by decide) (fun c_84 => ?_) (fun c_84 => ?_)
      · have r_vu_5 : RI vu_5 0 0 := rc_eq1 r_vu_5 rl_0 (ti_eq c_84) (by decide)
        exact B92  ws _ _ ls (r_p2.to (by decide)) hw hl
      · have r_vu_5 : RI vu_5 1 1 := rc_neL r_vu_5 rl_0 (ti_ne c_84) (by decide)
        exact B87  ws _ _ ls (r_p2.to (by decide)) hw hl
  have B59 : ∀ (ws : va_W) (H : Heap) (locs : List Loc) (ls : Array Slot), RI p2 128 136 → WD D cy GG A s wr_X3_beginsLine wa_X3_beginsLine Ps w0 Ps ws H locs → lv_has ls 3 [(0, .ref p0), (1, .ref p1), (2, .int p2)] → W p l e (headSpec (Cond.code yX3_beginsLine cX3_beginsLine 3 (some .boolean) :: gT) ({ frames := 3, cells := 0, slots := 0, locals := 600 } : Room)).room s m ([.ref p0, .ref p1, .int p2] : List Value).toArray below meth c H locs 0 0 Q (F0 m 59 ls []) := by
    intro  ws H locs ls r_p2 hw hl
    refine lv_iload_n hx hb dX3_beginsLine_59 rfl (lv_at hl 2 rfl) ?_
    refine lv_sipush (v := 135) hx hb dX3_beginsLine_60 (by decide) ?_
    refine lv_icmp_ne (tgt := 73) hx hb dX3_beginsLine_63 (by decide) (fun c_63 => ?_) (fun c_63 => ?_)
    · exact B73  ws _ _ ls r_p2 hw hl
    · have r_p2 : RI p2 135 135 := rc_eq1 r_p2 rl_135 (ti_eq c_63) (by decide)
      refine lv_aload_n hx hb dX3_beginsLine_66 rfl (lv_at hl 0 rfl) ?_
      refine tg_get (ci := 3) (ts := ty_POST) (C := RX3) (T := TX3) (N := 9) hx hb hts inX3 hown hK hw h_p0 rfl rfl 7 (by decide) (hts _ tw_219) (fun _ h9 => h9) (ft := vI 0 1) rfl dX3_beginsLine_67 (fun u_6 hv_u_6 m_u_6 => ?_)
      obtain ⟨vu_6, rfl, r_vu_6⟩ := hv_u_6
      refine lv_if_ne (tgt := 87) hx hb dX3_beginsLine_70 (by decide) (fun c_70 => ?_) (fun c_70 => ?_)
      · have r_vu_6 : RI vu_6 1 1 := rc_neL r_vu_6 rl_0 (ti_ne c_70) (by decide)
        exact B87  ws _ _ ls (r_p2.to (by decide)) hw hl
      · have r_vu_6 : RI vu_6 0 0 := rc_eq1 r_vu_6 rl_0 (ti_eq c_70) (by decide)
        exact B73  ws _ _ ls (r_p2.to (by decide)) hw hl
  have B14 : ∀ (ws : va_W) (H : Heap) (locs : List Loc) (ls : Array Slot), RI p2 (-2147483648) 2147483647 → WD D cy GG A s wr_X3_beginsLine wa_X3_beginsLine Ps w0 Ps ws H locs → lv_has ls 3 [(0, .ref p0), (1, .ref p1), (2, .int p2)] → W p l e (headSpec (Cond.code yX3_beginsLine cX3_beginsLine 3 (some .boolean) :: gT) ({ frames := 3, cells := 0, slots := 0, locals := 600 } : Room)).room s m ([.ref p0, .ref p1, .int p2] : List Value).toArray below meth c H locs 0 0 Q (F0 m 14 ls []) := by
    intro  ws H locs ls r_p2 hw hl
    refine lv_aload_n hx hb dX3_beginsLine_14 rfl (lv_at hl 1 rfl) ?_
    refine lv_iconst (v := 1) hx hb dX3_beginsLine_15 (by decide) ?_
    refine tk_v (va_runV (As := [.int 1]) (rest := []) ⟨hx, hb, hml, hown, hts⟩ (c_X7_refuse l D cy z H.size Ps ws hw.1 p1 1 h_p1 (rl_1.to (by decide))) (cwV 1 hts (gV tw_450 tw_443 tw_444 tw_2 tw_445) rfl rfl rfl (by decide +kernel) ⟨Nat.le_of_ble_eq_true rfl, Nat.le_of_ble_eq_true rfl⟩) (tg_preV hw hK hSD hA (ci := 7) (q := (RX7, TX7, 12)) rfl h_p1 rfl) rfl rfl hl.1 rfl (lv_room (Nat.le_of_ble_eq_true rfl)) dX3_beginsLine_16 ⟨Nat.le_of_ble_eq_true rfl, Nat.le_of_ble_eq_true rfl⟩) hw hA ⟨by decide, by decide⟩ (fun ws H locs hp_v_7 hw hF9 => ?_)
    obtain ⟨v_8, m_v_8, r_v_8⟩ := (hp_v_7.1)
    refine lv_goto (tgt := 92) hx hb dX3_beginsLine_19 (by decide) ?_
    exact B92  ws _ _ ls r_p2 hw hl
  refine lv_iload_n hx hb dX3_beginsLine_0 rfl (lv_at hl 2 rfl) ?_
  refine lv_sipush (v := 128) hx hb dX3_beginsLine_1 (by decide) ?_
  refine lv_icmp_lt (tgt := 14) hx hb dX3_beginsLine_4 (by decide) (fun c_4 => ?_) (fun c_4 => ?_)
  · have r_p2 : RI p2 (-2147483648) 127 := rc_lt1 r_p2 rl_128 (ti_lt c_4) (by decide)
    exact B14  w0 _ _ ls (r_p2.to (by decide)) hw hl
  · have r_p2 : RI p2 128 2147483647 := rc_le2 rl_128 r_p2 (ti_nlt c_4) (by decide)
    refine lv_iload_n hx hb dX3_beginsLine_7 rfl (lv_at hl 2 rfl) ?_
    refine lv_sipush (v := 136) hx hb dX3_beginsLine_8 (by decide) ?_
    refine lv_icmp_le (tgt := 22) hx hb dX3_beginsLine_11 (by decide) (fun c_11 => ?_) (fun c_11 => ?_)
    · have r_p2 : RI p2 128 136 := rc_le1 r_p2 rl_136 (ti_le c_11) (by decide)
      refine lv_iload_n hx hb dX3_beginsLine_22 rfl (lv_at hl 2 rfl) ?_
      refine lv_sipush (v := 131) hx hb dX3_beginsLine_23 (by decide) ?_
      refine lv_icmp_gt (tgt := 59) hx hb dX3_beginsLine_26 (by decide) (fun c_26 => ?_) (fun c_26 => ?_)
      · have r_p2 : RI p2 132 136 := rc_lt2 rl_131 r_p2 (ti_lt c_26) (by decide)
        exact B59  w0 _ _ ls (r_p2.to (by decide)) hw hl
      · have r_p2 : RI p2 128 131 := rc_le1 r_p2 rl_131 (ti_nlt c_26) (by decide)
        refine lv_aload_n hx hb dX3_beginsLine_29 rfl (lv_at hl 0 rfl) ?_
        refine tg_get (ci := 3) (ts := ty_POST) (C := RX3) (T := TX3) (N := 9) hx hb hts inX3 hown hK hw h_p0 rfl rfl 1 (by decide) (hts _ tw_201) (fun _ h9 => h9) (ft := vR 4) rfl dX3_beginsLine_30 (fun u_9 hv_u_9 m_u_9 => ?_)
        obtain ⟨vu_9, rfl, h_vu_9⟩ := hv_u_9
        refine lv_iload_n hx hb dX3_beginsLine_33 rfl (lv_at hl 2 rfl) ?_
        refine lv_sipush (v := 128) hx hb dX3_beginsLine_34 (by decide) ?_
        refine lv_isub hx hb dX3_beginsLine_37 (lv_topi (fun v_10 e_v_10 => ?_))
        obtain ⟨t_v_10, r_v_10⟩ := tq_sub (lo := 0) (hi := 3) r_p2 rl_128 (by decide +kernel) e_v_10
        have t_v_10 : v_10.toInt = p2.toInt - 128 := t_v_10
        refine tg_iald (lo := 0) (hi := 8) hx hb hK hw h_vu_9 rfl 0 3 r_v_10 (by decide) (by decide +kernel) dX3_beginsLine_38 (fun v_11 r_v_11 m_v_11 o_v_11 => ?_)
        refine va_gets (v := .ref (z 0)) hx hb hSD.2.2.2.1 hw.2.2.2.1 hown (hts _ tw_198) (fun _ h9 => h9) dX3_beginsLine_39 ?_
        refine lv_iload_n hx hb dX3_beginsLine_42 rfl (lv_at hl 2 rfl) ?_
        refine lv_sipush (v := 128) hx hb dX3_beginsLine_43 (by decide) ?_
        refine lv_isub hx hb dX3_beginsLine_46 (lv_topi (fun v_12 e_v_12 => ?_))
        obtain ⟨t_v_12, r_v_12⟩ := tq_sub (lo := 0) (hi := 3) r_p2 rl_128 (by decide +kernel) e_v_12
        have t_v_12 : v_12.toInt = p2.toInt - 128 := t_v_12
        refine tz_most hx hb hSD.2.2.2.2.1 hw.2.2.2.1 (r_v_12.to (by decide)) dX3_beginsLine_47 (fun v_13 r_v_13 => ?_)
        refine lv_icmp_lt (tgt := 59) hx hb dX3_beginsLine_48 (by decide) (fun c_48 => ?_) (fun c_48 => ?_)
        · have r_v_11 : RI v_11 0 7 := rc_lt1 r_v_11 r_v_13 (ti_lt c_48) (by decide)
          exact B59  w0 _ _ ls (r_p2.to (by decide)) hw hl
        · have r_v_11 : RI v_11 4 8 := rc_le2 r_v_13 r_v_11 (ti_nlt c_48) (by decide)
          refine lv_aload_n hx hb dX3_beginsLine_51 rfl (lv_at hl 1 rfl) ?_
          refine lv_iconst (v := 4) hx hb dX3_beginsLine_52 (by decide) ?_
          refine tk_v (va_runV (As := [.int 4]) (rest := []) ⟨hx, hb, hml, hown, hts⟩ (c_X7_refuse l D cy z s.heap.size Ps w0 hw.1 p1 4 h_p1 (rl_4.to (by decide))) (cwV 1 hts (gV tw_450 tw_443 tw_444 tw_2 tw_445) rfl rfl rfl (by decide +kernel) ⟨Nat.le_of_ble_eq_true rfl, Nat.le_of_ble_eq_true rfl⟩) (tg_preV hw hK hSD hA (ci := 7) (q := (RX7, TX7, 12)) rfl h_p1 rfl) rfl rfl hl.1 rfl (lv_room (Nat.le_of_ble_eq_true rfl)) dX3_beginsLine_53 ⟨Nat.le_of_ble_eq_true rfl, Nat.le_of_ble_eq_true rfl⟩) hw hA ⟨by decide, by decide⟩ (fun ws H locs hp_v_14 hw hF9 => ?_)
          obtain ⟨v_15, m_v_15, r_v_15⟩ := (hp_v_14.1)
          refine lv_goto (tgt := 92) hx hb dX3_beginsLine_56 (by decide) ?_
          exact B92  ws _ _ ls (r_p2.to (by decide)) hw hl
    · have r_p2 : RI p2 137 2147483647 := rc_lt2 rl_136 r_p2 (ti_nle c_11) (by decide)
      exact B14  w0 _ _ ls (r_p2.to (by decide)) hw hl
abbrev wr_X3_numberOf__4 : List (Nat × Nat) := []
abbrev wa_X3_numberOf__4 : List Nat := []
set_option maxHeartbeats 4000000 in
set_option maxRecDepth 100000 in
theorem c_X3_numberOf__4 (l : Launch) (D : va_G) (cy : Nat → ClassId) (z : Nat → Nat) (sz : Nat) (Ps : PSI) (w0 : va_W) (hT : HT cy GG Ps w0) (p0 : Nat) (p1 : Int64) (p2 : Int32) (h_p0 : (p0, 25) ∈ Ps) (r_p1 : RJ p1 (-9223372036854775808) 9223372036854775807) (r_p2 : RI p2 0 3) : Met l yX3_numberOf (Cond.code yX3_numberOf cX3_numberOf 5 (some .int) :: gT) ({ frames := 0, cells := 0, slots := 0, locals := 200 } : Room) (va_Pc [.ref p0, .long p1, .int p2] (PRE D cy z w0 sz)) (va_Qi (fun (r : Int32) (u : Unit) => RI r (-1) 7 ∧ (r = 0 → True) ∧ (¬ r = 0 → True)) (BB D cy (va_A w0 sz) (fun (u : Unit) => w0)) (va_A w0 sz)) 0 0 (va_A w0 sz) := by
  refine Met.ofW (cc := cX3_numberOf) (maxL := 5) (ret := (some .int)) (by decide) rfl ?_
  intro p e s m args below meth c s₁ B hml hv
  obtain ⟨rfl, hsz, hP, hK, hD0, hSD⟩ := hv
  have hx := B.exec
  have hb := B.bytes
  have hr := B.returns
  have hlocks := B.notSynchronized
  have hts : ∀ w ∈ gT, w.before _ s = true := fun w h => atoms_spec (ws := Cond.code yX3_numberOf cX3_numberOf 5 (some .int) :: gT) B.pre w (List.mem_cons_of_mem _ h)
  have hown : s.vm.findClass RX3 = some m.cls := findClass_of_methodNamed B.named
  subst hsz
  have hD := hD0.self (sz := s.heap.size)
  generalize hAe : va_A w0 s.heap.size = A at hD hSD ⊢
  have hA : ∀ q : Nat, s.heap.size ≤ q → A q := fun q h => by rw [← hAe]; exact Or.inr h
  have hl := lv_entry ([.ref p0, .long p1, .int p2]) (n := 5) (Nat.le_of_ble_eq_true rfl)
  rw [lg_entry_eq]
  generalize (lg_sl ([.ref p0, .long p1, .int p2]) ++ List.replicate (5 - (lg_sl ([.ref p0, .long p1, .int p2])).length) Slot.unset).toArray = ls at hl ⊢
  have hl : lv_has ls 5 [(0, .ref p0), (1, .long p1), (3, .int p2)] := hl
  refine nameQ (fun Q hQ => ?_)
  have hw : WD D cy GG A s wr_X3_numberOf__4 wa_X3_numberOf__4 Ps w0 Ps w0 s.heap [] := ⟨hT, hP, hD, va_S.rf, FR.rf, hT.1, [], (List.append_nil _).symm⟩
  have B3 : ∀ (nf : Nat) (x4 : Int32) (H : Heap) (locs : List Loc) (ls : Array Slot), 8 - x4.toInt < (nf : Int) → RJ p1 (-9223372036854775808) 9223372036854775807 → RI p2 0 3 → RI x4 0 8 → WD D cy GG A s wr_X3_numberOf__4 wa_X3_numberOf__4 Ps w0 Ps w0 H locs → lv_has ls 5 [(0, .ref p0), (1, .long p1), (3, .int p2), (4, .int x4)] → W p l e (headSpec (Cond.code yX3_numberOf cX3_numberOf 5 (some .int) :: gT) ({ frames := 0, cells := 0, slots := 0, locals := 200 } : Room)).room s m ([.ref p0, .long p1, .int p2] : List Value).toArray below meth c H locs 0 0 Q (F0 m 3 ls []) := by
    intro nf3
    induction nf3 with
    | zero =>
      intro x4 H locs ls hn3 r_p1 r_p2 r_x4 hw hl
      exact absurd hn3 (by have q0 := r_x4.1; have u0 := r_x4.2; omega)
    | succ nf3 ih3 =>
      intro x4 H locs ls hn3 r_p1 r_p2 r_x4 hw hl
      refine lv_iload hx hb dX3_numberOf_3 (lv_at hl 3 rfl) ?_
      refine lv_aload_n hx hb dX3_numberOf_5 rfl (lv_at hl 0 rfl) ?_
      refine tg_get (ci := 3) (ts := ty_POST) (C := RX3) (T := TX3) (N := 9) hx hb hts inX3 hown hK hw h_p0 rfl rfl 1 (by decide) (hts _ tw_201) (fun _ h9 => h9) (ft := vR 4) rfl dX3_numberOf_6 (fun u_1 hv_u_1 m_u_1 => ?_)
      obtain ⟨vu_1, rfl, h_vu_1⟩ := hv_u_1
      refine lv_iload_n hx hb dX3_numberOf_9 rfl (lv_at hl 2 rfl) ?_
      refine tg_iald (lo := 0) (hi := 8) hx hb hK hw h_vu_1 rfl 0 3 r_p2 (by decide) (by decide +kernel) dX3_numberOf_10 (fun v_2 r_v_2 m_v_2 o_v_2 => ?_)
      refine lv_icmp_ge (tgt := 40) hx hb dX3_numberOf_11 (by decide) (fun c_11 => ?_) (fun c_11 => ?_)
      · refine lv_iconst (v := (-1)) hx hb dX3_numberOf_40 (by decide) ?_
        subst hQ
        exact W.iret (v := (-1)) hx hb hr (fun t ht hW => ⟨⟨(-1), (), rfl, ⟨rl_m1.to (by decide), (fun _ => trivial), (fun h0 => trivial)⟩, by rw [ht]; exact hw.2.1, va_K.moved hW.alike hK, hw.2.2.1⟩, hw.2.2.2.1.F ht⟩) hw.2.2.2.1.2.2 dX3_numberOf_41
      · have r_x4 : RI x4 0 7 := rc_lt1 r_x4 r_v_2 (ti_nle c_11) (by decide)
        have r_v_2 : RI v_2 1 8 := rc_lt2 r_x4 r_v_2 (ti_nle c_11) (by decide)
        refine lv_aload_n hx hb dX3_numberOf_14 rfl (lv_at hl 0 rfl) ?_
        refine tg_get (ci := 3) (ts := ty_POST) (C := RX3) (T := TX3) (N := 9) hx hb hts inX3 hown hK hw h_p0 rfl rfl 0 (by decide) (hts _ tw_200) (fun _ h9 => h9) (ft := vR 1) rfl dX3_numberOf_15 (fun u_3 hv_u_3 m_u_3 => ?_)
        obtain ⟨vu_3, rfl, h_vu_3⟩ := hv_u_3
        refine lv_iload_n hx hb dX3_numberOf_18 rfl (lv_at hl 2 rfl) ?_
        refine lv_bipush (v := 8) hx hb dX3_numberOf_19 (by decide) ?_
        refine lv_imul hx hb dX3_numberOf_21 (lv_topi (fun v_4 e_v_4 => ?_))
        obtain ⟨t_v_4, r_v_4⟩ := tq_mul (lo := 0) (hi := 24) r_p2 rl_8 (by decide +kernel) e_v_4
        have t_v_4 : v_4.toInt = p2.toInt * 8 := t_v_4
        refine lv_iload hx hb dX3_numberOf_22 (lv_at hl 3 rfl) ?_
        refine lv_iadd hx hb dX3_numberOf_24 (lv_topi (fun v_5 e_v_5 => ?_))
        obtain ⟨t_v_5, r_v_5⟩ := tq_add (lo := 0) (hi := 31) r_v_4 r_x4 (by decide +kernel) e_v_5
        refine tg_lald hx hb hK hw h_vu_3 rfl r_v_5 (by decide) dX3_numberOf_25 (fun w_6 r_w_6 => ?_)
        refine lv_lload_n hx hb dX3_numberOf_26 rfl (lv_at hl 1 rfl) ?_
        refine W.lcmp hx hb dX3_numberOf_27 (lv_topi (fun v_7 e_v_7 => ?_))
        have r_v_7 := ri_any v_7
        refine lv_if_ne (tgt := 34) hx hb dX3_numberOf_28 (by decide) (fun c_28 => ?_) (fun c_28 => ?_)
        · obtain ⟨v_8, e_v_8⟩ : ∃ q9 : Int32, q9 = x4 + Int32.ofInt 1 := ⟨_, rfl⟩
          obtain ⟨t_v_8, r_v_8⟩ := tq_add (lo := 1) (hi := 8) r_x4 (show RI (Int32.ofInt 1) 1 1 by unfold RI; decide +kernel) (by decide +kernel) e_v_8
          have t_v_8 : v_8.toInt = x4.toInt + 1 := t_v_8
          refine lv_iinc (v := v_8) (lv' := [(4, .int v_8), (0, .ref p0), (1, .long p1), (3, .int p2)]) hx hb dX3_numberOf_34 hl (k := 3) rfl e_v_8.symm (by decide) rfl (fun ls hl => ?_)
          refine lv_goto (tgt := 3) hx hb dX3_numberOf_37 (by decide) ?_
          exact ih3 v_8 _ _ ls (by have q0 := r_v_8.1; have u0 := r_v_8.2; have o0 := r_x4.1; have p0 := r_x4.2; omega) r_p1 r_p2 (r_v_8.to (by decide)) hw (lv_sub hl [1, 2, 3, 0] rfl)
        · have r_v_7 : RI v_7 0 0 := rc_eq1 r_v_7 rl_0 (ti_eq c_28) (by decide)
          refine lv_iload hx hb dX3_numberOf_31 (lv_at hl 3 rfl) ?_
          subst hQ
          exact W.iret (v := x4) hx hb hr (fun t ht hW => ⟨⟨x4, (), rfl, ⟨r_x4.to (by decide), (fun h0 => trivial), (fun h0 => trivial)⟩, by rw [ht]; exact hw.2.1, va_K.moved hW.alike hK, hw.2.2.1⟩, hw.2.2.2.1.F ht⟩) hw.2.2.2.1.2.2 dX3_numberOf_33
  refine lv_iconst (v := 0) hx hb dX3_numberOf_0 (by decide) ?_
  refine lv_istore (lv' := [(4, .int 0), (0, .ref p0), (1, .long p1), (3, .int p2)]) hx hb dX3_numberOf_1 hl (by decide) rfl (fun ls hl => ?_)
  exact B3 4294967298 0 _ _ ls (by have q0 := rl_0.1; have u0 := rl_0.2; omega) r_p1 r_p2 (rl_0.to (by decide)) hw (lv_sub hl [1, 2, 3, 0] rfl)
abbrev wr_X3_isTold : List (Nat × Nat) := []
abbrev wa_X3_isTold : List Nat := []
set_option maxHeartbeats 4000000 in
set_option maxRecDepth 100000 in
theorem c_X3_isTold (l : Launch) (D : va_G) (cy : Nat → ClassId) (z : Nat → Nat) (sz : Nat) (Ps : PSI) (w0 : va_W) (hT : HT cy GG Ps w0) (p0 : Nat) (p1 : Int64) (h_p0 : (p0, 25) ∈ Ps) (r_p1 : RJ p1 (-9223372036854775808) 9223372036854775807) : Met l yX3_isTold (Cond.code yX3_isTold cX3_isTold 4 (some .boolean) :: gT) ({ frames := 2, cells := 0, slots := 0, locals := 400 } : Room) (va_Pc [.ref p0, .long p1] (PRE D cy z w0 sz)) (va_Qi (fun (r : Int32) (u : Unit) => RI r 0 1 ∧ (r = 0 → True) ∧ (¬ r = 0 → True)) (BB D cy (va_A w0 sz) (fun (u : Unit) => w0)) (va_A w0 sz)) 0 0 (va_A w0 sz) := by
  refine Met.ofW (cc := cX3_isTold) (maxL := 4) (ret := (some .boolean)) (by decide) rfl ?_
  intro p e s m args below meth c s₁ B hml hv
  obtain ⟨rfl, hsz, hP, hK, hD0, hSD⟩ := hv
  have hx := B.exec
  have hb := B.bytes
  have hr := B.returns
  have hlocks := B.notSynchronized
  have hts : ∀ w ∈ gT, w.before _ s = true := fun w h => atoms_spec (ws := Cond.code yX3_isTold cX3_isTold 4 (some .boolean) :: gT) B.pre w (List.mem_cons_of_mem _ h)
  have hown : s.vm.findClass RX3 = some m.cls := findClass_of_methodNamed B.named
  subst hsz
  have hD := hD0.self (sz := s.heap.size)
  generalize hAe : va_A w0 s.heap.size = A at hD hSD ⊢
  have hA : ∀ q : Nat, s.heap.size ≤ q → A q := fun q h => by rw [← hAe]; exact Or.inr h
  have hl := lv_entry ([.ref p0, .long p1]) (n := 4) (Nat.le_of_ble_eq_true rfl)
  rw [lg_entry_eq]
  generalize (lg_sl ([.ref p0, .long p1]) ++ List.replicate (4 - (lg_sl ([.ref p0, .long p1])).length) Slot.unset).toArray = ls at hl ⊢
  have hl : lv_has ls 4 [(0, .ref p0), (1, .long p1)] := hl
  refine nameQ (fun Q hQ => ?_)
  have hw : WD D cy GG A s wr_X3_isTold wa_X3_isTold Ps w0 Ps w0 s.heap [] := ⟨hT, hP, hD, va_S.rf, FR.rf, hT.1, [], (List.append_nil _).symm⟩
  have B2 : ∀ (nf : Nat) (x3 : Int32) (H : Heap) (locs : List Loc) (ls : Array Slot), 4 - x3.toInt < (nf : Int) → RJ p1 (-9223372036854775808) 9223372036854775807 → RI x3 0 4 → WD D cy GG A s wr_X3_isTold wa_X3_isTold Ps w0 Ps w0 H locs → lv_has ls 4 [(0, .ref p0), (1, .long p1), (3, .int x3)] → W p l e (headSpec (Cond.code yX3_isTold cX3_isTold 4 (some .boolean) :: gT) ({ frames := 2, cells := 0, slots := 0, locals := 400 } : Room)).room s m ([.ref p0, .long p1] : List Value).toArray below meth c H locs 0 0 Q (F0 m 2 ls []) := by
    intro nf2
    induction nf2 with
    | zero =>
      intro x3 H locs ls hn2 r_p1 r_x3 hw hl
      exact absurd hn2 (by have q0 := r_x3.1; have u0 := r_x3.2; omega)
    | succ nf2 ih2 =>
      intro x3 H locs ls hn2 r_p1 r_x3 hw hl
      refine lv_iload_n hx hb dX3_isTold_2 rfl (lv_at hl 2 rfl) ?_
      refine lv_aload_n hx hb dX3_isTold_3 rfl (lv_at hl 0 rfl) ?_
      refine tg_get (ci := 3) (ts := ty_POST) (C := RX3) (T := TX3) (N := 9) hx hb hts inX3 hown hK hw h_p0 rfl rfl 1 (by decide) (hts _ tw_201) (fun _ h9 => h9) (ft := vR 4) rfl dX3_isTold_4 (fun u_1 hv_u_1 m_u_1 => ?_)
      obtain ⟨vu_1, rfl, h_vu_1⟩ := hv_u_1
      refine tg_alenI (t0 := 1) (v := 4) hx hb hK hw h_vu_1 rfl rfl rfl dX3_isTold_7 ?_
      refine lv_icmp_ge (tgt := 29) hx hb dX3_isTold_8 (by decide) (fun c_8 => ?_) (fun c_8 => ?_)
      · have r_x3 : RI x3 4 4 := rc_le2 rl_4 r_x3 (ti_le c_8) (by decide)
        refine lv_iconst (v := 0) hx hb dX3_isTold_29 (by decide) ?_
        subst hQ
        exact W.zret (v := 0) hx hb hr (rfl) (fun t ht hW => ⟨⟨0, (), rfl, ⟨rl_0.to (by decide), (fun h0 => trivial), (fun _ => trivial)⟩, by rw [ht]; exact hw.2.1, va_K.moved hW.alike hK, hw.2.2.1⟩, hw.2.2.2.1.F ht⟩) hw.2.2.2.1.2.2 dX3_isTold_30
      · have r_x3 : RI x3 0 3 := rc_lt1 r_x3 rl_4 (ti_nle c_8) (by decide)
        refine lv_aload_n hx hb dX3_isTold_11 rfl (lv_at hl 0 rfl) ?_
        refine lv_lload_n hx hb dX3_isTold_12 rfl (lv_at hl 1 rfl) ?_
        refine lv_iload_n hx hb dX3_isTold_13 rfl (lv_at hl 2 rfl) ?_
        refine tk_ir (va_runV (As := [.long p1, .int x3]) (rest := []) ⟨hx, hb, hml, hown, hts⟩ (c_X3_numberOf__4 l D cy z H.size Ps w0 hw.1 p0 p1 x3 h_p0 r_p1 r_x3) (cwV 2 hts (gV tw_511 tw_461 tw_462 tw_11 tw_463) rfl rfl rfl (by decide +kernel) ⟨Nat.le_of_ble_eq_true rfl, Nat.le_of_ble_eq_true rfl⟩) (tg_preV hw hK hSD hA (ci := 3) (q := (RX3, TX3, 9)) rfl h_p0 rfl) rfl rfl hl.1 rfl (lv_room (Nat.le_of_ble_eq_true rfl)) dX3_isTold_14 ⟨Nat.le_of_ble_eq_true rfl, Nat.le_of_ble_eq_true rfl⟩) hw hA (fun v_2  H locs hp_v_2 hw => ?_)
        have r_v_2 : RI v_2 (-1) 7 := hp_v_2.1
        refine lv_iconst (v := (-1)) hx hb dX3_isTold_17 (by decide) ?_
        refine lv_icmp_eq (tgt := 23) hx hb dX3_isTold_18 (by decide) (fun c_18 => ?_) (fun c_18 => ?_)
        · have r_v_2 : RI v_2 (-1) (-1) := rc_eq1 r_v_2 rl_m1 (ti_eq c_18) (by decide)
          obtain ⟨v_3, e_v_3⟩ : ∃ q9 : Int32, q9 = x3 + Int32.ofInt 1 := ⟨_, rfl⟩
          obtain ⟨t_v_3, r_v_3⟩ := tq_add (lo := 1) (hi := 4) r_x3 (show RI (Int32.ofInt 1) 1 1 by unfold RI; decide +kernel) (by decide +kernel) e_v_3
          have t_v_3 : v_3.toInt = x3.toInt + 1 := t_v_3
          refine lv_iinc (v := v_3) (lv' := [(3, .int v_3), (0, .ref p0), (1, .long p1)]) hx hb dX3_isTold_23 hl (k := 2) rfl e_v_3.symm (by decide) rfl (fun ls hl => ?_)
          refine lv_goto (tgt := 2) hx hb dX3_isTold_26 (by decide) ?_
          exact ih2 v_3 _ _ ls (by have q0 := r_v_3.1; have u0 := r_v_3.2; have o0 := r_x3.1; have p0 := r_x3.2; omega) r_p1 (r_v_3.to (by decide)) hw (lv_sub hl [1, 2, 0] rfl)
        · have r_v_2 : RI v_2 0 7 := rc_neL r_v_2 rl_m1 (ti_ne c_18) (by decide)
          refine lv_iconst (v := 1) hx hb dX3_isTold_21 (by decide) ?_
          subst hQ
          exact W.zret (v := 1) hx hb hr (rfl) (fun t ht hW => ⟨⟨1, (), rfl, ⟨rl_1.to (by decide), (fun _ => trivial), (fun h0 => trivial)⟩, by rw [ht]; exact hw.2.1, va_K.moved hW.alike hK, hw.2.2.1⟩, hw.2.2.2.1.F ht⟩) hw.2.2.2.1.2.2 dX3_isTold_22
  refine lv_iconst (v := 0) hx hb dX3_isTold_0 (by decide) ?_
  refine lv_istore_n (lv' := [(3, .int 0), (0, .ref p0), (1, .long p1)]) hx hb dX3_isTold_1 rfl hl (by decide) rfl (fun ls hl => ?_)
  exact B2 4294967298 0 _ _ ls (by have q0 := rl_0.1; have u0 := rl_0.2; omega) r_p1 (rl_0.to (by decide)) hw (lv_sub hl [1, 2, 0] rfl)
abbrev wr_X3_nameOf : List (Nat × Nat) := []
abbrev wa_X3_nameOf : List Nat := []
set_option maxHeartbeats 4000000 in
set_option maxRecDepth 100000 in
theorem c_X3_nameOf (l : Launch) (D : va_G) (cy : Nat → ClassId) (z : Nat → Nat) (sz : Nat) (Ps : PSI) (w0 : va_W) (hT : HT cy GG Ps w0) (p0 : Nat) (p1 : Int32) (p2 : Int32) (h_p0 : (p0, 25) ∈ Ps) (r_p1 : RI p1 0 3) (r_p2 : RI p2 0 7) : Met l yX3_nameOf (Cond.code yX3_nameOf cX3_nameOf 3 (some .long) :: gT) ({ frames := 0, cells := 0, slots := 0, locals := 200 } : Room) (va_Pc [.ref p0, .int p1, .int p2] (PRE D cy z w0 sz)) (va_Ql (fun (r : Int64) (u : Unit) => RJ r (-9223372036854775808) 9223372036854775807) (BB D cy (va_A w0 sz) (fun (u : Unit) => w0)) (va_A w0 sz)) 0 0 (va_A w0 sz) := by
  refine Met.ofW (cc := cX3_nameOf) (maxL := 3) (ret := (some .long)) (by decide) rfl ?_
  intro p e s m args below meth c s₁ B hml hv
  obtain ⟨rfl, hsz, hP, hK, hD0, hSD⟩ := hv
  have hx := B.exec
  have hb := B.bytes
  have hr := B.returns
  have hlocks := B.notSynchronized
  have hts : ∀ w ∈ gT, w.before _ s = true := fun w h => atoms_spec (ws := Cond.code yX3_nameOf cX3_nameOf 3 (some .long) :: gT) B.pre w (List.mem_cons_of_mem _ h)
  have hown : s.vm.findClass RX3 = some m.cls := findClass_of_methodNamed B.named
  subst hsz
  have hD := hD0.self (sz := s.heap.size)
  generalize hAe : va_A w0 s.heap.size = A at hD hSD ⊢
  have hA : ∀ q : Nat, s.heap.size ≤ q → A q := fun q h => by rw [← hAe]; exact Or.inr h
  have hl := lv_entry ([.ref p0, .int p1, .int p2]) (n := 3) (Nat.le_of_ble_eq_true rfl)
  rw [lg_entry_eq]
  generalize (lg_sl ([.ref p0, .int p1, .int p2]) ++ List.replicate (3 - (lg_sl ([.ref p0, .int p1, .int p2])).length) Slot.unset).toArray = ls at hl ⊢
  have hl : lv_has ls 3 [(0, .ref p0), (1, .int p1), (2, .int p2)] := hl
  refine nameQ (fun Q hQ => ?_)
  have hw : WD D cy GG A s wr_X3_nameOf wa_X3_nameOf Ps w0 Ps w0 s.heap [] := ⟨hT, hP, hD, va_S.rf, FR.rf, hT.1, [], (List.append_nil _).symm⟩
  refine lv_aload_n hx hb dX3_nameOf_0 rfl (lv_at hl 0 rfl) ?_
  refine tg_get (ci := 3) (ts := ty_POST) (C := RX3) (T := TX3) (N := 9) hx hb hts inX3 hown hK hw h_p0 rfl rfl 0 (by decide) (hts _ tw_200) (fun _ h9 => h9) (ft := vR 1) rfl dX3_nameOf_1 (fun u_1 hv_u_1 m_u_1 => ?_)
  obtain ⟨vu_1, rfl, h_vu_1⟩ := hv_u_1
  refine lv_iload_n hx hb dX3_nameOf_4 rfl (lv_at hl 1 rfl) ?_
  refine lv_bipush (v := 8) hx hb dX3_nameOf_5 (by decide) ?_
  refine lv_imul hx hb dX3_nameOf_7 (lv_topi (fun v_2 e_v_2 => ?_))
  obtain ⟨t_v_2, r_v_2⟩ := tq_mul (lo := 0) (hi := 24) r_p1 rl_8 (by decide +kernel) e_v_2
  have t_v_2 : v_2.toInt = p1.toInt * 8 := t_v_2
  refine lv_iload_n hx hb dX3_nameOf_8 rfl (lv_at hl 2 rfl) ?_
  refine lv_iadd hx hb dX3_nameOf_9 (lv_topi (fun v_3 e_v_3 => ?_))
  obtain ⟨t_v_3, r_v_3⟩ := tq_add (lo := 0) (hi := 31) r_v_2 r_p2 (by decide +kernel) e_v_3
  refine tg_lald hx hb hK hw h_vu_1 rfl r_v_3 (by decide) dX3_nameOf_10 (fun w_4 r_w_4 => ?_)
  subst hQ
  exact W.lret (v := w_4) hx hb hr (fun t ht hW => ⟨⟨w_4, (), rfl, r_w_4.to (by decide), by rw [ht]; exact hw.2.1, va_K.moved hW.alike hK, hw.2.2.1⟩, hw.2.2.2.1.F ht⟩) hw.2.2.2.1.2.2 dX3_nameOf_11
abbrev wr_X3_quarrel : List (Nat × Nat) := []
abbrev wa_X3_quarrel : List Nat := []
set_option maxHeartbeats 4000000 in
set_option maxRecDepth 100000 in
theorem c_X3_quarrel (l : Launch) (D : va_G) (cy : Nat → ClassId) (z : Nat → Nat) (sz : Nat) (Ps : PSI) (w0 : va_W) (hT : HT cy GG Ps w0) (p0 : Nat) (p1 : Int32) (p2 : Int32) (h_p0 : (p0, 25) ∈ Ps) (r_p1 : RI p1 0 5) (r_p2 : RI p2 (-2147483648) 2147483647) : Met l yX3_quarrel (Cond.code yX3_quarrel cX3_quarrel 3 (some .boolean) :: gT) ({ frames := 0, cells := 0, slots := 0, locals := 200 } : Room) (va_Pc [.ref p0, .int p1, .int p2] (PRE D cy z w0 sz)) (va_Qi (fun (r : Int32) (u : Unit) => RI r 0 1 ∧ (r = 0 → True) ∧ (¬ r = 0 → True)) (BB D cy (va_A w0 sz) (fun (u : Unit) => w0)) (va_A w0 sz)) 0 0 (va_A w0 sz) := by
  refine Met.ofW (cc := cX3_quarrel) (maxL := 3) (ret := (some .boolean)) (by decide) rfl ?_
  intro p e s m args below meth c s₁ B hml hv
  obtain ⟨rfl, hsz, hP, hK, hD0, hSD⟩ := hv
  have hx := B.exec
  have hb := B.bytes
  have hr := B.returns
  have hlocks := B.notSynchronized
  have hts : ∀ w ∈ gT, w.before _ s = true := fun w h => atoms_spec (ws := Cond.code yX3_quarrel cX3_quarrel 3 (some .boolean) :: gT) B.pre w (List.mem_cons_of_mem _ h)
  have hown : s.vm.findClass RX3 = some m.cls := findClass_of_methodNamed B.named
  subst hsz
  have hD := hD0.self (sz := s.heap.size)
  generalize hAe : va_A w0 s.heap.size = A at hD hSD ⊢
  have hA : ∀ q : Nat, s.heap.size ≤ q → A q := fun q h => by rw [← hAe]; exact Or.inr h
  have hl := lv_entry ([.ref p0, .int p1, .int p2]) (n := 3) (Nat.le_of_ble_eq_true rfl)
  rw [lg_entry_eq]
  generalize (lg_sl ([.ref p0, .int p1, .int p2]) ++ List.replicate (3 - (lg_sl ([.ref p0, .int p1, .int p2])).length) Slot.unset).toArray = ls at hl ⊢
  have hl : lv_has ls 3 [(0, .ref p0), (1, .int p1), (2, .int p2)] := hl
  refine nameQ (fun Q hQ => ?_)
  have hw : WD D cy GG A s wr_X3_quarrel wa_X3_quarrel Ps w0 Ps w0 s.heap [] := ⟨hT, hP, hD, va_S.rf, FR.rf, hT.1, [], (List.append_nil _).symm⟩
  refine lv_aload_n hx hb dX3_quarrel_0 rfl (lv_at hl 0 rfl) ?_
  refine tg_get (ci := 3) (ts := ty_POST) (C := RX3) (T := TX3) (N := 9) hx hb hts inX3 hown hK hw h_p0 rfl rfl 3 (by decide) (hts _ tw_208) (fun _ h9 => h9) (ft := vR 6) rfl dX3_quarrel_1 (fun u_1 hv_u_1 m_u_1 => ?_)
  obtain ⟨vu_1, rfl, h_vu_1⟩ := hv_u_1
  refine lv_iload_n hx hb dX3_quarrel_4 rfl (lv_at hl 1 rfl) ?_
  refine tg_iald (lo := (-2147483648)) (hi := 2147483647) hx hb hK hw h_vu_1 rfl 0 5 r_p1 (by decide) (by exact fun _ _ _ => ⟨Int.le_refl _, Int.le_refl _⟩) dX3_quarrel_5 (fun v_2 r_v_2 m_v_2 o_v_2 => ?_)
  refine lv_iload_n hx hb dX3_quarrel_6 rfl (lv_at hl 2 rfl) ?_
  refine lv_ishr hx hb dX3_quarrel_7 (lv_topi (fun v_3 e_v_3 => ?_))
  have r_v_3 := ri_any v_3
  refine lv_iconst (v := 1) hx hb dX3_quarrel_8 (by decide) ?_
  refine lv_iand hx hb dX3_quarrel_9 (lv_topi (fun v_4 e_v_4 => ?_))
  have r_v_4 : RI v_4 0 1 := by rw [e_v_4]; exact ri_and (d := 1) (rl_1.to (by decide)) (by decide)
  refine lv_if_eq (tgt := 17) hx hb dX3_quarrel_10 (by decide) (fun c_10 => ?_) (fun c_10 => ?_)
  · have r_v_4 : RI v_4 0 0 := rc_eq1 r_v_4 rl_0 (ti_eq c_10) (by decide)
    refine lv_iconst (v := 0) hx hb dX3_quarrel_17 (by decide) ?_
    subst hQ
    exact W.zret (v := 0) hx hb hr (rfl) (fun t ht hW => ⟨⟨0, (), rfl, ⟨rl_0.to (by decide), (fun h0 => trivial), (fun _ => trivial)⟩, by rw [ht]; exact hw.2.1, va_K.moved hW.alike hK, hw.2.2.1⟩, hw.2.2.2.1.F ht⟩) hw.2.2.2.1.2.2 dX3_quarrel_18
  · have r_v_4 : RI v_4 1 1 := rc_neL r_v_4 rl_0 (ti_ne c_10) (by decide)
    refine lv_iconst (v := 1) hx hb dX3_quarrel_13 (by decide) ?_
    refine lv_goto (tgt := 18) hx hb dX3_quarrel_14 (by decide) ?_
    subst hQ
    exact W.zret (v := 1) hx hb hr (rfl) (fun t ht hW => ⟨⟨1, (), rfl, ⟨rl_1.to (by decide), (fun _ => trivial), (fun h0 => trivial)⟩, by rw [ht]; exact hw.2.1, va_K.moved hW.alike hK, hw.2.2.1⟩, hw.2.2.2.1.F ht⟩) hw.2.2.2.1.2.2 dX3_quarrel_18
abbrev wr_X3_readHas : List (Nat × Nat) := [(7, 5), (7, 6), (7, 7), (7, 8), (7, 9), (7, 10), (7, 11)]
abbrev wa_X3_readHas : List Nat := [8]
set_option maxHeartbeats 4000000 in
set_option maxRecDepth 100000 in
theorem c_X3_readHas (l : Launch) (D : va_G) (cy : Nat → ClassId) (z : Nat → Nat) (sz : Nat) (Ps : PSI) (w0 : va_W) (hT : HT cy GG Ps w0) (p0 : Nat) (p1 : Nat) (p2 : Nat) (h_p0 : (p0, 25) ∈ Ps) (h_p1 : (p1, 26) ∈ Ps) (h_p2 : (p2, 24) ∈ Ps) : Met l yX3_readHas (Cond.code yX3_readHas cX3_readHas 7 none :: gT) ({ frames := 4, cells := 0, slots := 0, locals := 800 } : Room) (va_Pc [.ref p0, .ref p1, .ref p2] (PRE D cy z w0 sz)) (va_Qv (fun (u : va_W) => (True) ∧ HT cy GG Ps u ∧ FR wr_X3_readHas wa_X3_readHas Ps w0 u) (BB D cy (va_A w0 sz) (fun (u : va_W) => u)) (va_A w0 sz)) 0 0 (va_A w0 sz) := by
  refine Met.ofW (cc := cX3_readHas) (maxL := 7) (ret := none) (by decide) rfl ?_
  intro p e s m args below meth c s₁ B hml hv
  obtain ⟨rfl, hsz, hP, hK, hD0, hSD⟩ := hv
  have hx := B.exec
  have hb := B.bytes
  have hr := B.returns
  have hlocks := B.notSynchronized
  have hts : ∀ w ∈ gT, w.before _ s = true := fun w h => atoms_spec (ws := Cond.code yX3_readHas cX3_readHas 7 none :: gT) B.pre w (List.mem_cons_of_mem _ h)
  have hown : s.vm.findClass RX3 = some m.cls := findClass_of_methodNamed B.named
  subst hsz
  have hD := hD0.self (sz := s.heap.size)
  generalize hAe : va_A w0 s.heap.size = A at hD hSD ⊢
  have hA : ∀ q : Nat, s.heap.size ≤ q → A q := fun q h => by rw [← hAe]; exact Or.inr h
  have hl := lv_entry ([.ref p0, .ref p1, .ref p2]) (n := 7) (Nat.le_of_ble_eq_true rfl)
  rw [lg_entry_eq]
  generalize (lg_sl ([.ref p0, .ref p1, .ref p2]) ++ List.replicate (7 - (lg_sl ([.ref p0, .ref p1, .ref p2])).length) Slot.unset).toArray = ls at hl ⊢
  have hl : lv_has ls 7 [(0, .ref p0), (1, .ref p1), (2, .ref p2)] := hl
  refine nameQ (fun Q hQ => ?_)
  have hw : WD D cy GG A s wr_X3_readHas wa_X3_readHas Ps w0 Ps w0 s.heap [] := ⟨hT, hP, hD, va_S.rf, FR.rf, hT.1, [], (List.append_nil _).symm⟩
  refine lv_aload_n hx hb dX3_readHas_0 rfl (lv_at hl 1 rfl) ?_
  refine lv_aload_n hx hb dX3_readHas_1 rfl (lv_at hl 0 rfl) ?_
  refine lv_iconst (v := 2) hx hb dX3_readHas_2 (by decide) ?_
  refine tk_i (va_runV (As := [.ref p0, .int 2]) (rest := []) ⟨hx, hb, hml, hown, hts⟩ (c_X7_takeName__2 l D cy z s.heap.size Ps w0 hw.1 p1 p0 2 h_p1 h_p0 rl_2) (cwV 2 hts (gV tw_464 tw_465 tw_466 tw_2 tw_467) rfl rfl rfl (by decide +kernel) ⟨Nat.le_of_ble_eq_true rfl, Nat.le_of_ble_eq_true rfl⟩) (tg_preV hw hK hSD hA (ci := 7) (q := (RX7, TX7, 12)) rfl h_p1 rfl) rfl rfl hl.1 rfl (lv_room (Nat.le_of_ble_eq_true rfl)) dX3_readHas_3 ⟨Nat.le_of_ble_eq_true rfl, Nat.le_of_ble_eq_true rfl⟩) hw hA ⟨by decide, by decide⟩ (fun v_1 ws H locs hp_v_1 hw hF9 => ?_)
  have r_v_1 : RI v_1 (-1) 5 := hp_v_1.1
  refine lv_istore_n (lv' := [(3, .int v_1), (0, .ref p0), (1, .ref p1), (2, .ref p2)]) hx hb dX3_readHas_6 rfl hl (by decide) rfl (fun ls hl => ?_)
  refine lv_aload_n hx hb dX3_readHas_7 rfl (lv_at hl 2 rfl) ?_
  refine lv_aload_n hx hb dX3_readHas_8 rfl (lv_at hl 1 rfl) ?_
  refine lv_iconst (v := 0) hx hb dX3_readHas_9 (by decide) ?_
  refine tk_i (va_runV (As := [.ref p0, .int 0]) (rest := []) ⟨hx, hb, hml, hown, hts⟩ (c_X7_nameAhead l D cy z H.size Ps ws hw.1 p1 p0 0 h_p1 h_p0 rl_0) (cwV 2 hts (gV tw_456 tw_457 tw_458 tw_2 tw_459) rfl rfl rfl (by decide +kernel) ⟨Nat.le_of_ble_eq_true rfl, Nat.le_of_ble_eq_true rfl⟩) (tg_preV hw hK hSD hA (ci := 7) (q := (RX7, TX7, 12)) rfl h_p1 rfl) rfl rfl hl.1 rfl (lv_room (Nat.le_of_ble_eq_true rfl)) dX3_readHas_10 ⟨Nat.le_of_ble_eq_true rfl, Nat.le_of_ble_eq_true rfl⟩) hw hA ⟨by decide, by decide⟩ (fun v_2 ws H locs hp_v_2 hw hF9 => ?_)
  have r_v_2 : RI v_2 (-1) 5 := hp_v_2.1
  by_cases c9_v_2 : v_2 = 0
  · have r_v_2 : RI v_2 0 0 := by rw [c9_v_2]; exact rl_0
    obtain ⟨v_3, m_v_3, r_v_3⟩ := ((hp_v_2.2.1 c9_v_2).1)
    refine lv_istore (lv' := [(4, .int v_2), (3, .int v_1), (0, .ref p0), (1, .ref p1), (2, .ref p2)]) hx hb dX3_readHas_13 hl (by decide) rfl (fun ls hl => ?_)
    refine lv_iload_n hx hb dX3_readHas_15 rfl (lv_at hl 1 rfl) ?_
    refine lv_iconst (v := (-1)) hx hb dX3_readHas_16 (by decide) ?_
    refine lv_icmp_eq (tgt := 30) hx hb dX3_readHas_17 (by decide) (fun c_17 => ?_) (fun c_17 => ?_)
    · have r_v_1 : RI v_1 (-1) (-1) := rc_eq1 r_v_1 rl_m1 (ti_eq c_17) (by decide)
      refine lv_iconst (v := 0) hx hb dX3_readHas_30 (by decide) ?_
      refine lv_istore (lv' := [(5, .int 0), (4, .int v_2), (3, .int v_1), (0, .ref p0), (1, .ref p1), (2, .ref p2)]) hx hb dX3_readHas_31 hl (by decide) rfl (fun ls hl => ?_)
      refine lv_iload hx hb dX3_readHas_33 (lv_at hl 0 rfl) ?_
      refine lv_if_eq (tgt := 53) hx hb dX3_readHas_35 (by decide) (fun _ => ?_) (fun c9 => absurd (by decide) c9)
      refine lv_aload_n hx hb dX3_readHas_53 rfl (lv_at hl 4 rfl) ?_
      refine tk_v (va_runV (As := []) (rest := []) ⟨hx, hb, hml, hown, hts⟩ (c_X7_pass l D cy z H.size Ps ws hw.1 p1 h_p1) (cwV 0 hts (gV tw_451 tw_425 tw_426 tw_2 tw_427) rfl rfl rfl (by decide +kernel) ⟨Nat.le_of_ble_eq_true rfl, Nat.le_of_ble_eq_true rfl⟩) (tg_preV hw hK hSD hA (ci := 7) (q := (RX7, TX7, 12)) rfl h_p1 rfl) rfl rfl hl.1 rfl (lv_room (Nat.le_of_ble_eq_true rfl)) dX3_readHas_54 ⟨Nat.le_of_ble_eq_true rfl, Nat.le_of_ble_eq_true rfl⟩) hw hA ⟨by decide, by decide⟩ (fun ws H locs hp_v_4 hw hF9 => ?_)
      have m_v_3 := FLD.over hF9 m_v_3 (by decide)
      refine lv_aload_n hx hb dX3_readHas_57 rfl (lv_at hl 4 rfl) ?_
      refine lv_iconst (v := 1) hx hb dX3_readHas_58 (by decide) ?_
      refine lv_bipush (v := 99) hx hb dX3_readHas_59 (by decide) ?_
      refine tk_i (va_runV (As := [.int 1, .int 99]) (rest := []) ⟨hx, hb, hml, hown, hts⟩ (c_X7_takeNumber l D cy z H.size Ps ws hw.1 p1 1 99 h_p1 (rl_1.to (by decide)) (rl_99.to (by decide))) (cwV 2 hts (gV tw_477 tw_478 tw_479 tw_2 tw_480) rfl rfl rfl (by decide +kernel) ⟨Nat.le_of_ble_eq_true rfl, Nat.le_of_ble_eq_true rfl⟩) (tg_preV hw hK hSD hA (ci := 7) (q := (RX7, TX7, 12)) rfl h_p1 rfl) rfl rfl hl.1 rfl (lv_room (Nat.le_of_ble_eq_true rfl)) dX3_readHas_61 ⟨Nat.le_of_ble_eq_true rfl, Nat.le_of_ble_eq_true rfl⟩) hw hA ⟨by decide, by decide⟩ (fun v_5 ws H locs hp_v_5 hw hF9 => ?_)
      have r_v_5 : RI v_5 (-2147483648) 2147483647 := hp_v_5.1
      refine lv_istore (lv' := [(6, .int v_5), (5, .int 0), (4, .int v_2), (3, .int v_1), (0, .ref p0), (1, .ref p1), (2, .ref p2)]) hx hb dX3_readHas_64 hl (by decide) rfl (fun ls hl => ?_)
      refine lv_iload hx hb dX3_readHas_66 (lv_at hl 1 rfl) ?_
      refine lv_if_eq (tgt := 80) hx hb dX3_readHas_68 (by decide) (fun _ => ?_) (fun c9 => absurd (by decide) c9)
      subst hQ
      exact W.vret hx hb hr (fun t ht hW => ⟨⟨ws, rfl, ⟨trivial, hw.1, hw.2.2.2.2.1⟩, by rw [ht]; exact hw.2.1, va_K.moved hW.alike hK, hw.2.2.1⟩, hw.2.2.2.1.F ht⟩) hw.2.2.2.1.2.2 dX3_readHas_80
    · have r_v_1 : RI v_1 0 5 := rc_neL r_v_1 rl_m1 (ti_ne c_17) (by decide)
      refine lv_iload hx hb dX3_readHas_20 (lv_at hl 0 rfl) ?_
      refine lv_iconst (v := (-1)) hx hb dX3_readHas_22 (by decide) ?_
      refine lv_icmp_eq (tgt := 30) hx hb dX3_readHas_23 (by decide) (fun c_23 => ?_) (fun c_23 => ?_)
      · have r_v_2 : RI v_2 0 (-1) := rc_eq1 r_v_2 rl_m1 (ti_eq c_23) (by decide)
        exact (r_v_2.no (by decide)).elim
      · refine lv_iconst (v := 1) hx hb dX3_readHas_26 (by decide) ?_
        refine lv_goto (tgt := 31) hx hb dX3_readHas_27 (by decide) ?_
        refine lv_istore (lv' := [(5, .int 1), (4, .int v_2), (3, .int v_1), (0, .ref p0), (1, .ref p1), (2, .ref p2)]) hx hb dX3_readHas_31 hl (by decide) rfl (fun ls hl => ?_)
        refine lv_iload hx hb dX3_readHas_33 (lv_at hl 0 rfl) ?_
        refine lv_if_eq (tgt := 53) hx hb dX3_readHas_35 (by decide) (fun c9 => absurd c9 (by decide)) (fun _ => ?_)
        refine lv_aload_n hx hb dX3_readHas_38 rfl (lv_at hl 5 rfl) ?_
        refine lv_iload_n hx hb dX3_readHas_39 rfl (lv_at hl 2 rfl) ?_
        refine lv_iload hx hb dX3_readHas_40 (lv_at hl 1 rfl) ?_
        refine tk_ir (va_runV (As := [.int v_1, .int v_2]) (rest := []) ⟨hx, hb, hml, hown, hts⟩ (c_X8_has l D cy z H.size Ps ws hw.1 p2 v_1 v_2 h_p2 r_v_1 (r_v_2.to (by decide))) (cwV 2 hts (gV tw_473 tw_474 tw_475 tw_12 tw_476) rfl rfl rfl (by decide +kernel) ⟨Nat.le_of_ble_eq_true rfl, Nat.le_of_ble_eq_true rfl⟩) (tg_preV hw hK hSD hA (ci := 8) (q := (RX8, TX8, 13)) rfl h_p2 rfl) rfl rfl hl.1 rfl (lv_room (Nat.le_of_ble_eq_true rfl)) dX3_readHas_42 ⟨Nat.le_of_ble_eq_true rfl, Nat.le_of_ble_eq_true rfl⟩) hw hA (fun v_6  H locs hp_v_6 hw => ?_)
        have r_v_6 : RI v_6 (-2147483648) 2147483647 := hp_v_6.1
        refine lv_if_le (tgt := 53) hx hb dX3_readHas_45 (by decide) (fun c_45 => ?_) (fun c_45 => ?_)
        · have r_v_6 : RI v_6 (-2147483648) 0 := rc_le1 r_v_6 rl_0 (ti_le c_45) (by decide)
          refine lv_aload_n hx hb dX3_readHas_53 rfl (lv_at hl 4 rfl) ?_
          refine tk_v (va_runV (As := []) (rest := []) ⟨hx, hb, hml, hown, hts⟩ (c_X7_pass l D cy z H.size Ps ws hw.1 p1 h_p1) (cwV 0 hts (gV tw_451 tw_425 tw_426 tw_2 tw_427) rfl rfl rfl (by decide +kernel) ⟨Nat.le_of_ble_eq_true rfl, Nat.le_of_ble_eq_true rfl⟩) (tg_preV hw hK hSD hA (ci := 7) (q := (RX7, TX7, 12)) rfl h_p1 rfl) rfl rfl hl.1 rfl (lv_room (Nat.le_of_ble_eq_true rfl)) dX3_readHas_54 ⟨Nat.le_of_ble_eq_true rfl, Nat.le_of_ble_eq_true rfl⟩) hw hA ⟨by decide, by decide⟩ (fun ws H locs hp_v_7 hw hF9 => ?_)
          have m_v_3 := FLD.over hF9 m_v_3 (by decide)
          refine lv_aload_n hx hb dX3_readHas_57 rfl (lv_at hl 4 rfl) ?_
          refine lv_iconst (v := 1) hx hb dX3_readHas_58 (by decide) ?_
          refine lv_bipush (v := 99) hx hb dX3_readHas_59 (by decide) ?_
          refine tk_i (va_runV (As := [.int 1, .int 99]) (rest := []) ⟨hx, hb, hml, hown, hts⟩ (c_X7_takeNumber l D cy z H.size Ps ws hw.1 p1 1 99 h_p1 (rl_1.to (by decide)) (rl_99.to (by decide))) (cwV 2 hts (gV tw_477 tw_478 tw_479 tw_2 tw_480) rfl rfl rfl (by decide +kernel) ⟨Nat.le_of_ble_eq_true rfl, Nat.le_of_ble_eq_true rfl⟩) (tg_preV hw hK hSD hA (ci := 7) (q := (RX7, TX7, 12)) rfl h_p1 rfl) rfl rfl hl.1 rfl (lv_room (Nat.le_of_ble_eq_true rfl)) dX3_readHas_61 ⟨Nat.le_of_ble_eq_true rfl, Nat.le_of_ble_eq_true rfl⟩) hw hA ⟨by decide, by decide⟩ (fun v_8 ws H locs hp_v_8 hw hF9 => ?_)
          have r_v_8 : RI v_8 (-2147483648) 2147483647 := hp_v_8.1
          refine lv_istore (lv' := [(6, .int v_8), (5, .int 1), (4, .int v_2), (3, .int v_1), (0, .ref p0), (1, .ref p1), (2, .ref p2)]) hx hb dX3_readHas_64 hl (by decide) rfl (fun ls hl => ?_)
          refine lv_iload hx hb dX3_readHas_66 (lv_at hl 1 rfl) ?_
          refine lv_if_eq (tgt := 80) hx hb dX3_readHas_68 (by decide) (fun c9 => absurd c9 (by decide)) (fun _ => ?_)
          refine lv_aload_n hx hb dX3_readHas_71 rfl (lv_at hl 6 rfl) ?_
          refine lv_iload_n hx hb dX3_readHas_72 rfl (lv_at hl 3 rfl) ?_
          refine lv_iload hx hb dX3_readHas_73 (lv_at hl 2 rfl) ?_
          refine lv_iload hx hb dX3_readHas_75 (lv_at hl 0 rfl) ?_
          refine tk_v (va_runV (As := [.int v_1, .int v_2, .int v_8]) (rest := []) ⟨hx, hb, hml, hown, hts⟩ (c_X8_put l D cy z H.size Ps ws hw.1 p2 v_1 v_2 v_8 h_p2 r_v_1 (r_v_2.to (by decide)) r_v_8) (cwV 3 hts (gV tw_481 tw_482 tw_483 tw_12 tw_484) rfl rfl rfl (by decide +kernel) ⟨Nat.le_of_ble_eq_true rfl, Nat.le_of_ble_eq_true rfl⟩) (tg_preV hw hK hSD hA (ci := 8) (q := (RX8, TX8, 13)) rfl h_p2 rfl) rfl rfl hl.1 rfl (lv_room (Nat.le_of_ble_eq_true rfl)) dX3_readHas_77 ⟨Nat.le_of_ble_eq_true rfl, Nat.le_of_ble_eq_true rfl⟩) hw hA ⟨by decide, by decide⟩ (fun ws H locs hp_v_9 hw hF9 => ?_)
          subst hQ
          exact W.vret hx hb hr (fun t ht hW => ⟨⟨ws, rfl, ⟨trivial, hw.1, hw.2.2.2.2.1⟩, by rw [ht]; exact hw.2.1, va_K.moved hW.alike hK, hw.2.2.1⟩, hw.2.2.2.1.F ht⟩) hw.2.2.2.1.2.2 dX3_readHas_80
        · have r_v_6 : RI v_6 1 2147483647 := rc_lt2 rl_0 r_v_6 (ti_nle c_45) (by decide)
          refine lv_aload_n hx hb dX3_readHas_48 rfl (lv_at hl 4 rfl) ?_
          refine lv_iconst (v := 3) hx hb dX3_readHas_49 (by decide) ?_
          refine tk_v (va_runV (As := [.int 3]) (rest := []) ⟨hx, hb, hml, hown, hts⟩ (c_X7_refuse l D cy z H.size Ps ws hw.1 p1 3 h_p1 (rl_3.to (by decide))) (cwV 1 hts (gV tw_450 tw_443 tw_444 tw_2 tw_445) rfl rfl rfl (by decide +kernel) ⟨Nat.le_of_ble_eq_true rfl, Nat.le_of_ble_eq_true rfl⟩) (tg_preV hw hK hSD hA (ci := 7) (q := (RX7, TX7, 12)) rfl h_p1 rfl) rfl rfl hl.1 rfl (lv_room (Nat.le_of_ble_eq_true rfl)) dX3_readHas_50 ⟨Nat.le_of_ble_eq_true rfl, Nat.le_of_ble_eq_true rfl⟩) hw hA ⟨by decide, by decide⟩ (fun ws H locs hp_v_10 hw hF9 => ?_)
          obtain ⟨v_11, m_v_11, r_v_11⟩ := (hp_v_10.1)
          refine lv_aload_n hx hb dX3_readHas_53 rfl (lv_at hl 4 rfl) ?_
          refine tk_v (va_runV (As := []) (rest := []) ⟨hx, hb, hml, hown, hts⟩ (c_X7_pass l D cy z H.size Ps ws hw.1 p1 h_p1) (cwV 0 hts (gV tw_451 tw_425 tw_426 tw_2 tw_427) rfl rfl rfl (by decide +kernel) ⟨Nat.le_of_ble_eq_true rfl, Nat.le_of_ble_eq_true rfl⟩) (tg_preV hw hK hSD hA (ci := 7) (q := (RX7, TX7, 12)) rfl h_p1 rfl) rfl rfl hl.1 rfl (lv_room (Nat.le_of_ble_eq_true rfl)) dX3_readHas_54 ⟨Nat.le_of_ble_eq_true rfl, Nat.le_of_ble_eq_true rfl⟩) hw hA ⟨by decide, by decide⟩ (fun ws H locs hp_v_12 hw hF9 => ?_)
          have m_v_11 := FLD.over hF9 m_v_11 (by decide)
          refine lv_aload_n hx hb dX3_readHas_57 rfl (lv_at hl 4 rfl) ?_
          refine lv_iconst (v := 1) hx hb dX3_readHas_58 (by decide) ?_
          refine lv_bipush (v := 99) hx hb dX3_readHas_59 (by decide) ?_
          refine tk_i (va_runV (As := [.int 1, .int 99]) (rest := []) ⟨hx, hb, hml, hown, hts⟩ (c_X7_takeNumber l D cy z H.size Ps ws hw.1 p1 1 99 h_p1 (rl_1.to (by decide)) (rl_99.to (by decide))) (cwV 2 hts (gV tw_477 tw_478 tw_479 tw_2 tw_480) rfl rfl rfl (by decide +kernel) ⟨Nat.le_of_ble_eq_true rfl, Nat.le_of_ble_eq_true rfl⟩) (tg_preV hw hK hSD hA (ci := 7) (q := (RX7, TX7, 12)) rfl h_p1 rfl) rfl rfl hl.1 rfl (lv_room (Nat.le_of_ble_eq_true rfl)) dX3_readHas_61 ⟨Nat.le_of_ble_eq_true rfl, Nat.le_of_ble_eq_true rfl⟩) hw hA ⟨by decide, by decide⟩ (fun v_13 ws H locs hp_v_13 hw hF9 => ?_)
          have r_v_13 : RI v_13 (-2147483648) 2147483647 := hp_v_13.1
          refine lv_istore (lv' := [(6, .int v_13), (5, .int 1), (4, .int v_2), (3, .int v_1), (0, .ref p0), (1, .ref p1), (2, .ref p2)]) hx hb dX3_readHas_64 hl (by decide) rfl (fun ls hl => ?_)
          refine lv_iload hx hb dX3_readHas_66 (lv_at hl 1 rfl) ?_
          refine lv_if_eq (tgt := 80) hx hb dX3_readHas_68 (by decide) (fun c9 => absurd c9 (by decide)) (fun _ => ?_)
          refine lv_aload_n hx hb dX3_readHas_71 rfl (lv_at hl 6 rfl) ?_
          refine lv_iload_n hx hb dX3_readHas_72 rfl (lv_at hl 3 rfl) ?_
          refine lv_iload hx hb dX3_readHas_73 (lv_at hl 2 rfl) ?_
          refine lv_iload hx hb dX3_readHas_75 (lv_at hl 0 rfl) ?_
          refine tk_v (va_runV (As := [.int v_1, .int v_2, .int v_13]) (rest := []) ⟨hx, hb, hml, hown, hts⟩ (c_X8_put l D cy z H.size Ps ws hw.1 p2 v_1 v_2 v_13 h_p2 r_v_1 (r_v_2.to (by decide)) r_v_13) (cwV 3 hts (gV tw_481 tw_482 tw_483 tw_12 tw_484) rfl rfl rfl (by decide +kernel) ⟨Nat.le_of_ble_eq_true rfl, Nat.le_of_ble_eq_true rfl⟩) (tg_preV hw hK hSD hA (ci := 8) (q := (RX8, TX8, 13)) rfl h_p2 rfl) rfl rfl hl.1 rfl (lv_room (Nat.le_of_ble_eq_true rfl)) dX3_readHas_77 ⟨Nat.le_of_ble_eq_true rfl, Nat.le_of_ble_eq_true rfl⟩) hw hA ⟨by decide, by decide⟩ (fun ws H locs hp_v_14 hw hF9 => ?_)
          subst hQ
          exact W.vret hx hb hr (fun t ht hW => ⟨⟨ws, rfl, ⟨trivial, hw.1, hw.2.2.2.2.1⟩, by rw [ht]; exact hw.2.1, va_K.moved hW.alike hK, hw.2.2.1⟩, hw.2.2.2.1.F ht⟩) hw.2.2.2.1.2.2 dX3_readHas_80
  · refine lv_istore (lv' := [(4, .int v_2), (3, .int v_1), (0, .ref p0), (1, .ref p1), (2, .ref p2)]) hx hb dX3_readHas_13 hl (by decide) rfl (fun ls hl => ?_)
    refine lv_iload_n hx hb dX3_readHas_15 rfl (lv_at hl 1 rfl) ?_
    refine lv_iconst (v := (-1)) hx hb dX3_readHas_16 (by decide) ?_
    refine lv_icmp_eq (tgt := 30) hx hb dX3_readHas_17 (by decide) (fun c_17 => ?_) (fun c_17 => ?_)
    · have r_v_1 : RI v_1 (-1) (-1) := rc_eq1 r_v_1 rl_m1 (ti_eq c_17) (by decide)
      refine lv_iconst (v := 0) hx hb dX3_readHas_30 (by decide) ?_
      refine lv_istore (lv' := [(5, .int 0), (4, .int v_2), (3, .int v_1), (0, .ref p0), (1, .ref p1), (2, .ref p2)]) hx hb dX3_readHas_31 hl (by decide) rfl (fun ls hl => ?_)
      refine lv_iload hx hb dX3_readHas_33 (lv_at hl 0 rfl) ?_
      refine lv_if_eq (tgt := 53) hx hb dX3_readHas_35 (by decide) (fun _ => ?_) (fun c9 => absurd (by decide) c9)
      refine lv_aload_n hx hb dX3_readHas_53 rfl (lv_at hl 4 rfl) ?_
      refine tk_v (va_runV (As := []) (rest := []) ⟨hx, hb, hml, hown, hts⟩ (c_X7_pass l D cy z H.size Ps ws hw.1 p1 h_p1) (cwV 0 hts (gV tw_451 tw_425 tw_426 tw_2 tw_427) rfl rfl rfl (by decide +kernel) ⟨Nat.le_of_ble_eq_true rfl, Nat.le_of_ble_eq_true rfl⟩) (tg_preV hw hK hSD hA (ci := 7) (q := (RX7, TX7, 12)) rfl h_p1 rfl) rfl rfl hl.1 rfl (lv_room (Nat.le_of_ble_eq_true rfl)) dX3_readHas_54 ⟨Nat.le_of_ble_eq_true rfl, Nat.le_of_ble_eq_true rfl⟩) hw hA ⟨by decide, by decide⟩ (fun ws H locs hp_v_15 hw hF9 => ?_)
      refine lv_aload_n hx hb dX3_readHas_57 rfl (lv_at hl 4 rfl) ?_
      refine lv_iconst (v := 1) hx hb dX3_readHas_58 (by decide) ?_
      refine lv_bipush (v := 99) hx hb dX3_readHas_59 (by decide) ?_
      refine tk_i (va_runV (As := [.int 1, .int 99]) (rest := []) ⟨hx, hb, hml, hown, hts⟩ (c_X7_takeNumber l D cy z H.size Ps ws hw.1 p1 1 99 h_p1 (rl_1.to (by decide)) (rl_99.to (by decide))) (cwV 2 hts (gV tw_477 tw_478 tw_479 tw_2 tw_480) rfl rfl rfl (by decide +kernel) ⟨Nat.le_of_ble_eq_true rfl, Nat.le_of_ble_eq_true rfl⟩) (tg_preV hw hK hSD hA (ci := 7) (q := (RX7, TX7, 12)) rfl h_p1 rfl) rfl rfl hl.1 rfl (lv_room (Nat.le_of_ble_eq_true rfl)) dX3_readHas_61 ⟨Nat.le_of_ble_eq_true rfl, Nat.le_of_ble_eq_true rfl⟩) hw hA ⟨by decide, by decide⟩ (fun v_16 ws H locs hp_v_16 hw hF9 => ?_)
      have r_v_16 : RI v_16 (-2147483648) 2147483647 := hp_v_16.1
      refine lv_istore (lv' := [(6, .int v_16), (5, .int 0), (4, .int v_2), (3, .int v_1), (0, .ref p0), (1, .ref p1), (2, .ref p2)]) hx hb dX3_readHas_64 hl (by decide) rfl (fun ls hl => ?_)
      refine lv_iload hx hb dX3_readHas_66 (lv_at hl 1 rfl) ?_
      refine lv_if_eq (tgt := 80) hx hb dX3_readHas_68 (by decide) (fun _ => ?_) (fun c9 => absurd (by decide) c9)
      subst hQ
      exact W.vret hx hb hr (fun t ht hW => ⟨⟨ws, rfl, ⟨trivial, hw.1, hw.2.2.2.2.1⟩, by rw [ht]; exact hw.2.1, va_K.moved hW.alike hK, hw.2.2.1⟩, hw.2.2.2.1.F ht⟩) hw.2.2.2.1.2.2 dX3_readHas_80
    · have r_v_1 : RI v_1 0 5 := rc_neL r_v_1 rl_m1 (ti_ne c_17) (by decide)
      refine lv_iload hx hb dX3_readHas_20 (lv_at hl 0 rfl) ?_
      refine lv_iconst (v := (-1)) hx hb dX3_readHas_22 (by decide) ?_
      refine lv_icmp_eq (tgt := 30) hx hb dX3_readHas_23 (by decide) (fun c_23 => ?_) (fun c_23 => ?_)
      · have r_v_2 : RI v_2 (-1) (-1) := rc_eq1 r_v_2 rl_m1 (ti_eq c_23) (by decide)
        refine lv_iconst (v := 0) hx hb dX3_readHas_30 (by decide) ?_
        refine lv_istore (lv' := [(5, .int 0), (4, .int v_2), (3, .int v_1), (0, .ref p0), (1, .ref p1), (2, .ref p2)]) hx hb dX3_readHas_31 hl (by decide) rfl (fun ls hl => ?_)
        refine lv_iload hx hb dX3_readHas_33 (lv_at hl 0 rfl) ?_
        refine lv_if_eq (tgt := 53) hx hb dX3_readHas_35 (by decide) (fun _ => ?_) (fun c9 => absurd (by decide) c9)
        refine lv_aload_n hx hb dX3_readHas_53 rfl (lv_at hl 4 rfl) ?_
        refine tk_v (va_runV (As := []) (rest := []) ⟨hx, hb, hml, hown, hts⟩ (c_X7_pass l D cy z H.size Ps ws hw.1 p1 h_p1) (cwV 0 hts (gV tw_451 tw_425 tw_426 tw_2 tw_427) rfl rfl rfl (by decide +kernel) ⟨Nat.le_of_ble_eq_true rfl, Nat.le_of_ble_eq_true rfl⟩) (tg_preV hw hK hSD hA (ci := 7) (q := (RX7, TX7, 12)) rfl h_p1 rfl) rfl rfl hl.1 rfl (lv_room (Nat.le_of_ble_eq_true rfl)) dX3_readHas_54 ⟨Nat.le_of_ble_eq_true rfl, Nat.le_of_ble_eq_true rfl⟩) hw hA ⟨by decide, by decide⟩ (fun ws H locs hp_v_17 hw hF9 => ?_)
        refine lv_aload_n hx hb dX3_readHas_57 rfl (lv_at hl 4 rfl) ?_
        refine lv_iconst (v := 1) hx hb dX3_readHas_58 (by decide) ?_
        refine lv_bipush (v := 99) hx hb dX3_readHas_59 (by decide) ?_
        refine tk_i (va_runV (As := [.int 1, .int 99]) (rest := []) ⟨hx, hb, hml, hown, hts⟩ (c_X7_takeNumber l D cy z H.size Ps ws hw.1 p1 1 99 h_p1 (rl_1.to (by decide)) (rl_99.to (by decide))) (cwV 2 hts (gV tw_477 tw_478 tw_479 tw_2 tw_480) rfl rfl rfl (by decide +kernel) ⟨Nat.le_of_ble_eq_true rfl, Nat.le_of_ble_eq_true rfl⟩) (tg_preV hw hK hSD hA (ci := 7) (q := (RX7, TX7, 12)) rfl h_p1 rfl) rfl rfl hl.1 rfl (lv_room (Nat.le_of_ble_eq_true rfl)) dX3_readHas_61 ⟨Nat.le_of_ble_eq_true rfl, Nat.le_of_ble_eq_true rfl⟩) hw hA ⟨by decide, by decide⟩ (fun v_18 ws H locs hp_v_18 hw hF9 => ?_)
        have r_v_18 : RI v_18 (-2147483648) 2147483647 := hp_v_18.1
        refine lv_istore (lv' := [(6, .int v_18), (5, .int 0), (4, .int v_2), (3, .int v_1), (0, .ref p0), (1, .ref p1), (2, .ref p2)]) hx hb dX3_readHas_64 hl (by decide) rfl (fun ls hl => ?_)
        refine lv_iload hx hb dX3_readHas_66 (lv_at hl 1 rfl) ?_
        refine lv_if_eq (tgt := 80) hx hb dX3_readHas_68 (by decide) (fun _ => ?_) (fun c9 => absurd (by decide) c9)
        subst hQ
        exact W.vret hx hb hr (fun t ht hW => ⟨⟨ws, rfl, ⟨trivial, hw.1, hw.2.2.2.2.1⟩, by rw [ht]; exact hw.2.1, va_K.moved hW.alike hK, hw.2.2.1⟩, hw.2.2.2.1.F ht⟩) hw.2.2.2.1.2.2 dX3_readHas_80
      · have r_v_2 : RI v_2 0 5 := rc_neL r_v_2 rl_m1 (ti_ne c_23) (by decide)
        refine lv_iconst (v := 1) hx hb dX3_readHas_26 (by decide) ?_
        refine lv_goto (tgt := 31) hx hb dX3_readHas_27 (by decide) ?_
        refine lv_istore (lv' := [(5, .int 1), (4, .int v_2), (3, .int v_1), (0, .ref p0), (1, .ref p1), (2, .ref p2)]) hx hb dX3_readHas_31 hl (by decide) rfl (fun ls hl => ?_)
        refine lv_iload hx hb dX3_readHas_33 (lv_at hl 0 rfl) ?_
        refine lv_if_eq (tgt := 53) hx hb dX3_readHas_35 (by decide) (fun c9 => absurd c9 (by decide)) (fun _ => ?_)
        refine lv_aload_n hx hb dX3_readHas_38 rfl (lv_at hl 5 rfl) ?_
        refine lv_iload_n hx hb dX3_readHas_39 rfl (lv_at hl 2 rfl) ?_
        refine lv_iload hx hb dX3_readHas_40 (lv_at hl 1 rfl) ?_
        refine tk_ir (va_runV (As := [.int v_1, .int v_2]) (rest := []) ⟨hx, hb, hml, hown, hts⟩ (c_X8_has l D cy z H.size Ps ws hw.1 p2 v_1 v_2 h_p2 r_v_1 r_v_2) (cwV 2 hts (gV tw_473 tw_474 tw_475 tw_12 tw_476) rfl rfl rfl (by decide +kernel) ⟨Nat.le_of_ble_eq_true rfl, Nat.le_of_ble_eq_true rfl⟩) (tg_preV hw hK hSD hA (ci := 8) (q := (RX8, TX8, 13)) rfl h_p2 rfl) rfl rfl hl.1 rfl (lv_room (Nat.le_of_ble_eq_true rfl)) dX3_readHas_42 ⟨Nat.le_of_ble_eq_true rfl, Nat.le_of_ble_eq_true rfl⟩) hw hA (fun v_19  H locs hp_v_19 hw => ?_)
        have r_v_19 : RI v_19 (-2147483648) 2147483647 := hp_v_19.1
        refine lv_if_le (tgt := 53) hx hb dX3_readHas_45 (by decide) (fun c_45 => ?_) (fun c_45 => ?_)
        · have r_v_19 : RI v_19 (-2147483648) 0 := rc_le1 r_v_19 rl_0 (ti_le c_45) (by decide)
          refine lv_aload_n hx hb dX3_readHas_53 rfl (lv_at hl 4 rfl) ?_
          refine tk_v (va_runV (As := []) (rest := []) ⟨hx, hb, hml, hown, hts⟩ (c_X7_pass l D cy z H.size Ps ws hw.1 p1 h_p1) (cwV 0 hts (gV tw_451 tw_425 tw_426 tw_2 tw_427) rfl rfl rfl (by decide +kernel) ⟨Nat.le_of_ble_eq_true rfl, Nat.le_of_ble_eq_true rfl⟩) (tg_preV hw hK hSD hA (ci := 7) (q := (RX7, TX7, 12)) rfl h_p1 rfl) rfl rfl hl.1 rfl (lv_room (Nat.le_of_ble_eq_true rfl)) dX3_readHas_54 ⟨Nat.le_of_ble_eq_true rfl, Nat.le_of_ble_eq_true rfl⟩) hw hA ⟨by decide, by decide⟩ (fun ws H locs hp_v_20 hw hF9 => ?_)
          refine lv_aload_n hx hb dX3_readHas_57 rfl (lv_at hl 4 rfl) ?_
          refine lv_iconst (v := 1) hx hb dX3_readHas_58 (by decide) ?_
          refine lv_bipush (v := 99) hx hb dX3_readHas_59 (by decide) ?_
          refine tk_i (va_runV (As := [.int 1, .int 99]) (rest := []) ⟨hx, hb, hml, hown, hts⟩ (c_X7_takeNumber l D cy z H.size Ps ws hw.1 p1 1 99 h_p1 (rl_1.to (by decide)) (rl_99.to (by decide))) (cwV 2 hts (gV tw_477 tw_478 tw_479 tw_2 tw_480) rfl rfl rfl (by decide +kernel) ⟨Nat.le_of_ble_eq_true rfl, Nat.le_of_ble_eq_true rfl⟩) (tg_preV hw hK hSD hA (ci := 7) (q := (RX7, TX7, 12)) rfl h_p1 rfl) rfl rfl hl.1 rfl (lv_room (Nat.le_of_ble_eq_true rfl)) dX3_readHas_61 ⟨Nat.le_of_ble_eq_true rfl, Nat.le_of_ble_eq_true rfl⟩) hw hA ⟨by decide, by decide⟩ (fun v_21 ws H locs hp_v_21 hw hF9 => ?_)
          have r_v_21 : RI v_21 (-2147483648) 2147483647 := hp_v_21.1
          refine lv_istore (lv' := [(6, .int v_21), (5, .int 1), (4, .int v_2), (3, .int v_1), (0, .ref p0), (1, .ref p1), (2, .ref p2)]) hx hb dX3_readHas_64 hl (by decide) rfl (fun ls hl => ?_)
          refine lv_iload hx hb dX3_readHas_66 (lv_at hl 1 rfl) ?_
          refine lv_if_eq (tgt := 80) hx hb dX3_readHas_68 (by decide) (fun c9 => absurd c9 (by decide)) (fun _ => ?_)
          refine lv_aload_n hx hb dX3_readHas_71 rfl (lv_at hl 6 rfl) ?_
          refine lv_iload_n hx hb dX3_readHas_72 rfl (lv_at hl 3 rfl) ?_
          refine lv_iload hx hb dX3_readHas_73 (lv_at hl 2 rfl) ?_
          refine lv_iload hx hb dX3_readHas_75 (lv_at hl 0 rfl) ?_
          refine tk_v (va_runV (As := [.int v_1, .int v_2, .int v_21]) (rest := []) ⟨hx, hb, hml, hown, hts⟩ (c_X8_put l D cy z H.size Ps ws hw.1 p2 v_1 v_2 v_21 h_p2 r_v_1 r_v_2 r_v_21) (cwV 3 hts (gV tw_481 tw_482 tw_483 tw_12 tw_484) rfl rfl rfl (by decide +kernel) ⟨Nat.le_of_ble_eq_true rfl, Nat.le_of_ble_eq_true rfl⟩) (tg_preV hw hK hSD hA (ci := 8) (q := (RX8, TX8, 13)) rfl h_p2 rfl) rfl rfl hl.1 rfl (lv_room (Nat.le_of_ble_eq_true rfl)) dX3_readHas_77 ⟨Nat.le_of_ble_eq_true rfl, Nat.le_of_ble_eq_true rfl⟩) hw hA ⟨by decide, by decide⟩ (fun ws H locs hp_v_22 hw hF9 => ?_)
          subst hQ
          exact W.vret hx hb hr (fun t ht hW => ⟨⟨ws, rfl, ⟨trivial, hw.1, hw.2.2.2.2.1⟩, by rw [ht]; exact hw.2.1, va_K.moved hW.alike hK, hw.2.2.1⟩, hw.2.2.2.1.F ht⟩) hw.2.2.2.1.2.2 dX3_readHas_80
        · have r_v_19 : RI v_19 1 2147483647 := rc_lt2 rl_0 r_v_19 (ti_nle c_45) (by decide)
          refine lv_aload_n hx hb dX3_readHas_48 rfl (lv_at hl 4 rfl) ?_
          refine lv_iconst (v := 3) hx hb dX3_readHas_49 (by decide) ?_
          refine tk_v (va_runV (As := [.int 3]) (rest := []) ⟨hx, hb, hml, hown, hts⟩ (c_X7_refuse l D cy z H.size Ps ws hw.1 p1 3 h_p1 (rl_3.to (by decide))) (cwV 1 hts (gV tw_450 tw_443 tw_444 tw_2 tw_445) rfl rfl rfl (by decide +kernel) ⟨Nat.le_of_ble_eq_true rfl, Nat.le_of_ble_eq_true rfl⟩) (tg_preV hw hK hSD hA (ci := 7) (q := (RX7, TX7, 12)) rfl h_p1 rfl) rfl rfl hl.1 rfl (lv_room (Nat.le_of_ble_eq_true rfl)) dX3_readHas_50 ⟨Nat.le_of_ble_eq_true rfl, Nat.le_of_ble_eq_true rfl⟩) hw hA ⟨by decide, by decide⟩ (fun ws H locs hp_v_23 hw hF9 => ?_)
          obtain ⟨v_24, m_v_24, r_v_24⟩ := (hp_v_23.1)
          refine lv_aload_n hx hb dX3_readHas_53 rfl (lv_at hl 4 rfl) ?_
          refine tk_v (va_runV (As := []) (rest := []) ⟨hx, hb, hml, hown, hts⟩ (c_X7_pass l D cy z H.size Ps ws hw.1 p1 h_p1) (cwV 0 hts (gV tw_451 tw_425 tw_426 tw_2 tw_427) rfl rfl rfl (by decide +kernel) ⟨Nat.le_of_ble_eq_true rfl, Nat.le_of_ble_eq_true rfl⟩) (tg_preV hw hK hSD hA (ci := 7) (q := (RX7, TX7, 12)) rfl h_p1 rfl) rfl rfl hl.1 rfl (lv_room (Nat.le_of_ble_eq_true rfl)) dX3_readHas_54 ⟨Nat.le_of_ble_eq_true rfl, Nat.le_of_ble_eq_true rfl⟩) hw hA ⟨by decide, by decide⟩ (fun ws H locs hp_v_25 hw hF9 => ?_)
          have m_v_24 := FLD.over hF9 m_v_24 (by decide)
          refine lv_aload_n hx hb dX3_readHas_57 rfl (lv_at hl 4 rfl) ?_
          refine lv_iconst (v := 1) hx hb dX3_readHas_58 (by decide) ?_
          refine lv_bipush (v := 99) hx hb dX3_readHas_59 (by decide) ?_
          refine tk_i (va_runV (As := [.int 1, .int 99]) (rest := []) ⟨hx, hb, hml, hown, hts⟩ (c_X7_takeNumber l D cy z H.size Ps ws hw.1 p1 1 99 h_p1 (rl_1.to (by decide)) (rl_99.to (by decide))) (cwV 2 hts (gV tw_477 tw_478 tw_479 tw_2 tw_480) rfl rfl rfl (by decide +kernel) ⟨Nat.le_of_ble_eq_true rfl, Nat.le_of_ble_eq_true rfl⟩) (tg_preV hw hK hSD hA (ci := 7) (q := (RX7, TX7, 12)) rfl h_p1 rfl) rfl rfl hl.1 rfl (lv_room (Nat.le_of_ble_eq_true rfl)) dX3_readHas_61 ⟨Nat.le_of_ble_eq_true rfl, Nat.le_of_ble_eq_true rfl⟩) hw hA ⟨by decide, by decide⟩ (fun v_26 ws H locs hp_v_26 hw hF9 => ?_)
          have r_v_26 : RI v_26 (-2147483648) 2147483647 := hp_v_26.1
          refine lv_istore (lv' := [(6, .int v_26), (5, .int 1), (4, .int v_2), (3, .int v_1), (0, .ref p0), (1, .ref p1), (2, .ref p2)]) hx hb dX3_readHas_64 hl (by decide) rfl (fun ls hl => ?_)
          refine lv_iload hx hb dX3_readHas_66 (lv_at hl 1 rfl) ?_
          refine lv_if_eq (tgt := 80) hx hb dX3_readHas_68 (by decide) (fun c9 => absurd c9 (by decide)) (fun _ => ?_)
          refine lv_aload_n hx hb dX3_readHas_71 rfl (lv_at hl 6 rfl) ?_
          refine lv_iload_n hx hb dX3_readHas_72 rfl (lv_at hl 3 rfl) ?_
          refine lv_iload hx hb dX3_readHas_73 (lv_at hl 2 rfl) ?_
          refine lv_iload hx hb dX3_readHas_75 (lv_at hl 0 rfl) ?_
          refine tk_v (va_runV (As := [.int v_1, .int v_2, .int v_26]) (rest := []) ⟨hx, hb, hml, hown, hts⟩ (c_X8_put l D cy z H.size Ps ws hw.1 p2 v_1 v_2 v_26 h_p2 r_v_1 r_v_2 r_v_26) (cwV 3 hts (gV tw_481 tw_482 tw_483 tw_12 tw_484) rfl rfl rfl (by decide +kernel) ⟨Nat.le_of_ble_eq_true rfl, Nat.le_of_ble_eq_true rfl⟩) (tg_preV hw hK hSD hA (ci := 8) (q := (RX8, TX8, 13)) rfl h_p2 rfl) rfl rfl hl.1 rfl (lv_room (Nat.le_of_ble_eq_true rfl)) dX3_readHas_77 ⟨Nat.le_of_ble_eq_true rfl, Nat.le_of_ble_eq_true rfl⟩) hw hA ⟨by decide, by decide⟩ (fun ws H locs hp_v_27 hw hF9 => ?_)
          subst hQ
          exact W.vret hx hb hr (fun t ht hW => ⟨⟨ws, rfl, ⟨trivial, hw.1, hw.2.2.2.2.1⟩, by rw [ht]; exact hw.2.1, va_K.moved hW.alike hK, hw.2.2.1⟩, hw.2.2.2.1.F ht⟩) hw.2.2.2.1.2.2 dX3_readHas_80
abbrev wr_X3_readQuarrel : List (Nat × Nat) := [(7, 5), (7, 6), (7, 7), (7, 8), (7, 9), (7, 10), (7, 11)]
abbrev wa_X3_readQuarrel : List Nat := [6]
set_option maxHeartbeats 4000000 in
set_option maxRecDepth 100000 in
theorem c_X3_readQuarrel (l : Launch) (D : va_G) (cy : Nat → ClassId) (z : Nat → Nat) (sz : Nat) (Ps : PSI) (w0 : va_W) (hT : HT cy GG Ps w0) (p0 : Nat) (p1 : Nat) (h_p0 : (p0, 25) ∈ Ps) (h_p1 : (p1, 26) ∈ Ps) : Met l yX3_readQuarrel (Cond.code yX3_readQuarrel cX3_readQuarrel 5 none :: gT) ({ frames := 4, cells := 0, slots := 0, locals := 800 } : Room) (va_Pc [.ref p0, .ref p1] (PRE D cy z w0 sz)) (va_Qv (fun (u : va_W) => (True) ∧ HT cy GG Ps u ∧ FR wr_X3_readQuarrel wa_X3_readQuarrel Ps w0 u) (BB D cy (va_A w0 sz) (fun (u : va_W) => u)) (va_A w0 sz)) 0 0 (va_A w0 sz) := by
  refine Met.ofW (cc := cX3_readQuarrel) (maxL := 5) (ret := none) (by decide) rfl ?_
  intro p e s m args below meth c s₁ B hml hv
  obtain ⟨rfl, hsz, hP, hK, hD0, hSD⟩ := hv
  have hx := B.exec
  have hb := B.bytes
  have hr := B.returns
  have hlocks := B.notSynchronized
  have hts : ∀ w ∈ gT, w.before _ s = true := fun w h => atoms_spec (ws := Cond.code yX3_readQuarrel cX3_readQuarrel 5 none :: gT) B.pre w (List.mem_cons_of_mem _ h)
  have hown : s.vm.findClass RX3 = some m.cls := findClass_of_methodNamed B.named
  subst hsz
  have hD := hD0.self (sz := s.heap.size)
  generalize hAe : va_A w0 s.heap.size = A at hD hSD ⊢
  have hA : ∀ q : Nat, s.heap.size ≤ q → A q := fun q h => by rw [← hAe]; exact Or.inr h
  have hl := lv_entry ([.ref p0, .ref p1]) (n := 5) (Nat.le_of_ble_eq_true rfl)
  rw [lg_entry_eq]
  generalize (lg_sl ([.ref p0, .ref p1]) ++ List.replicate (5 - (lg_sl ([.ref p0, .ref p1])).length) Slot.unset).toArray = ls at hl ⊢
  have hl : lv_has ls 5 [(0, .ref p0), (1, .ref p1)] := hl
  refine nameQ (fun Q hQ => ?_)
  have hw : WD D cy GG A s wr_X3_readQuarrel wa_X3_readQuarrel Ps w0 Ps w0 s.heap [] := ⟨hT, hP, hD, va_S.rf, FR.rf, hT.1, [], (List.append_nil _).symm⟩
  refine lv_aload_n hx hb dX3_readQuarrel_0 rfl (lv_at hl 1 rfl) ?_
  refine lv_aload_n hx hb dX3_readQuarrel_1 rfl (lv_at hl 0 rfl) ?_
  refine lv_iconst (v := 0) hx hb dX3_readQuarrel_2 (by decide) ?_
  refine tk_i (va_runV (As := [.ref p0, .int 0]) (rest := []) ⟨hx, hb, hml, hown, hts⟩ (c_X7_takeName l D cy z s.heap.size Ps w0 hw.1 p1 p0 0 h_p1 h_p0 rl_0) (cwV 2 hts (gV tw_464 tw_465 tw_466 tw_2 tw_467) rfl rfl rfl (by decide +kernel) ⟨Nat.le_of_ble_eq_true rfl, Nat.le_of_ble_eq_true rfl⟩) (tg_preV hw hK hSD hA (ci := 7) (q := (RX7, TX7, 12)) rfl h_p1 rfl) rfl rfl hl.1 rfl (lv_room (Nat.le_of_ble_eq_true rfl)) dX3_readQuarrel_3 ⟨Nat.le_of_ble_eq_true rfl, Nat.le_of_ble_eq_true rfl⟩) hw hA ⟨by decide, by decide⟩ (fun v_1 ws H locs hp_v_1 hw hF9 => ?_)
  have r_v_1 : RI v_1 (-1) 5 := hp_v_1.1
  refine lv_istore_n (lv' := [(2, .int v_1), (0, .ref p0), (1, .ref p1)]) hx hb dX3_readQuarrel_6 rfl hl (by decide) rfl (fun ls hl => ?_)
  refine lv_aload_n hx hb dX3_readQuarrel_7 rfl (lv_at hl 2 rfl) ?_
  refine lv_aload_n hx hb dX3_readQuarrel_8 rfl (lv_at hl 1 rfl) ?_
  refine lv_iconst (v := 0) hx hb dX3_readQuarrel_9 (by decide) ?_
  refine tk_i (va_runV (As := [.ref p0, .int 0]) (rest := []) ⟨hx, hb, hml, hown, hts⟩ (c_X7_nameAhead l D cy z H.size Ps ws hw.1 p1 p0 0 h_p1 h_p0 rl_0) (cwV 2 hts (gV tw_456 tw_457 tw_458 tw_2 tw_459) rfl rfl rfl (by decide +kernel) ⟨Nat.le_of_ble_eq_true rfl, Nat.le_of_ble_eq_true rfl⟩) (tg_preV hw hK hSD hA (ci := 7) (q := (RX7, TX7, 12)) rfl h_p1 rfl) rfl rfl hl.1 rfl (lv_room (Nat.le_of_ble_eq_true rfl)) dX3_readQuarrel_10 ⟨Nat.le_of_ble_eq_true rfl, Nat.le_of_ble_eq_true rfl⟩) hw hA ⟨by decide, by decide⟩ (fun v_2 ws H locs hp_v_2 hw hF9 => ?_)
  have r_v_2 : RI v_2 (-1) 5 := hp_v_2.1
  by_cases c9_v_2 : v_2 = 0
  · have r_v_2 : RI v_2 0 0 := by rw [c9_v_2]; exact rl_0
    obtain ⟨v_3, m_v_3, r_v_3⟩ := ((hp_v_2.2.1 c9_v_2).1)
    refine lv_istore_n (lv' := [(3, .int v_2), (2, .int v_1), (0, .ref p0), (1, .ref p1)]) hx hb dX3_readQuarrel_13 rfl hl (by decide) rfl (fun ls hl => ?_)
    refine lv_iload_n hx hb dX3_readQuarrel_14 rfl (lv_at hl 1 rfl) ?_
    refine lv_iconst (v := (-1)) hx hb dX3_readQuarrel_15 (by decide) ?_
    refine lv_icmp_eq (tgt := 28) hx hb dX3_readQuarrel_16 (by decide) (fun c_16 => ?_) (fun c_16 => ?_)
    · have r_v_1 : RI v_1 (-1) (-1) := rc_eq1 r_v_1 rl_m1 (ti_eq c_16) (by decide)
      refine lv_iconst (v := 0) hx hb dX3_readQuarrel_28 (by decide) ?_
      refine lv_istore (lv' := [(4, .int 0), (3, .int v_2), (2, .int v_1), (0, .ref p0), (1, .ref p1)]) hx hb dX3_readQuarrel_29 hl (by decide) rfl (fun ls hl => ?_)
      refine lv_iload hx hb dX3_readQuarrel_31 (lv_at hl 0 rfl) ?_
      refine lv_if_eq (tgt := 55) hx hb dX3_readQuarrel_33 (by decide) (fun _ => ?_) (fun c9 => absurd (by decide) c9)
      refine lv_aload_n hx hb dX3_readQuarrel_55 rfl (lv_at hl 4 rfl) ?_
      refine tk_v (va_runV (As := []) (rest := []) ⟨hx, hb, hml, hown, hts⟩ (c_X7_pass l D cy z H.size Ps ws hw.1 p1 h_p1) (cwV 0 hts (gV tw_451 tw_425 tw_426 tw_2 tw_427) rfl rfl rfl (by decide +kernel) ⟨Nat.le_of_ble_eq_true rfl, Nat.le_of_ble_eq_true rfl⟩) (tg_preV hw hK hSD hA (ci := 7) (q := (RX7, TX7, 12)) rfl h_p1 rfl) rfl rfl hl.1 rfl (lv_room (Nat.le_of_ble_eq_true rfl)) dX3_readQuarrel_56 ⟨Nat.le_of_ble_eq_true rfl, Nat.le_of_ble_eq_true rfl⟩) hw hA ⟨by decide, by decide⟩ (fun ws H locs hp_v_4 hw hF9 => ?_)
      have m_v_3 := FLD.over hF9 m_v_3 (by decide)
      refine lv_iload hx hb dX3_readQuarrel_59 (lv_at hl 0 rfl) ?_
      refine lv_if_eq (tgt := 88) hx hb dX3_readQuarrel_61 (by decide) (fun _ => ?_) (fun c9 => absurd (by decide) c9)
      subst hQ
      exact W.vret hx hb hr (fun t ht hW => ⟨⟨ws, rfl, ⟨trivial, hw.1, hw.2.2.2.2.1⟩, by rw [ht]; exact hw.2.1, va_K.moved hW.alike hK, hw.2.2.1⟩, hw.2.2.2.1.F ht⟩) hw.2.2.2.1.2.2 dX3_readQuarrel_88
    · have r_v_1 : RI v_1 0 5 := rc_neL r_v_1 rl_m1 (ti_ne c_16) (by decide)
      refine lv_iload_n hx hb dX3_readQuarrel_19 rfl (lv_at hl 0 rfl) ?_
      refine lv_iconst (v := (-1)) hx hb dX3_readQuarrel_20 (by decide) ?_
      refine lv_icmp_eq (tgt := 28) hx hb dX3_readQuarrel_21 (by decide) (fun c_21 => ?_) (fun c_21 => ?_)
      · have r_v_2 : RI v_2 0 (-1) := rc_eq1 r_v_2 rl_m1 (ti_eq c_21) (by decide)
        exact (r_v_2.no (by decide)).elim
      · refine lv_iconst (v := 1) hx hb dX3_readQuarrel_24 (by decide) ?_
        refine lv_goto (tgt := 29) hx hb dX3_readQuarrel_25 (by decide) ?_
        refine lv_istore (lv' := [(4, .int 1), (3, .int v_2), (2, .int v_1), (0, .ref p0), (1, .ref p1)]) hx hb dX3_readQuarrel_29 hl (by decide) rfl (fun ls hl => ?_)
        refine lv_iload hx hb dX3_readQuarrel_31 (lv_at hl 0 rfl) ?_
        refine lv_if_eq (tgt := 55) hx hb dX3_readQuarrel_33 (by decide) (fun c9 => absurd c9 (by decide)) (fun _ => ?_)
        refine lv_iload_n hx hb dX3_readQuarrel_36 rfl (lv_at hl 2 rfl) ?_
        refine lv_iload_n hx hb dX3_readQuarrel_37 rfl (lv_at hl 1 rfl) ?_
        refine lv_icmp_eq (tgt := 50) hx hb dX3_readQuarrel_38 (by decide) (fun c_38 => ?_) (fun c_38 => ?_)
        · have r_v_1 : RI v_1 0 0 := rc_eq1 r_v_1 r_v_2 (ti_eq c_38) (by decide)
          refine lv_aload_n hx hb dX3_readQuarrel_50 rfl (lv_at hl 4 rfl) ?_
          refine lv_iconst (v := 3) hx hb dX3_readQuarrel_51 (by decide) ?_
          refine tk_v (va_runV (As := [.int 3]) (rest := []) ⟨hx, hb, hml, hown, hts⟩ (c_X7_refuse l D cy z H.size Ps ws hw.1 p1 3 h_p1 (rl_3.to (by decide))) (cwV 1 hts (gV tw_450 tw_443 tw_444 tw_2 tw_445) rfl rfl rfl (by decide +kernel) ⟨Nat.le_of_ble_eq_true rfl, Nat.le_of_ble_eq_true rfl⟩) (tg_preV hw hK hSD hA (ci := 7) (q := (RX7, TX7, 12)) rfl h_p1 rfl) rfl rfl hl.1 rfl (lv_room (Nat.le_of_ble_eq_true rfl)) dX3_readQuarrel_52 ⟨Nat.le_of_ble_eq_true rfl, Nat.le_of_ble_eq_true rfl⟩) hw hA ⟨by decide, by decide⟩ (fun ws H locs hp_v_5 hw hF9 => ?_)
          obtain ⟨v_6, m_v_6, r_v_6⟩ := (hp_v_5.1)
          refine lv_aload_n hx hb dX3_readQuarrel_55 rfl (lv_at hl 4 rfl) ?_
          refine tk_v (va_runV (As := []) (rest := []) ⟨hx, hb, hml, hown, hts⟩ (c_X7_pass l D cy z H.size Ps ws hw.1 p1 h_p1) (cwV 0 hts (gV tw_451 tw_425 tw_426 tw_2 tw_427) rfl rfl rfl (by decide +kernel) ⟨Nat.le_of_ble_eq_true rfl, Nat.le_of_ble_eq_true rfl⟩) (tg_preV hw hK hSD hA (ci := 7) (q := (RX7, TX7, 12)) rfl h_p1 rfl) rfl rfl hl.1 rfl (lv_room (Nat.le_of_ble_eq_true rfl)) dX3_readQuarrel_56 ⟨Nat.le_of_ble_eq_true rfl, Nat.le_of_ble_eq_true rfl⟩) hw hA ⟨by decide, by decide⟩ (fun ws H locs hp_v_7 hw hF9 => ?_)
          have m_v_6 := FLD.over hF9 m_v_6 (by decide)
          refine lv_iload hx hb dX3_readQuarrel_59 (lv_at hl 0 rfl) ?_
          refine lv_if_eq (tgt := 88) hx hb dX3_readQuarrel_61 (by decide) (fun c9 => absurd c9 (by decide)) (fun _ => ?_)
          refine lv_aload_n hx hb dX3_readQuarrel_64 rfl (lv_at hl 3 rfl) ?_
          refine tg_get (ci := 3) (ts := ty_POST) (C := RX3) (T := TX3) (N := 9) hx hb hts inX3 hown hK hw h_p0 rfl rfl 3 (by decide) (hts _ tw_208) (fun _ h9 => h9) (ft := vR 6) rfl dX3_readQuarrel_65 (fun u_8 hv_u_8 m_u_8 => ?_)
          obtain ⟨vu_8, rfl, h_vu_8⟩ := hv_u_8
          refine lv_iload_n hx hb dX3_readQuarrel_68 rfl (lv_at hl 2 rfl) ?_
          refine lv_dup2_11 hx hb dX3_readQuarrel_69 rfl rfl ?_
          refine tg_iald (lo := (-2147483648)) (hi := 2147483647) hx hb hK hw h_vu_8 rfl 0 0 r_v_1 (by decide) (by exact fun _ _ _ => ⟨Int.le_refl _, Int.le_refl _⟩) dX3_readQuarrel_70 (fun v_9 r_v_9 m_v_9 o_v_9 => ?_)
          refine lv_iconst (v := 1) hx hb dX3_readQuarrel_71 (by decide) ?_
          refine lv_iload_n hx hb dX3_readQuarrel_72 rfl (lv_at hl 1 rfl) ?_
          refine lv_ishl hx hb dX3_readQuarrel_73 (lv_topi (fun v_10 e_v_10 => ?_))
          have r_v_10 : RI v_10 1 256 := by rw [e_v_10]; exact ri_shl1 (r_v_2.to (c := 0) (d := 0) (by decide)) (by decide)
          refine lv_ior hx hb dX3_readQuarrel_74 (lv_topi (fun v_11 e_v_11 => ?_))
          have r_v_11 := ri_any v_11
          refine tg_iast hx hb hK hw h_vu_8 rfl 0 0 r_v_1 (by decide) r_v_11 (by exact fun _ _ _ => by decide) (fun _ _ _ _ _ => trivial) (by decide) dX3_readQuarrel_75 (fun ws H locs hw hF9 hU9 => ?_)
          have m_v_6 := FLD.over hF9 m_v_6 (by decide)
          refine lv_aload_n hx hb dX3_readQuarrel_76 rfl (lv_at hl 3 rfl) ?_
          refine tg_get (ci := 3) (ts := ty_POST) (C := RX3) (T := TX3) (N := 9) hx hb hts inX3 hown hK hw h_p0 rfl rfl 3 (by decide) (hts _ tw_208) (fun _ h9 => h9) (ft := vR 6) rfl dX3_readQuarrel_77 (fun u_12 hv_u_12 m_u_12 => ?_)
          obtain ⟨vu_12, rfl, h_vu_12⟩ := hv_u_12
          refine lv_iload_n hx hb dX3_readQuarrel_80 rfl (lv_at hl 1 rfl) ?_
          refine lv_dup2_11 hx hb dX3_readQuarrel_81 rfl rfl ?_
          refine tg_iald (lo := (-2147483648)) (hi := 2147483647) hx hb hK hw h_vu_12 rfl 0 0 r_v_2 (by decide) (by exact fun _ _ _ => ⟨Int.le_refl _, Int.le_refl _⟩) dX3_readQuarrel_82 (fun v_13 r_v_13 m_v_13 o_v_13 => ?_)
          refine lv_iconst (v := 1) hx hb dX3_readQuarrel_83 (by decide) ?_
          refine lv_iload_n hx hb dX3_readQuarrel_84 rfl (lv_at hl 2 rfl) ?_
          refine lv_ishl hx hb dX3_readQuarrel_85 (lv_topi (fun v_14 e_v_14 => ?_))
          have r_v_14 : RI v_14 1 256 := by rw [e_v_14]; exact ri_shl1 (r_v_1.to (c := 0) (d := 0) (by decide)) (by decide)
          refine lv_ior hx hb dX3_readQuarrel_86 (lv_topi (fun v_15 e_v_15 => ?_))
          have r_v_15 := ri_any v_15
          refine tg_iast hx hb hK hw h_vu_12 rfl 0 0 r_v_2 (by decide) r_v_15 (by exact fun _ _ _ => by decide) (fun _ _ _ _ _ => trivial) (by decide) dX3_readQuarrel_87 (fun ws H locs hw hF9 hU9 => ?_)
          have m_v_6 := FLD.over hF9 m_v_6 (by decide)
          subst hQ
          exact W.vret hx hb hr (fun t ht hW => ⟨⟨ws, rfl, ⟨trivial, hw.1, hw.2.2.2.2.1⟩, by rw [ht]; exact hw.2.1, va_K.moved hW.alike hK, hw.2.2.1⟩, hw.2.2.2.1.F ht⟩) hw.2.2.2.1.2.2 dX3_readQuarrel_88
        · have r_v_1 : RI v_1 1 5 := rc_neL r_v_1 r_v_2 (ti_ne c_38) (by decide)
          refine lv_aload_n hx hb dX3_readQuarrel_41 rfl (lv_at hl 3 rfl) ?_
          refine lv_iload_n hx hb dX3_readQuarrel_42 rfl (lv_at hl 2 rfl) ?_
          refine lv_iload_n hx hb dX3_readQuarrel_43 rfl (lv_at hl 1 rfl) ?_
          refine tk_ir (va_runV (As := [.int v_1, .int v_2]) (rest := []) ⟨hx, hb, hml, hown, hts⟩ (c_X3_quarrel l D cy z H.size Ps ws hw.1 p0 v_1 v_2 h_p0 (r_v_1.to (by decide)) (r_v_2.to (by decide))) (cwV 2 hts (gV tw_495 tw_497 ts_5 tw_11 tw_498) rfl rfl rfl (by decide +kernel) ⟨Nat.le_of_ble_eq_true rfl, Nat.le_of_ble_eq_true rfl⟩) (tg_preV hw hK hSD hA (ci := 3) (q := (RX3, TX3, 9)) rfl h_p0 rfl) rfl rfl hl.1 rfl (lv_room (Nat.le_of_ble_eq_true rfl)) dX3_readQuarrel_44 ⟨Nat.le_of_ble_eq_true rfl, Nat.le_of_ble_eq_true rfl⟩) hw hA (fun v_16  H locs hp_v_16 hw => ?_)
          have r_v_16 : RI v_16 0 1 := hp_v_16.1
          refine lv_if_eq (tgt := 55) hx hb dX3_readQuarrel_47 (by decide) (fun c_47 => ?_) (fun c_47 => ?_)
          · have r_v_16 : RI v_16 0 0 := rc_eq1 r_v_16 rl_0 (ti_eq c_47) (by decide)
            refine lv_aload_n hx hb dX3_readQuarrel_55 rfl (lv_at hl 4 rfl) ?_
            refine tk_v (va_runV (As := []) (rest := []) ⟨hx, hb, hml, hown, hts⟩ (c_X7_pass l D cy z H.size Ps ws hw.1 p1 h_p1) (cwV 0 hts (gV tw_451 tw_425 tw_426 tw_2 tw_427) rfl rfl rfl (by decide +kernel) ⟨Nat.le_of_ble_eq_true rfl, Nat.le_of_ble_eq_true rfl⟩) (tg_preV hw hK hSD hA (ci := 7) (q := (RX7, TX7, 12)) rfl h_p1 rfl) rfl rfl hl.1 rfl (lv_room (Nat.le_of_ble_eq_true rfl)) dX3_readQuarrel_56 ⟨Nat.le_of_ble_eq_true rfl, Nat.le_of_ble_eq_true rfl⟩) hw hA ⟨by decide, by decide⟩ (fun ws H locs hp_v_17 hw hF9 => ?_)
            have m_v_3 := FLD.over hF9 m_v_3 (by decide)
            refine lv_iload hx hb dX3_readQuarrel_59 (lv_at hl 0 rfl) ?_
            refine lv_if_eq (tgt := 88) hx hb dX3_readQuarrel_61 (by decide) (fun c9 => absurd c9 (by decide)) (fun _ => ?_)
            refine lv_aload_n hx hb dX3_readQuarrel_64 rfl (lv_at hl 3 rfl) ?_
            refine tg_get (ci := 3) (ts := ty_POST) (C := RX3) (T := TX3) (N := 9) hx hb hts inX3 hown hK hw h_p0 rfl rfl 3 (by decide) (hts _ tw_208) (fun _ h9 => h9) (ft := vR 6) rfl dX3_readQuarrel_65 (fun u_18 hv_u_18 m_u_18 => ?_)
            obtain ⟨vu_18, rfl, h_vu_18⟩ := hv_u_18
            refine lv_iload_n hx hb dX3_readQuarrel_68 rfl (lv_at hl 2 rfl) ?_
            refine lv_dup2_11 hx hb dX3_readQuarrel_69 rfl rfl ?_
            refine tg_iald (lo := (-2147483648)) (hi := 2147483647) hx hb hK hw h_vu_18 rfl 1 5 r_v_1 (by decide) (by exact fun _ _ _ => ⟨Int.le_refl _, Int.le_refl _⟩) dX3_readQuarrel_70 (fun v_19 r_v_19 m_v_19 o_v_19 => ?_)
            refine lv_iconst (v := 1) hx hb dX3_readQuarrel_71 (by decide) ?_
            refine lv_iload_n hx hb dX3_readQuarrel_72 rfl (lv_at hl 1 rfl) ?_
            refine lv_ishl hx hb dX3_readQuarrel_73 (lv_topi (fun v_20 e_v_20 => ?_))
            have r_v_20 : RI v_20 1 256 := by rw [e_v_20]; exact ri_shl1 (r_v_2.to (c := 0) (d := 0) (by decide)) (by decide)
            refine lv_ior hx hb dX3_readQuarrel_74 (lv_topi (fun v_21 e_v_21 => ?_))
            have r_v_21 := ri_any v_21
            refine tg_iast hx hb hK hw h_vu_18 rfl 1 5 r_v_1 (by decide) r_v_21 (by exact fun _ _ _ => by decide) (fun _ _ _ _ _ => trivial) (by decide) dX3_readQuarrel_75 (fun ws H locs hw hF9 hU9 => ?_)
            have m_v_3 := FLD.over hF9 m_v_3 (by decide)
            refine lv_aload_n hx hb dX3_readQuarrel_76 rfl (lv_at hl 3 rfl) ?_
            refine tg_get (ci := 3) (ts := ty_POST) (C := RX3) (T := TX3) (N := 9) hx hb hts inX3 hown hK hw h_p0 rfl rfl 3 (by decide) (hts _ tw_208) (fun _ h9 => h9) (ft := vR 6) rfl dX3_readQuarrel_77 (fun u_22 hv_u_22 m_u_22 => ?_)
            obtain ⟨vu_22, rfl, h_vu_22⟩ := hv_u_22
            refine lv_iload_n hx hb dX3_readQuarrel_80 rfl (lv_at hl 1 rfl) ?_
            refine lv_dup2_11 hx hb dX3_readQuarrel_81 rfl rfl ?_
            refine tg_iald (lo := (-2147483648)) (hi := 2147483647) hx hb hK hw h_vu_22 rfl 0 0 r_v_2 (by decide) (by exact fun _ _ _ => ⟨Int.le_refl _, Int.le_refl _⟩) dX3_readQuarrel_82 (fun v_23 r_v_23 m_v_23 o_v_23 => ?_)
            refine lv_iconst (v := 1) hx hb dX3_readQuarrel_83 (by decide) ?_
            refine lv_iload_n hx hb dX3_readQuarrel_84 rfl (lv_at hl 2 rfl) ?_
            refine lv_ishl hx hb dX3_readQuarrel_85 (lv_topi (fun v_24 e_v_24 => ?_))
            have r_v_24 : RI v_24 1 256 := by rw [e_v_24]; exact ri_shl1 (r_v_1.to (c := 0) (d := 5) (by decide)) (by decide)
            refine lv_ior hx hb dX3_readQuarrel_86 (lv_topi (fun v_25 e_v_25 => ?_))
            have r_v_25 := ri_any v_25
            refine tg_iast hx hb hK hw h_vu_22 rfl 0 0 r_v_2 (by decide) r_v_25 (by exact fun _ _ _ => by decide) (fun _ _ _ _ _ => trivial) (by decide) dX3_readQuarrel_87 (fun ws H locs hw hF9 hU9 => ?_)
            have m_v_3 := FLD.over hF9 m_v_3 (by decide)
            subst hQ
            exact W.vret hx hb hr (fun t ht hW => ⟨⟨ws, rfl, ⟨trivial, hw.1, hw.2.2.2.2.1⟩, by rw [ht]; exact hw.2.1, va_K.moved hW.alike hK, hw.2.2.1⟩, hw.2.2.2.1.F ht⟩) hw.2.2.2.1.2.2 dX3_readQuarrel_88
          · have r_v_16 : RI v_16 1 1 := rc_neL r_v_16 rl_0 (ti_ne c_47) (by decide)
            refine lv_aload_n hx hb dX3_readQuarrel_50 rfl (lv_at hl 4 rfl) ?_
            refine lv_iconst (v := 3) hx hb dX3_readQuarrel_51 (by decide) ?_
            refine tk_v (va_runV (As := [.int 3]) (rest := []) ⟨hx, hb, hml, hown, hts⟩ (c_X7_refuse l D cy z H.size Ps ws hw.1 p1 3 h_p1 (rl_3.to (by decide))) (cwV 1 hts (gV tw_450 tw_443 tw_444 tw_2 tw_445) rfl rfl rfl (by decide +kernel) ⟨Nat.le_of_ble_eq_true rfl, Nat.le_of_ble_eq_true rfl⟩) (tg_preV hw hK hSD hA (ci := 7) (q := (RX7, TX7, 12)) rfl h_p1 rfl) rfl rfl hl.1 rfl (lv_room (Nat.le_of_ble_eq_true rfl)) dX3_readQuarrel_52 ⟨Nat.le_of_ble_eq_true rfl, Nat.le_of_ble_eq_true rfl⟩) hw hA ⟨by decide, by decide⟩ (fun ws H locs hp_v_26 hw hF9 => ?_)
            obtain ⟨v_27, m_v_27, r_v_27⟩ := (hp_v_26.1)
            refine lv_aload_n hx hb dX3_readQuarrel_55 rfl (lv_at hl 4 rfl) ?_
            refine tk_v (va_runV (As := []) (rest := []) ⟨hx, hb, hml, hown, hts⟩ (c_X7_pass l D cy z H.size Ps ws hw.1 p1 h_p1) (cwV 0 hts (gV tw_451 tw_425 tw_426 tw_2 tw_427) rfl rfl rfl (by decide +kernel) ⟨Nat.le_of_ble_eq_true rfl, Nat.le_of_ble_eq_true rfl⟩) (tg_preV hw hK hSD hA (ci := 7) (q := (RX7, TX7, 12)) rfl h_p1 rfl) rfl rfl hl.1 rfl (lv_room (Nat.le_of_ble_eq_true rfl)) dX3_readQuarrel_56 ⟨Nat.le_of_ble_eq_true rfl, Nat.le_of_ble_eq_true rfl⟩) hw hA ⟨by decide, by decide⟩ (fun ws H locs hp_v_28 hw hF9 => ?_)
            have m_v_27 := FLD.over hF9 m_v_27 (by decide)
            refine lv_iload hx hb dX3_readQuarrel_59 (lv_at hl 0 rfl) ?_
            refine lv_if_eq (tgt := 88) hx hb dX3_readQuarrel_61 (by decide) (fun c9 => absurd c9 (by decide)) (fun _ => ?_)
            refine lv_aload_n hx hb dX3_readQuarrel_64 rfl (lv_at hl 3 rfl) ?_
            refine tg_get (ci := 3) (ts := ty_POST) (C := RX3) (T := TX3) (N := 9) hx hb hts inX3 hown hK hw h_p0 rfl rfl 3 (by decide) (hts _ tw_208) (fun _ h9 => h9) (ft := vR 6) rfl dX3_readQuarrel_65 (fun u_29 hv_u_29 m_u_29 => ?_)
            obtain ⟨vu_29, rfl, h_vu_29⟩ := hv_u_29
            refine lv_iload_n hx hb dX3_readQuarrel_68 rfl (lv_at hl 2 rfl) ?_
            refine lv_dup2_11 hx hb dX3_readQuarrel_69 rfl rfl ?_
            refine tg_iald (lo := (-2147483648)) (hi := 2147483647) hx hb hK hw h_vu_29 rfl 1 5 r_v_1 (by decide) (by exact fun _ _ _ => ⟨Int.le_refl _, Int.le_refl _⟩) dX3_readQuarrel_70 (fun v_30 r_v_30 m_v_30 o_v_30 => ?_)
            refine lv_iconst (v := 1) hx hb dX3_readQuarrel_71 (by decide) ?_
            refine lv_iload_n hx hb dX3_readQuarrel_72 rfl (lv_at hl 1 rfl) ?_
            refine lv_ishl hx hb dX3_readQuarrel_73 (lv_topi (fun v_31 e_v_31 => ?_))
            have r_v_31 : RI v_31 1 256 := by rw [e_v_31]; exact ri_shl1 (r_v_2.to (c := 0) (d := 0) (by decide)) (by decide)
            refine lv_ior hx hb dX3_readQuarrel_74 (lv_topi (fun v_32 e_v_32 => ?_))
            have r_v_32 := ri_any v_32
            refine tg_iast hx hb hK hw h_vu_29 rfl 1 5 r_v_1 (by decide) r_v_32 (by exact fun _ _ _ => by decide) (fun _ _ _ _ _ => trivial) (by decide) dX3_readQuarrel_75 (fun ws H locs hw hF9 hU9 => ?_)
            have m_v_27 := FLD.over hF9 m_v_27 (by decide)
            refine lv_aload_n hx hb dX3_readQuarrel_76 rfl (lv_at hl 3 rfl) ?_
            refine tg_get (ci := 3) (ts := ty_POST) (C := RX3) (T := TX3) (N := 9) hx hb hts inX3 hown hK hw h_p0 rfl rfl 3 (by decide) (hts _ tw_208) (fun _ h9 => h9) (ft := vR 6) rfl dX3_readQuarrel_77 (fun u_33 hv_u_33 m_u_33 => ?_)
            obtain ⟨vu_33, rfl, h_vu_33⟩ := hv_u_33
            refine lv_iload_n hx hb dX3_readQuarrel_80 rfl (lv_at hl 1 rfl) ?_
            refine lv_dup2_11 hx hb dX3_readQuarrel_81 rfl rfl ?_
            refine tg_iald (lo := (-2147483648)) (hi := 2147483647) hx hb hK hw h_vu_33 rfl 0 0 r_v_2 (by decide) (by exact fun _ _ _ => ⟨Int.le_refl _, Int.le_refl _⟩) dX3_readQuarrel_82 (fun v_34 r_v_34 m_v_34 o_v_34 => ?_)
            refine lv_iconst (v := 1) hx hb dX3_readQuarrel_83 (by decide) ?_
            refine lv_iload_n hx hb dX3_readQuarrel_84 rfl (lv_at hl 2 rfl) ?_
            refine lv_ishl hx hb dX3_readQuarrel_85 (lv_topi (fun v_35 e_v_35 => ?_))
            have r_v_35 : RI v_35 1 256 := by rw [e_v_35]; exact ri_shl1 (r_v_1.to (c := 0) (d := 5) (by decide)) (by decide)
            refine lv_ior hx hb dX3_readQuarrel_86 (lv_topi (fun v_36 e_v_36 => ?_))
            have r_v_36 := ri_any v_36
            refine tg_iast hx hb hK hw h_vu_33 rfl 0 0 r_v_2 (by decide) r_v_36 (by exact fun _ _ _ => by decide) (fun _ _ _ _ _ => trivial) (by decide) dX3_readQuarrel_87 (fun ws H locs hw hF9 hU9 => ?_)
            have m_v_27 := FLD.over hF9 m_v_27 (by decide)
            subst hQ
            exact W.vret hx hb hr (fun t ht hW => ⟨⟨ws, rfl, ⟨trivial, hw.1, hw.2.2.2.2.1⟩, by rw [ht]; exact hw.2.1, va_K.moved hW.alike hK, hw.2.2.1⟩, hw.2.2.2.1.F ht⟩) hw.2.2.2.1.2.2 dX3_readQuarrel_88
  · refine lv_istore_n (lv' := [(3, .int v_2), (2, .int v_1), (0, .ref p0), (1, .ref p1)]) hx hb dX3_readQuarrel_13 rfl hl (by decide) rfl (fun ls hl => ?_)
    refine lv_iload_n hx hb dX3_readQuarrel_14 rfl (lv_at hl 1 rfl) ?_
    refine lv_iconst (v := (-1)) hx hb dX3_readQuarrel_15 (by decide) ?_
    refine lv_icmp_eq (tgt := 28) hx hb dX3_readQuarrel_16 (by decide) (fun c_16 => ?_) (fun c_16 => ?_)
    · have r_v_1 : RI v_1 (-1) (-1) := rc_eq1 r_v_1 rl_m1 (ti_eq c_16) (by decide)
      refine lv_iconst (v := 0) hx hb dX3_readQuarrel_28 (by decide) ?_
      refine lv_istore (lv' := [(4, .int 0), (3, .int v_2), (2, .int v_1), (0, .ref p0), (1, .ref p1)]) hx hb dX3_readQuarrel_29 hl (by decide) rfl (fun ls hl => ?_)
      refine lv_iload hx hb dX3_readQuarrel_31 (lv_at hl 0 rfl) ?_
      refine lv_if_eq (tgt := 55) hx hb dX3_readQuarrel_33 (by decide) (fun _ => ?_) (fun c9 => absurd (by decide) c9)
      refine lv_aload_n hx hb dX3_readQuarrel_55 rfl (lv_at hl 4 rfl) ?_
      refine tk_v (va_runV (As := []) (rest := []) ⟨hx, hb, hml, hown, hts⟩ (c_X7_pass l D cy z H.size Ps ws hw.1 p1 h_p1) (cwV 0 hts (gV tw_451 tw_425 tw_426 tw_2 tw_427) rfl rfl rfl (by decide +kernel) ⟨Nat.le_of_ble_eq_true rfl, Nat.le_of_ble_eq_true rfl⟩) (tg_preV hw hK hSD hA (ci := 7) (q := (RX7, TX7, 12)) rfl h_p1 rfl) rfl rfl hl.1 rfl (lv_room (Nat.le_of_ble_eq_true rfl)) dX3_readQuarrel_56 ⟨Nat.le_of_ble_eq_true rfl, Nat.le_of_ble_eq_true rfl⟩) hw hA ⟨by decide, by decide⟩ (fun ws H locs hp_v_37 hw hF9 => ?_)
      refine lv_iload hx hb dX3_readQuarrel_59 (lv_at hl 0 rfl) ?_
      refine lv_if_eq (tgt := 88) hx hb dX3_readQuarrel_61 (by decide) (fun _ => ?_) (fun c9 => absurd (by decide) c9)
      subst hQ
      exact W.vret hx hb hr (fun t ht hW => ⟨⟨ws, rfl, ⟨trivial, hw.1, hw.2.2.2.2.1⟩, by rw [ht]; exact hw.2.1, va_K.moved hW.alike hK, hw.2.2.1⟩, hw.2.2.2.1.F ht⟩) hw.2.2.2.1.2.2 dX3_readQuarrel_88
    · have r_v_1 : RI v_1 0 5 := rc_neL r_v_1 rl_m1 (ti_ne c_16) (by decide)
      refine lv_iload_n hx hb dX3_readQuarrel_19 rfl (lv_at hl 0 rfl) ?_
      refine lv_iconst (v := (-1)) hx hb dX3_readQuarrel_20 (by decide) ?_
      refine lv_icmp_eq (tgt := 28) hx hb dX3_readQuarrel_21 (by decide) (fun c_21 => ?_) (fun c_21 => ?_)
      · have r_v_2 : RI v_2 (-1) (-1) := rc_eq1 r_v_2 rl_m1 (ti_eq c_21) (by decide)
        refine lv_iconst (v := 0) hx hb dX3_readQuarrel_28 (by decide) ?_
        refine lv_istore (lv' := [(4, .int 0), (3, .int v_2), (2, .int v_1), (0, .ref p0), (1, .ref p1)]) hx hb dX3_readQuarrel_29 hl (by decide) rfl (fun ls hl => ?_)
        refine lv_iload hx hb dX3_readQuarrel_31 (lv_at hl 0 rfl) ?_
        refine lv_if_eq (tgt := 55) hx hb dX3_readQuarrel_33 (by decide) (fun _ => ?_) (fun c9 => absurd (by decide) c9)
        refine lv_aload_n hx hb dX3_readQuarrel_55 rfl (lv_at hl 4 rfl) ?_
        refine tk_v (va_runV (As := []) (rest := []) ⟨hx, hb, hml, hown, hts⟩ (c_X7_pass l D cy z H.size Ps ws hw.1 p1 h_p1) (cwV 0 hts (gV tw_451 tw_425 tw_426 tw_2 tw_427) rfl rfl rfl (by decide +kernel) ⟨Nat.le_of_ble_eq_true rfl, Nat.le_of_ble_eq_true rfl⟩) (tg_preV hw hK hSD hA (ci := 7) (q := (RX7, TX7, 12)) rfl h_p1 rfl) rfl rfl hl.1 rfl (lv_room (Nat.le_of_ble_eq_true rfl)) dX3_readQuarrel_56 ⟨Nat.le_of_ble_eq_true rfl, Nat.le_of_ble_eq_true rfl⟩) hw hA ⟨by decide, by decide⟩ (fun ws H locs hp_v_38 hw hF9 => ?_)
        refine lv_iload hx hb dX3_readQuarrel_59 (lv_at hl 0 rfl) ?_
        refine lv_if_eq (tgt := 88) hx hb dX3_readQuarrel_61 (by decide) (fun _ => ?_) (fun c9 => absurd (by decide) c9)
        subst hQ
        exact W.vret hx hb hr (fun t ht hW => ⟨⟨ws, rfl, ⟨trivial, hw.1, hw.2.2.2.2.1⟩, by rw [ht]; exact hw.2.1, va_K.moved hW.alike hK, hw.2.2.1⟩, hw.2.2.2.1.F ht⟩) hw.2.2.2.1.2.2 dX3_readQuarrel_88
      · have r_v_2 : RI v_2 0 5 := rc_neL r_v_2 rl_m1 (ti_ne c_21) (by decide)
        refine lv_iconst (v := 1) hx hb dX3_readQuarrel_24 (by decide) ?_
        refine lv_goto (tgt := 29) hx hb dX3_readQuarrel_25 (by decide) ?_
        refine lv_istore (lv' := [(4, .int 1), (3, .int v_2), (2, .int v_1), (0, .ref p0), (1, .ref p1)]) hx hb dX3_readQuarrel_29 hl (by decide) rfl (fun ls hl => ?_)
        refine lv_iload hx hb dX3_readQuarrel_31 (lv_at hl 0 rfl) ?_
        refine lv_if_eq (tgt := 55) hx hb dX3_readQuarrel_33 (by decide) (fun c9 => absurd c9 (by decide)) (fun _ => ?_)
        refine lv_iload_n hx hb dX3_readQuarrel_36 rfl (lv_at hl 2 rfl) ?_
        refine lv_iload_n hx hb dX3_readQuarrel_37 rfl (lv_at hl 1 rfl) ?_
        refine lv_icmp_eq (tgt := 50) hx hb dX3_readQuarrel_38 (by decide) (fun c_38 => ?_) (fun c_38 => ?_)
        · refine lv_aload_n hx hb dX3_readQuarrel_50 rfl (lv_at hl 4 rfl) ?_
          refine lv_iconst (v := 3) hx hb dX3_readQuarrel_51 (by decide) ?_
          refine tk_v (va_runV (As := [.int 3]) (rest := []) ⟨hx, hb, hml, hown, hts⟩ (c_X7_refuse l D cy z H.size Ps ws hw.1 p1 3 h_p1 (rl_3.to (by decide))) (cwV 1 hts (gV tw_450 tw_443 tw_444 tw_2 tw_445) rfl rfl rfl (by decide +kernel) ⟨Nat.le_of_ble_eq_true rfl, Nat.le_of_ble_eq_true rfl⟩) (tg_preV hw hK hSD hA (ci := 7) (q := (RX7, TX7, 12)) rfl h_p1 rfl) rfl rfl hl.1 rfl (lv_room (Nat.le_of_ble_eq_true rfl)) dX3_readQuarrel_52 ⟨Nat.le_of_ble_eq_true rfl, Nat.le_of_ble_eq_true rfl⟩) hw hA ⟨by decide, by decide⟩ (fun ws H locs hp_v_39 hw hF9 => ?_)
          obtain ⟨v_40, m_v_40, r_v_40⟩ := (hp_v_39.1)
          refine lv_aload_n hx hb dX3_readQuarrel_55 rfl (lv_at hl 4 rfl) ?_
          refine tk_v (va_runV (As := []) (rest := []) ⟨hx, hb, hml, hown, hts⟩ (c_X7_pass l D cy z H.size Ps ws hw.1 p1 h_p1) (cwV 0 hts (gV tw_451 tw_425 tw_426 tw_2 tw_427) rfl rfl rfl (by decide +kernel) ⟨Nat.le_of_ble_eq_true rfl, Nat.le_of_ble_eq_true rfl⟩) (tg_preV hw hK hSD hA (ci := 7) (q := (RX7, TX7, 12)) rfl h_p1 rfl) rfl rfl hl.1 rfl (lv_room (Nat.le_of_ble_eq_true rfl)) dX3_readQuarrel_56 ⟨Nat.le_of_ble_eq_true rfl, Nat.le_of_ble_eq_true rfl⟩) hw hA ⟨by decide, by decide⟩ (fun ws H locs hp_v_41 hw hF9 => ?_)
          have m_v_40 := FLD.over hF9 m_v_40 (by decide)
          refine lv_iload hx hb dX3_readQuarrel_59 (lv_at hl 0 rfl) ?_
          refine lv_if_eq (tgt := 88) hx hb dX3_readQuarrel_61 (by decide) (fun c9 => absurd c9 (by decide)) (fun _ => ?_)
          refine lv_aload_n hx hb dX3_readQuarrel_64 rfl (lv_at hl 3 rfl) ?_
          refine tg_get (ci := 3) (ts := ty_POST) (C := RX3) (T := TX3) (N := 9) hx hb hts inX3 hown hK hw h_p0 rfl rfl 3 (by decide) (hts _ tw_208) (fun _ h9 => h9) (ft := vR 6) rfl dX3_readQuarrel_65 (fun u_42 hv_u_42 m_u_42 => ?_)
          obtain ⟨vu_42, rfl, h_vu_42⟩ := hv_u_42
          refine lv_iload_n hx hb dX3_readQuarrel_68 rfl (lv_at hl 2 rfl) ?_
          refine lv_dup2_11 hx hb dX3_readQuarrel_69 rfl rfl ?_
          refine tg_iald (lo := (-2147483648)) (hi := 2147483647) hx hb hK hw h_vu_42 rfl 0 5 r_v_1 (by decide) (by exact fun _ _ _ => ⟨Int.le_refl _, Int.le_refl _⟩) dX3_readQuarrel_70 (fun v_43 r_v_43 m_v_43 o_v_43 => ?_)
          refine lv_iconst (v := 1) hx hb dX3_readQuarrel_71 (by decide) ?_
          refine lv_iload_n hx hb dX3_readQuarrel_72 rfl (lv_at hl 1 rfl) ?_
          refine lv_ishl hx hb dX3_readQuarrel_73 (lv_topi (fun v_44 e_v_44 => ?_))
          have r_v_44 : RI v_44 1 256 := by rw [e_v_44]; exact ri_shl1 (r_v_2.to (c := 0) (d := 5) (by decide)) (by decide)
          refine lv_ior hx hb dX3_readQuarrel_74 (lv_topi (fun v_45 e_v_45 => ?_))
          have r_v_45 := ri_any v_45
          refine tg_iast hx hb hK hw h_vu_42 rfl 0 5 r_v_1 (by decide) r_v_45 (by exact fun _ _ _ => by decide) (fun _ _ _ _ _ => trivial) (by decide) dX3_readQuarrel_75 (fun ws H locs hw hF9 hU9 => ?_)
          have m_v_40 := FLD.over hF9 m_v_40 (by decide)
          refine lv_aload_n hx hb dX3_readQuarrel_76 rfl (lv_at hl 3 rfl) ?_
          refine tg_get (ci := 3) (ts := ty_POST) (C := RX3) (T := TX3) (N := 9) hx hb hts inX3 hown hK hw h_p0 rfl rfl 3 (by decide) (hts _ tw_208) (fun _ h9 => h9) (ft := vR 6) rfl dX3_readQuarrel_77 (fun u_46 hv_u_46 m_u_46 => ?_)
          obtain ⟨vu_46, rfl, h_vu_46⟩ := hv_u_46
          refine lv_iload_n hx hb dX3_readQuarrel_80 rfl (lv_at hl 1 rfl) ?_
          refine lv_dup2_11 hx hb dX3_readQuarrel_81 rfl rfl ?_
          refine tg_iald (lo := (-2147483648)) (hi := 2147483647) hx hb hK hw h_vu_46 rfl 0 5 r_v_2 (by decide) (by exact fun _ _ _ => ⟨Int.le_refl _, Int.le_refl _⟩) dX3_readQuarrel_82 (fun v_47 r_v_47 m_v_47 o_v_47 => ?_)
          refine lv_iconst (v := 1) hx hb dX3_readQuarrel_83 (by decide) ?_
          refine lv_iload_n hx hb dX3_readQuarrel_84 rfl (lv_at hl 2 rfl) ?_
          refine lv_ishl hx hb dX3_readQuarrel_85 (lv_topi (fun v_48 e_v_48 => ?_))
          have r_v_48 : RI v_48 1 256 := by rw [e_v_48]; exact ri_shl1 (r_v_1.to (c := 0) (d := 5) (by decide)) (by decide)
          refine lv_ior hx hb dX3_readQuarrel_86 (lv_topi (fun v_49 e_v_49 => ?_))
          have r_v_49 := ri_any v_49
          refine tg_iast hx hb hK hw h_vu_46 rfl 0 5 r_v_2 (by decide) r_v_49 (by exact fun _ _ _ => by decide) (fun _ _ _ _ _ => trivial) (by decide) dX3_readQuarrel_87 (fun ws H locs hw hF9 hU9 => ?_)
          have m_v_40 := FLD.over hF9 m_v_40 (by decide)
          subst hQ
          exact W.vret hx hb hr (fun t ht hW => ⟨⟨ws, rfl, ⟨trivial, hw.1, hw.2.2.2.2.1⟩, by rw [ht]; exact hw.2.1, va_K.moved hW.alike hK, hw.2.2.1⟩, hw.2.2.2.1.F ht⟩) hw.2.2.2.1.2.2 dX3_readQuarrel_88
        · refine lv_aload_n hx hb dX3_readQuarrel_41 rfl (lv_at hl 3 rfl) ?_
          refine lv_iload_n hx hb dX3_readQuarrel_42 rfl (lv_at hl 2 rfl) ?_
          refine lv_iload_n hx hb dX3_readQuarrel_43 rfl (lv_at hl 1 rfl) ?_
          refine tk_ir (va_runV (As := [.int v_1, .int v_2]) (rest := []) ⟨hx, hb, hml, hown, hts⟩ (c_X3_quarrel l D cy z H.size Ps ws hw.1 p0 v_1 v_2 h_p0 r_v_1 (r_v_2.to (by decide))) (cwV 2 hts (gV tw_495 tw_497 ts_5 tw_11 tw_498) rfl rfl rfl (by decide +kernel) ⟨Nat.le_of_ble_eq_true rfl, Nat.le_of_ble_eq_true rfl⟩) (tg_preV hw hK hSD hA (ci := 3) (q := (RX3, TX3, 9)) rfl h_p0 rfl) rfl rfl hl.1 rfl (lv_room (Nat.le_of_ble_eq_true rfl)) dX3_readQuarrel_44 ⟨Nat.le_of_ble_eq_true rfl, Nat.le_of_ble_eq_true rfl⟩) hw hA (fun v_50  H locs hp_v_50 hw => ?_)
          have r_v_50 : RI v_50 0 1 := hp_v_50.1
          refine lv_if_eq (tgt := 55) hx hb dX3_readQuarrel_47 (by decide) (fun c_47 => ?_) (fun c_47 => ?_)
          · have r_v_50 : RI v_50 0 0 := rc_eq1 r_v_50 rl_0 (ti_eq c_47) (by decide)
            refine lv_aload_n hx hb dX3_readQuarrel_55 rfl (lv_at hl 4 rfl) ?_
            refine tk_v (va_runV (As := []) (rest := []) ⟨hx, hb, hml, hown, hts⟩ (c_X7_pass l D cy z H.size Ps ws hw.1 p1 h_p1) (cwV 0 hts (gV tw_451 tw_425 tw_426 tw_2 tw_427) rfl rfl rfl (by decide +kernel) ⟨Nat.le_of_ble_eq_true rfl, Nat.le_of_ble_eq_true rfl⟩) (tg_preV hw hK hSD hA (ci := 7) (q := (RX7, TX7, 12)) rfl h_p1 rfl) rfl rfl hl.1 rfl (lv_room (Nat.le_of_ble_eq_true rfl)) dX3_readQuarrel_56 ⟨Nat.le_of_ble_eq_true rfl, Nat.le_of_ble_eq_true rfl⟩) hw hA ⟨by decide, by decide⟩ (fun ws H locs hp_v_51 hw hF9 => ?_)
            refine lv_iload hx hb dX3_readQuarrel_59 (lv_at hl 0 rfl) ?_
            refine lv_if_eq (tgt := 88) hx hb dX3_readQuarrel_61 (by decide) (fun c9 => absurd c9 (by decide)) (fun _ => ?_)
            refine lv_aload_n hx hb dX3_readQuarrel_64 rfl (lv_at hl 3 rfl) ?_
            refine tg_get (ci := 3) (ts := ty_POST) (C := RX3) (T := TX3) (N := 9) hx hb hts inX3 hown hK hw h_p0 rfl rfl 3 (by decide) (hts _ tw_208) (fun _ h9 => h9) (ft := vR 6) rfl dX3_readQuarrel_65 (fun u_52 hv_u_52 m_u_52 => ?_)
            obtain ⟨vu_52, rfl, h_vu_52⟩ := hv_u_52
            refine lv_iload_n hx hb dX3_readQuarrel_68 rfl (lv_at hl 2 rfl) ?_
            refine lv_dup2_11 hx hb dX3_readQuarrel_69 rfl rfl ?_
            refine tg_iald (lo := (-2147483648)) (hi := 2147483647) hx hb hK hw h_vu_52 rfl 0 5 r_v_1 (by decide) (by exact fun _ _ _ => ⟨Int.le_refl _, Int.le_refl _⟩) dX3_readQuarrel_70 (fun v_53 r_v_53 m_v_53 o_v_53 => ?_)
            refine lv_iconst (v := 1) hx hb dX3_readQuarrel_71 (by decide) ?_
            refine lv_iload_n hx hb dX3_readQuarrel_72 rfl (lv_at hl 1 rfl) ?_
            refine lv_ishl hx hb dX3_readQuarrel_73 (lv_topi (fun v_54 e_v_54 => ?_))
            have r_v_54 : RI v_54 1 256 := by rw [e_v_54]; exact ri_shl1 (r_v_2.to (c := 0) (d := 5) (by decide)) (by decide)
            refine lv_ior hx hb dX3_readQuarrel_74 (lv_topi (fun v_55 e_v_55 => ?_))
            have r_v_55 := ri_any v_55
            refine tg_iast hx hb hK hw h_vu_52 rfl 0 5 r_v_1 (by decide) r_v_55 (by exact fun _ _ _ => by decide) (fun _ _ _ _ _ => trivial) (by decide) dX3_readQuarrel_75 (fun ws H locs hw hF9 hU9 => ?_)
            refine lv_aload_n hx hb dX3_readQuarrel_76 rfl (lv_at hl 3 rfl) ?_
            refine tg_get (ci := 3) (ts := ty_POST) (C := RX3) (T := TX3) (N := 9) hx hb hts inX3 hown hK hw h_p0 rfl rfl 3 (by decide) (hts _ tw_208) (fun _ h9 => h9) (ft := vR 6) rfl dX3_readQuarrel_77 (fun u_56 hv_u_56 m_u_56 => ?_)
            obtain ⟨vu_56, rfl, h_vu_56⟩ := hv_u_56
            refine lv_iload_n hx hb dX3_readQuarrel_80 rfl (lv_at hl 1 rfl) ?_
            refine lv_dup2_11 hx hb dX3_readQuarrel_81 rfl rfl ?_
            refine tg_iald (lo := (-2147483648)) (hi := 2147483647) hx hb hK hw h_vu_56 rfl 0 5 r_v_2 (by decide) (by exact fun _ _ _ => ⟨Int.le_refl _, Int.le_refl _⟩) dX3_readQuarrel_82 (fun v_57 r_v_57 m_v_57 o_v_57 => ?_)
            refine lv_iconst (v := 1) hx hb dX3_readQuarrel_83 (by decide) ?_
            refine lv_iload_n hx hb dX3_readQuarrel_84 rfl (lv_at hl 2 rfl) ?_
            refine lv_ishl hx hb dX3_readQuarrel_85 (lv_topi (fun v_58 e_v_58 => ?_))
            have r_v_58 : RI v_58 1 256 := by rw [e_v_58]; exact ri_shl1 (r_v_1.to (c := 0) (d := 5) (by decide)) (by decide)
            refine lv_ior hx hb dX3_readQuarrel_86 (lv_topi (fun v_59 e_v_59 => ?_))
            have r_v_59 := ri_any v_59
            refine tg_iast hx hb hK hw h_vu_56 rfl 0 5 r_v_2 (by decide) r_v_59 (by exact fun _ _ _ => by decide) (fun _ _ _ _ _ => trivial) (by decide) dX3_readQuarrel_87 (fun ws H locs hw hF9 hU9 => ?_)
            subst hQ
            exact W.vret hx hb hr (fun t ht hW => ⟨⟨ws, rfl, ⟨trivial, hw.1, hw.2.2.2.2.1⟩, by rw [ht]; exact hw.2.1, va_K.moved hW.alike hK, hw.2.2.1⟩, hw.2.2.2.1.F ht⟩) hw.2.2.2.1.2.2 dX3_readQuarrel_88
          · have r_v_50 : RI v_50 1 1 := rc_neL r_v_50 rl_0 (ti_ne c_47) (by decide)
            refine lv_aload_n hx hb dX3_readQuarrel_50 rfl (lv_at hl 4 rfl) ?_
            refine lv_iconst (v := 3) hx hb dX3_readQuarrel_51 (by decide) ?_
            refine tk_v (va_runV (As := [.int 3]) (rest := []) ⟨hx, hb, hml, hown, hts⟩ (c_X7_refuse l D cy z H.size Ps ws hw.1 p1 3 h_p1 (rl_3.to (by decide))) (cwV 1 hts (gV tw_450 tw_443 tw_444 tw_2 tw_445) rfl rfl rfl (by decide +kernel) ⟨Nat.le_of_ble_eq_true rfl, Nat.le_of_ble_eq_true rfl⟩) (tg_preV hw hK hSD hA (ci := 7) (q := (RX7, TX7, 12)) rfl h_p1 rfl) rfl rfl hl.1 rfl (lv_room (Nat.le_of_ble_eq_true rfl)) dX3_readQuarrel_52 ⟨Nat.le_of_ble_eq_true rfl, Nat.le_of_ble_eq_true rfl⟩) hw hA ⟨by decide, by decide⟩ (fun ws H locs hp_v_60 hw hF9 => ?_)
            obtain ⟨v_61, m_v_61, r_v_61⟩ := (hp_v_60.1)
            refine lv_aload_n hx hb dX3_readQuarrel_55 rfl (lv_at hl 4 rfl) ?_
            refine tk_v (va_runV (As := []) (rest := []) ⟨hx, hb, hml, hown, hts⟩ (c_X7_pass l D cy z H.size Ps ws hw.1 p1 h_p1) (cwV 0 hts (gV tw_451 tw_425 tw_426 tw_2 tw_427) rfl rfl rfl (by decide +kernel) ⟨Nat.le_of_ble_eq_true rfl, Nat.le_of_ble_eq_true rfl⟩) (tg_preV hw hK hSD hA (ci := 7) (q := (RX7, TX7, 12)) rfl h_p1 rfl) rfl rfl hl.1 rfl (lv_room (Nat.le_of_ble_eq_true rfl)) dX3_readQuarrel_56 ⟨Nat.le_of_ble_eq_true rfl, Nat.le_of_ble_eq_true rfl⟩) hw hA ⟨by decide, by decide⟩ (fun ws H locs hp_v_62 hw hF9 => ?_)
            have m_v_61 := FLD.over hF9 m_v_61 (by decide)
            refine lv_iload hx hb dX3_readQuarrel_59 (lv_at hl 0 rfl) ?_
            refine lv_if_eq (tgt := 88) hx hb dX3_readQuarrel_61 (by decide) (fun c9 => absurd c9 (by decide)) (fun _ => ?_)
            refine lv_aload_n hx hb dX3_readQuarrel_64 rfl (lv_at hl 3 rfl) ?_
            refine tg_get (ci := 3) (ts := ty_POST) (C := RX3) (T := TX3) (N := 9) hx hb hts inX3 hown hK hw h_p0 rfl rfl 3 (by decide) (hts _ tw_208) (fun _ h9 => h9) (ft := vR 6) rfl dX3_readQuarrel_65 (fun u_63 hv_u_63 m_u_63 => ?_)
            obtain ⟨vu_63, rfl, h_vu_63⟩ := hv_u_63
            refine lv_iload_n hx hb dX3_readQuarrel_68 rfl (lv_at hl 2 rfl) ?_
            refine lv_dup2_11 hx hb dX3_readQuarrel_69 rfl rfl ?_
            refine tg_iald (lo := (-2147483648)) (hi := 2147483647) hx hb hK hw h_vu_63 rfl 0 5 r_v_1 (by decide) (by exact fun _ _ _ => ⟨Int.le_refl _, Int.le_refl _⟩) dX3_readQuarrel_70 (fun v_64 r_v_64 m_v_64 o_v_64 => ?_)
            refine lv_iconst (v := 1) hx hb dX3_readQuarrel_71 (by decide) ?_
            refine lv_iload_n hx hb dX3_readQuarrel_72 rfl (lv_at hl 1 rfl) ?_
            refine lv_ishl hx hb dX3_readQuarrel_73 (lv_topi (fun v_65 e_v_65 => ?_))
            have r_v_65 : RI v_65 1 256 := by rw [e_v_65]; exact ri_shl1 (r_v_2.to (c := 0) (d := 5) (by decide)) (by decide)
            refine lv_ior hx hb dX3_readQuarrel_74 (lv_topi (fun v_66 e_v_66 => ?_))
            have r_v_66 := ri_any v_66
            refine tg_iast hx hb hK hw h_vu_63 rfl 0 5 r_v_1 (by decide) r_v_66 (by exact fun _ _ _ => by decide) (fun _ _ _ _ _ => trivial) (by decide) dX3_readQuarrel_75 (fun ws H locs hw hF9 hU9 => ?_)
            have m_v_61 := FLD.over hF9 m_v_61 (by decide)
            refine lv_aload_n hx hb dX3_readQuarrel_76 rfl (lv_at hl 3 rfl) ?_
            refine tg_get (ci := 3) (ts := ty_POST) (C := RX3) (T := TX3) (N := 9) hx hb hts inX3 hown hK hw h_p0 rfl rfl 3 (by decide) (hts _ tw_208) (fun _ h9 => h9) (ft := vR 6) rfl dX3_readQuarrel_77 (fun u_67 hv_u_67 m_u_67 => ?_)
            obtain ⟨vu_67, rfl, h_vu_67⟩ := hv_u_67
            refine lv_iload_n hx hb dX3_readQuarrel_80 rfl (lv_at hl 1 rfl) ?_
            refine lv_dup2_11 hx hb dX3_readQuarrel_81 rfl rfl ?_
            refine tg_iald (lo := (-2147483648)) (hi := 2147483647) hx hb hK hw h_vu_67 rfl 0 5 r_v_2 (by decide) (by exact fun _ _ _ => ⟨Int.le_refl _, Int.le_refl _⟩) dX3_readQuarrel_82 (fun v_68 r_v_68 m_v_68 o_v_68 => ?_)
            refine lv_iconst (v := 1) hx hb dX3_readQuarrel_83 (by decide) ?_
            refine lv_iload_n hx hb dX3_readQuarrel_84 rfl (lv_at hl 2 rfl) ?_
            refine lv_ishl hx hb dX3_readQuarrel_85 (lv_topi (fun v_69 e_v_69 => ?_))
            have r_v_69 : RI v_69 1 256 := by rw [e_v_69]; exact ri_shl1 (r_v_1.to (c := 0) (d := 5) (by decide)) (by decide)
            refine lv_ior hx hb dX3_readQuarrel_86 (lv_topi (fun v_70 e_v_70 => ?_))
            have r_v_70 := ri_any v_70
            refine tg_iast hx hb hK hw h_vu_67 rfl 0 5 r_v_2 (by decide) r_v_70 (by exact fun _ _ _ => by decide) (fun _ _ _ _ _ => trivial) (by decide) dX3_readQuarrel_87 (fun ws H locs hw hF9 hU9 => ?_)
            have m_v_61 := FLD.over hF9 m_v_61 (by decide)
            subst hQ
            exact W.vret hx hb hr (fun t ht hW => ⟨⟨ws, rfl, ⟨trivial, hw.1, hw.2.2.2.2.1⟩, by rw [ht]; exact hw.2.1, va_K.moved hW.alike hK, hw.2.2.1⟩, hw.2.2.2.1.F ht⟩) hw.2.2.2.1.2.2 dX3_readQuarrel_88
abbrev wr_X3_readSits : List (Nat × Nat) := [(7, 5), (7, 6), (7, 7), (7, 8), (7, 9), (7, 10), (7, 11)]
abbrev wa_X3_readSits : List Nat := [12]
set_option maxHeartbeats 4000000 in
set_option maxRecDepth 100000 in
theorem c_X3_readSits (l : Launch) (D : va_G) (cy : Nat → ClassId) (z : Nat → Nat) (sz : Nat) (Ps : PSI) (w0 : va_W) (hT : HT cy GG Ps w0) (p0 : Nat) (p1 : Nat) (p2 : Nat) (h_p0 : (p0, 25) ∈ Ps) (h_p1 : (p1, 26) ∈ Ps) (h_p2 : (p2, 24) ∈ Ps) : Met l yX3_readSits (Cond.code yX3_readSits cX3_readSits 5 none :: gT) ({ frames := 4, cells := 0, slots := 0, locals := 800 } : Room) (va_Pc [.ref p0, .ref p1, .ref p2] (PRE D cy z w0 sz)) (va_Qv (fun (u : va_W) => (True) ∧ HT cy GG Ps u ∧ FR wr_X3_readSits wa_X3_readSits Ps w0 u) (BB D cy (va_A w0 sz) (fun (u : va_W) => u)) (va_A w0 sz)) 0 0 (va_A w0 sz) := by
  refine Met.ofW (cc := cX3_readSits) (maxL := 5) (ret := none) (by decide) rfl ?_
  intro p e s m args below meth c s₁ B hml hv
  obtain ⟨rfl, hsz, hP, hK, hD0, hSD⟩ := hv
  have hx := B.exec
  have hb := B.bytes
  have hr := B.returns
  have hlocks := B.notSynchronized
  have hts : ∀ w ∈ gT, w.before _ s = true := fun w h => atoms_spec (ws := Cond.code yX3_readSits cX3_readSits 5 none :: gT) B.pre w (List.mem_cons_of_mem _ h)
  have hown : s.vm.findClass RX3 = some m.cls := findClass_of_methodNamed B.named
  subst hsz
  have hD := hD0.self (sz := s.heap.size)
  generalize hAe : va_A w0 s.heap.size = A at hD hSD ⊢
  have hA : ∀ q : Nat, s.heap.size ≤ q → A q := fun q h => by rw [← hAe]; exact Or.inr h
  have hl := lv_entry ([.ref p0, .ref p1, .ref p2]) (n := 5) (Nat.le_of_ble_eq_true rfl)
  rw [lg_entry_eq]
  generalize (lg_sl ([.ref p0, .ref p1, .ref p2]) ++ List.replicate (5 - (lg_sl ([.ref p0, .ref p1, .ref p2])).length) Slot.unset).toArray = ls at hl ⊢
  have hl : lv_has ls 5 [(0, .ref p0), (1, .ref p1), (2, .ref p2)] := hl
  refine nameQ (fun Q hQ => ?_)
  have hw : WD D cy GG A s wr_X3_readSits wa_X3_readSits Ps w0 Ps w0 s.heap [] := ⟨hT, hP, hD, va_S.rf, FR.rf, hT.1, [], (List.append_nil _).symm⟩
  have B27 : ∀ (x3 : Int32) (ws : va_W) (H : Heap) (locs : List Loc) (ls : Array Slot), RI x3 (-1) 7 → WD D cy GG A s wr_X3_readSits wa_X3_readSits Ps w0 Ps ws H locs → lv_has ls 5 [(0, .ref p0), (1, .ref p1), (2, .ref p2), (3, .int x3)] → W p l e (headSpec (Cond.code yX3_readSits cX3_readSits 5 none :: gT) ({ frames := 4, cells := 0, slots := 0, locals := 800 } : Room)).room s m ([.ref p0, .ref p1, .ref p2] : List Value).toArray below meth c H locs 0 0 Q (F0 m 27 ls []) := by
    intro x3 ws H locs ls r_x3 hw hl
    refine lv_aload_n hx hb dX3_readSits_27 rfl (lv_at hl 1 rfl) ?_
    refine tk_v (va_runV (As := []) (rest := []) ⟨hx, hb, hml, hown, hts⟩ (c_X7_pass l D cy z H.size Ps ws hw.1 p1 h_p1) (cwV 0 hts (gV tw_451 tw_425 tw_426 tw_2 tw_427) rfl rfl rfl (by decide +kernel) ⟨Nat.le_of_ble_eq_true rfl, Nat.le_of_ble_eq_true rfl⟩) (tg_preV hw hK hSD hA (ci := 7) (q := (RX7, TX7, 12)) rfl h_p1 rfl) rfl rfl hl.1 rfl (lv_room (Nat.le_of_ble_eq_true rfl)) dX3_readSits_28 ⟨Nat.le_of_ble_eq_true rfl, Nat.le_of_ble_eq_true rfl⟩) hw hA ⟨by decide, by decide⟩ (fun ws H locs hp_v_1 hw hF9 => ?_)
    refine lv_aload_n hx hb dX3_readSits_31 rfl (lv_at hl 1 rfl) ?_
    refine lv_aload_n hx hb dX3_readSits_32 rfl (lv_at hl 0 rfl) ?_
    refine lv_iconst (v := 2) hx hb dX3_readSits_33 (by decide) ?_
    refine tk_i (va_runV (As := [.ref p0, .int 2]) (rest := []) ⟨hx, hb, hml, hown, hts⟩ (c_X7_takeName__2 l D cy z H.size Ps ws hw.1 p1 p0 2 h_p1 h_p0 rl_2) (cwV 2 hts (gV tw_464 tw_465 tw_466 tw_2 tw_467) rfl rfl rfl (by decide +kernel) ⟨Nat.le_of_ble_eq_true rfl, Nat.le_of_ble_eq_true rfl⟩) (tg_preV hw hK hSD hA (ci := 7) (q := (RX7, TX7, 12)) rfl h_p1 rfl) rfl rfl hl.1 rfl (lv_room (Nat.le_of_ble_eq_true rfl)) dX3_readSits_34 ⟨Nat.le_of_ble_eq_true rfl, Nat.le_of_ble_eq_true rfl⟩) hw hA ⟨by decide, by decide⟩ (fun v_2 ws H locs hp_v_2 hw hF9 => ?_)
    have r_v_2 : RI v_2 (-1) 5 := hp_v_2.1
    refine lv_istore (lv' := [(4, .int v_2), (0, .ref p0), (1, .ref p1), (2, .ref p2), (3, .int x3)]) hx hb dX3_readSits_37 hl (by decide) rfl (fun ls hl => ?_)
    refine lv_iload_n hx hb dX3_readSits_39 rfl (lv_at hl 4 rfl) ?_
    refine lv_iconst (v := (-1)) hx hb dX3_readSits_40 (by decide) ?_
    refine lv_icmp_eq (tgt := 52) hx hb dX3_readSits_41 (by decide) (fun c_41 => ?_) (fun c_41 => ?_)
    · have r_x3 : RI x3 (-1) (-1) := rc_eq1 r_x3 rl_m1 (ti_eq c_41) (by decide)
      subst hQ
      exact W.vret hx hb hr (fun t ht hW => ⟨⟨ws, rfl, ⟨trivial, hw.1, hw.2.2.2.2.1⟩, by rw [ht]; exact hw.2.1, va_K.moved hW.alike hK, hw.2.2.1⟩, hw.2.2.2.1.F ht⟩) hw.2.2.2.1.2.2 dX3_readSits_52
    · have r_x3 : RI x3 0 7 := rc_neL r_x3 rl_m1 (ti_ne c_41) (by decide)
      refine lv_aload_n hx hb dX3_readSits_44 rfl (lv_at hl 3 rfl) ?_
      refine tg_getN (ci := 8) (ts := ty_WORLD) (C := RX8) (T := TX8) (N := 13) hx hb hts inX8 hown hK hw h_p2 rfl rfl 8 (by decide) (hSD.nest tn_270) (fun _ h9 => h9) (ft := vR 12) rfl dX3_readSits_45 (fun u_3 hv_u_3 m_u_3 => ?_)
      obtain ⟨vu_3, rfl, h_vu_3⟩ := hv_u_3
      refine lv_iload_n hx hb dX3_readSits_48 rfl (lv_at hl 4 rfl) ?_
      refine lv_iload hx hb dX3_readSits_49 (lv_at hl 0 rfl) ?_
      refine tg_iast hx hb hK hw h_vu_3 rfl 0 7 r_x3 (by decide) r_v_2 (by exact fun _ _ _ => by decide) (fun _ _ _ _ _ => trivial) (by decide) dX3_readSits_51 (fun ws H locs hw hF9 hU9 => ?_)
      subst hQ
      exact W.vret hx hb hr (fun t ht hW => ⟨⟨ws, rfl, ⟨trivial, hw.1, hw.2.2.2.2.1⟩, by rw [ht]; exact hw.2.1, va_K.moved hW.alike hK, hw.2.2.1⟩, hw.2.2.2.1.F ht⟩) hw.2.2.2.1.2.2 dX3_readSits_52
  refine lv_aload_n hx hb dX3_readSits_0 rfl (lv_at hl 1 rfl) ?_
  refine lv_aload_n hx hb dX3_readSits_1 rfl (lv_at hl 0 rfl) ?_
  refine lv_iconst (v := 3) hx hb dX3_readSits_2 (by decide) ?_
  refine tk_i (va_runV (As := [.ref p0, .int 3]) (rest := []) ⟨hx, hb, hml, hown, hts⟩ (c_X7_nameAhead__3 l D cy z s.heap.size Ps w0 hw.1 p1 p0 3 h_p1 h_p0 rl_3) (cwV 2 hts (gV tw_456 tw_457 tw_458 tw_2 tw_459) rfl rfl rfl (by decide +kernel) ⟨Nat.le_of_ble_eq_true rfl, Nat.le_of_ble_eq_true rfl⟩) (tg_preV hw hK hSD hA (ci := 7) (q := (RX7, TX7, 12)) rfl h_p1 rfl) rfl rfl hl.1 rfl (lv_room (Nat.le_of_ble_eq_true rfl)) dX3_readSits_3 ⟨Nat.le_of_ble_eq_true rfl, Nat.le_of_ble_eq_true rfl⟩) hw hA ⟨by decide, by decide⟩ (fun v_4 ws H locs hp_v_4 hw hF9 => ?_)
  have r_v_4 : RI v_4 (-1) 7 := hp_v_4.1
  by_cases c9_v_4 : v_4 = 0
  · have r_v_4 : RI v_4 0 0 := by rw [c9_v_4]; exact rl_0
    obtain ⟨v_5, m_v_5, r_v_5⟩ := ((hp_v_4.2.1 c9_v_4).1)
    refine lv_istore_n (lv' := [(3, .int v_4), (0, .ref p0), (1, .ref p1), (2, .ref p2)]) hx hb dX3_readSits_6 rfl hl (by decide) rfl (fun ls hl => ?_)
    refine lv_iload_n hx hb dX3_readSits_7 rfl (lv_at hl 0 rfl) ?_
    refine lv_iconst (v := (-1)) hx hb dX3_readSits_8 (by decide) ?_
    refine lv_icmp_eq (tgt := 27) hx hb dX3_readSits_9 (by decide) (fun c_9 => ?_) (fun c_9 => ?_)
    · have r_v_4 : RI v_4 0 (-1) := rc_eq1 r_v_4 rl_m1 (ti_eq c_9) (by decide)
      exact (r_v_4.no (by decide)).elim
    · refine lv_aload_n hx hb dX3_readSits_12 rfl (lv_at hl 3 rfl) ?_
      refine tg_getN (ci := 8) (ts := ty_WORLD) (C := RX8) (T := TX8) (N := 13) hx hb hts inX8 hown hK hw h_p2 rfl rfl 8 (by decide) (hSD.nest tn_270) (fun _ h9 => h9) (ft := vR 12) rfl dX3_readSits_13 (fun u_6 hv_u_6 m_u_6 => ?_)
      obtain ⟨vu_6, rfl, h_vu_6⟩ := hv_u_6
      refine lv_iload_n hx hb dX3_readSits_16 rfl (lv_at hl 0 rfl) ?_
      refine tg_iald (lo := (-1)) (hi := 5) hx hb hK hw h_vu_6 rfl 0 0 r_v_4 (by decide) (by exact fun _ _ _ => ⟨Int.le_refl _, Int.le_refl _⟩) dX3_readSits_17 (fun v_7 r_v_7 m_v_7 o_v_7 => ?_)
      refine lv_iconst (v := (-1)) hx hb dX3_readSits_18 (by decide) ?_
      refine lv_icmp_eq (tgt := 27) hx hb dX3_readSits_19 (by decide) (fun c_19 => ?_) (fun c_19 => ?_)
      · have r_v_7 : RI v_7 (-1) (-1) := rc_eq1 r_v_7 rl_m1 (ti_eq c_19) (by decide)
        exact B27 v_4 ws _ _ ls (r_v_4.to (by decide)) hw (lv_sub hl [1, 2, 3, 0] rfl)
      · have r_v_7 : RI v_7 0 5 := rc_neL r_v_7 rl_m1 (ti_ne c_19) (by decide)
        refine lv_aload_n hx hb dX3_readSits_22 rfl (lv_at hl 2 rfl) ?_
        refine lv_iconst (v := 3) hx hb dX3_readSits_23 (by decide) ?_
        refine tk_v (va_runV (As := [.int 3]) (rest := []) ⟨hx, hb, hml, hown, hts⟩ (c_X7_refuse l D cy z H.size Ps ws hw.1 p1 3 h_p1 (rl_3.to (by decide))) (cwV 1 hts (gV tw_450 tw_443 tw_444 tw_2 tw_445) rfl rfl rfl (by decide +kernel) ⟨Nat.le_of_ble_eq_true rfl, Nat.le_of_ble_eq_true rfl⟩) (tg_preV hw hK hSD hA (ci := 7) (q := (RX7, TX7, 12)) rfl h_p1 rfl) rfl rfl hl.1 rfl (lv_room (Nat.le_of_ble_eq_true rfl)) dX3_readSits_24 ⟨Nat.le_of_ble_eq_true rfl, Nat.le_of_ble_eq_true rfl⟩) hw hA ⟨by decide, by decide⟩ (fun ws H locs hp_v_8 hw hF9 => ?_)
        obtain ⟨v_9, m_v_9, r_v_9⟩ := (hp_v_8.1)
        exact B27 v_4 ws _ _ ls (r_v_4.to (by decide)) hw (lv_sub hl [1, 2, 3, 0] rfl)
  · refine lv_istore_n (lv' := [(3, .int v_4), (0, .ref p0), (1, .ref p1), (2, .ref p2)]) hx hb dX3_readSits_6 rfl hl (by decide) rfl (fun ls hl => ?_)
    refine lv_iload_n hx hb dX3_readSits_7 rfl (lv_at hl 0 rfl) ?_
    refine lv_iconst (v := (-1)) hx hb dX3_readSits_8 (by decide) ?_
    refine lv_icmp_eq (tgt := 27) hx hb dX3_readSits_9 (by decide) (fun c_9 => ?_) (fun c_9 => ?_)
    · have r_v_4 : RI v_4 (-1) (-1) := rc_eq1 r_v_4 rl_m1 (ti_eq c_9) (by decide)
      exact B27 v_4 ws _ _ ls (r_v_4.to (by decide)) hw (lv_sub hl [1, 2, 3, 0] rfl)
    · have r_v_4 : RI v_4 0 7 := rc_neL r_v_4 rl_m1 (ti_ne c_9) (by decide)
      refine lv_aload_n hx hb dX3_readSits_12 rfl (lv_at hl 3 rfl) ?_
      refine tg_getN (ci := 8) (ts := ty_WORLD) (C := RX8) (T := TX8) (N := 13) hx hb hts inX8 hown hK hw h_p2 rfl rfl 8 (by decide) (hSD.nest tn_270) (fun _ h9 => h9) (ft := vR 12) rfl dX3_readSits_13 (fun u_10 hv_u_10 m_u_10 => ?_)
      obtain ⟨vu_10, rfl, h_vu_10⟩ := hv_u_10
      refine lv_iload_n hx hb dX3_readSits_16 rfl (lv_at hl 0 rfl) ?_
      refine tg_iald (lo := (-1)) (hi := 5) hx hb hK hw h_vu_10 rfl 0 7 r_v_4 (by decide) (by exact fun _ _ _ => ⟨Int.le_refl _, Int.le_refl _⟩) dX3_readSits_17 (fun v_11 r_v_11 m_v_11 o_v_11 => ?_)
      refine lv_iconst (v := (-1)) hx hb dX3_readSits_18 (by decide) ?_
      refine lv_icmp_eq (tgt := 27) hx hb dX3_readSits_19 (by decide) (fun c_19 => ?_) (fun c_19 => ?_)
      · have r_v_11 : RI v_11 (-1) (-1) := rc_eq1 r_v_11 rl_m1 (ti_eq c_19) (by decide)
        exact B27 v_4 ws _ _ ls (r_v_4.to (by decide)) hw (lv_sub hl [1, 2, 3, 0] rfl)
      · have r_v_11 : RI v_11 0 5 := rc_neL r_v_11 rl_m1 (ti_ne c_19) (by decide)
        refine lv_aload_n hx hb dX3_readSits_22 rfl (lv_at hl 2 rfl) ?_
        refine lv_iconst (v := 3) hx hb dX3_readSits_23 (by decide) ?_
        refine tk_v (va_runV (As := [.int 3]) (rest := []) ⟨hx, hb, hml, hown, hts⟩ (c_X7_refuse l D cy z H.size Ps ws hw.1 p1 3 h_p1 (rl_3.to (by decide))) (cwV 1 hts (gV tw_450 tw_443 tw_444 tw_2 tw_445) rfl rfl rfl (by decide +kernel) ⟨Nat.le_of_ble_eq_true rfl, Nat.le_of_ble_eq_true rfl⟩) (tg_preV hw hK hSD hA (ci := 7) (q := (RX7, TX7, 12)) rfl h_p1 rfl) rfl rfl hl.1 rfl (lv_room (Nat.le_of_ble_eq_true rfl)) dX3_readSits_24 ⟨Nat.le_of_ble_eq_true rfl, Nat.le_of_ble_eq_true rfl⟩) hw hA ⟨by decide, by decide⟩ (fun ws H locs hp_v_12 hw hF9 => ?_)
        obtain ⟨v_13, m_v_13, r_v_13⟩ := (hp_v_12.1)
        exact B27 v_4 ws _ _ ls (r_v_4.to (by decide)) hw (lv_sub hl [1, 2, 3, 0] rfl)
abbrev wr_X1_forget : List (Nat × Nat) := [(1, 2)]
abbrev wa_X1_forget : List Nat := []
set_option maxHeartbeats 4000000 in
set_option maxRecDepth 100000 in
theorem c_X1_forget (l : Launch) (D : va_G) (cy : Nat → ClassId) (z : Nat → Nat) (sz : Nat) (Ps : PSI) (w0 : va_W) (hT : HT cy GG Ps w0) (p0 : Nat) (h_p0 : (p0, 27) ∈ Ps) : Met l yX1_forget (Cond.code yX1_forget cX1_forget 1 none :: gT) ({ frames := 0, cells := 0, slots := 0, locals := 200 } : Room) (va_Pc [.ref p0] (PRE D cy z w0 sz)) (va_Qv (fun (u : va_W) => (True) ∧ HT cy GG Ps u ∧ FR wr_X1_forget wa_X1_forget Ps w0 u) (BB D cy (va_A w0 sz) (fun (u : va_W) => u)) (va_A w0 sz)) 0 0 (va_A w0 sz) := by
  refine Met.ofW (cc := cX1_forget) (maxL := 1) (ret := none) (by decide) rfl ?_
  intro p e s m args below meth c s₁ B hml hv
  obtain ⟨rfl, hsz, hP, hK, hD0, hSD⟩ := hv
  have hx := B.exec
  have hb := B.bytes
  have hr := B.returns
  have hlocks := B.notSynchronized
  have hts : ∀ w ∈ gT, w.before _ s = true := fun w h => atoms_spec (ws := Cond.code yX1_forget cX1_forget 1 none :: gT) B.pre w (List.mem_cons_of_mem _ h)
  have hown : s.vm.findClass RX1 = some m.cls := findClass_of_methodNamed B.named
  subst hsz
  have hD := hD0.self (sz := s.heap.size)
  generalize hAe : va_A w0 s.heap.size = A at hD hSD ⊢
  have hA : ∀ q : Nat, s.heap.size ≤ q → A q := fun q h => by rw [← hAe]; exact Or.inr h
  have hl := lv_entry ([.ref p0]) (n := 1) (Nat.le_of_ble_eq_true rfl)
  rw [lg_entry_eq]
  generalize (lg_sl ([.ref p0]) ++ List.replicate (1 - (lg_sl ([.ref p0])).length) Slot.unset).toArray = ls at hl ⊢
  have hl : lv_has ls 1 [(0, .ref p0)] := hl
  refine nameQ (fun Q hQ => ?_)
  have hw : WD D cy GG A s wr_X1_forget wa_X1_forget Ps w0 Ps w0 s.heap [] := ⟨hT, hP, hD, va_S.rf, FR.rf, hT.1, [], (List.append_nil _).symm⟩
  refine lv_aload_n hx hb dX1_forget_0 rfl (lv_at hl 0 rfl) ?_
  refine lv_iconst (v := 0) hx hb dX1_forget_1 (by decide) ?_
  refine tg_put (ci := 1) (ts := ty_HIST) (v := .int 0) (ty := .int) (C := RX1) (T := TX1) (N := 3) hx hb hts inX1 tyX1 tyX1_ok nmX1 hown hK hw h_p0 rfl rfl 2 (by decide) (hts _ tw_315) (fun _ h9 => h9) rfl (by decide +kernel) rfl rfl (ft := vI (-2147483648) 2147483647) rfl ⟨_, rfl, (rl_0.to (by decide))⟩ (by decide) dX1_forget_2 (fun ws H locs hw n_k_1 hF9 => ?_)
  subst hQ
  exact W.vret hx hb hr (fun t ht hW => ⟨⟨ws, rfl, ⟨trivial, hw.1, hw.2.2.2.2.1⟩, by rw [ht]; exact hw.2.1, va_K.moved hW.alike hK, hw.2.2.1⟩, hw.2.2.2.1.F ht⟩) hw.2.2.2.1.2.2 dX1_forget_5
abbrev wr_X1_giveBack : List (Nat × Nat) := [(1, 1), (1, 2), (8, 0), (8, 1)]
abbrev wa_X1_giveBack : List Nat := [8, 9, 10, 11, 12, 13]
set_option maxHeartbeats 4000000 in
set_option maxRecDepth 100000 in
theorem c_X1_giveBack (l : Launch) (D : va_G) (cy : Nat → ClassId) (z : Nat → Nat) (sz : Nat) (Ps : PSI) (w0 : va_W) (hT : HT cy GG Ps w0) (p0 : Nat) (p1 : Nat) (h_p0 : (p0, 27) ∈ Ps) (h_p1 : (p1, 24) ∈ Ps) : Met l yX1_giveBack (Cond.code yX1_giveBack cX1_giveBack 2 (some .int) :: gT) ({ frames := 3, cells := 0, slots := 0, locals := 600 } : Room) (va_Pc [.ref p0, .ref p1] (PRE D cy z w0 sz)) (va_Qi (fun (r : Int32) (u : va_W) => (RI r (-2147483648) 2147483647 ∧ (r = 0 → True) ∧ (¬ r = 0 → True)) ∧ HT cy GG Ps u ∧ FR wr_X1_giveBack wa_X1_giveBack Ps w0 u) (BB D cy (va_A w0 sz) (fun (u : va_W) => u)) (va_A w0 sz)) 0 0 (va_A w0 sz) := by
  refine Met.ofW (cc := cX1_giveBack) (maxL := 2) (ret := (some .int)) (by decide) rfl ?_
  intro p e s m args below meth c s₁ B hml hv
  obtain ⟨rfl, hsz, hP, hK, hD0, hSD⟩ := hv
  have hx := B.exec
  have hb := B.bytes
  have hr := B.returns
  have hlocks := B.notSynchronized
  have hts : ∀ w ∈ gT, w.before _ s = true := fun w h => atoms_spec (ws := Cond.code yX1_giveBack cX1_giveBack 2 (some .int) :: gT) B.pre w (List.mem_cons_of_mem _ h)
  have hown : s.vm.findClass RX1 = some m.cls := findClass_of_methodNamed B.named
  subst hsz
  have hD := hD0.self (sz := s.heap.size)
  generalize hAe : va_A w0 s.heap.size = A at hD hSD ⊢
  have hA : ∀ q : Nat, s.heap.size ≤ q → A q := fun q h => by rw [← hAe]; exact Or.inr h
  have hl := lv_entry ([.ref p0, .ref p1]) (n := 2) (Nat.le_of_ble_eq_true rfl)
  rw [lg_entry_eq]
  generalize (lg_sl ([.ref p0, .ref p1]) ++ List.replicate (2 - (lg_sl ([.ref p0, .ref p1])).length) Slot.unset).toArray = ls at hl ⊢
  have hl : lv_has ls 2 [(0, .ref p0), (1, .ref p1)] := hl
  refine nameQ (fun Q hQ => ?_)
  have hw : WD D cy GG A s wr_X1_giveBack wa_X1_giveBack Ps w0 Ps w0 s.heap [] := ⟨hT, hP, hD, va_S.rf, FR.rf, hT.1, [], (List.append_nil _).symm⟩
  refine lv_aload_n hx hb dX1_giveBack_0 rfl (lv_at hl 0 rfl) ?_
  refine tg_get (ci := 1) (ts := ty_HIST) (C := RX1) (T := TX1) (N := 3) hx hb hts inX1 hown hK hw h_p0 rfl rfl 2 (by decide) (hts _ tw_315) (fun _ h9 => h9) (ft := vI (-2147483648) 2147483647) rfl dX1_giveBack_1 (fun u_1 hv_u_1 m_u_1 => ?_)
  obtain ⟨vu_1, rfl, r_vu_1⟩ := hv_u_1
  refine lv_if_ne (tgt := 9) hx hb dX1_giveBack_4 (by decide) (fun c_4 => ?_) (fun c_4 => ?_)
  · refine lv_aload_n hx hb dX1_giveBack_9 rfl (lv_at hl 0 rfl) ?_
    refine lv_aload_n hx hb dX1_giveBack_10 rfl (lv_at hl 0 rfl) ?_
    refine tg_get (ci := 1) (ts := ty_HIST) (C := RX1) (T := TX1) (N := 3) hx hb hts inX1 hown hK hw h_p0 rfl rfl 1 (by decide) (hts _ tw_314) (fun _ h9 => h9) (ft := vI 0 8) rfl dX1_giveBack_11 (fun u_2 hv_u_2 m_u_2 => ?_)
    obtain ⟨vu_2, rfl, r_vu_2⟩ := hv_u_2
    refine lv_bipush (v := 9) hx hb dX1_giveBack_14 (by decide) ?_
    refine lv_iadd hx hb dX1_giveBack_16 (lv_topi (fun v_3 e_v_3 => ?_))
    obtain ⟨t_v_3, r_v_3⟩ := tq_add (lo := 9) (hi := 17) r_vu_2 rl_9 (by decide +kernel) e_v_3
    have t_v_3 : v_3.toInt = vu_2.toInt + 9 := t_v_3
    refine lv_iconst (v := 1) hx hb dX1_giveBack_17 (by decide) ?_
    refine lv_isub hx hb dX1_giveBack_18 (lv_topi (fun v_4 e_v_4 => ?_))
    obtain ⟨t_v_4, r_v_4⟩ := tq_sub (lo := 8) (hi := 16) r_v_3 rl_1 (by decide +kernel) e_v_4
    have t_v_4 : v_4.toInt = v_3.toInt - 1 := t_v_4
    refine lv_bipush (v := 9) hx hb dX1_giveBack_19 (by decide) ?_
    refine lv_irem hx hb dX1_giveBack_21 (ri_ne0 rl_9 (by decide)) (lv_topi (fun v_5 e_v_5 => ?_))
    have r_v_5 : RI v_5 0 8 := by rw [e_v_5]; exact ri_rem (b := 16) (r_v_4.to (by decide)) rl_9 (by decide)
    refine tg_put (ci := 1) (ts := ty_HIST) (v := .int v_5) (ty := .int) (C := RX1) (T := TX1) (N := 3) hx hb hts inX1 tyX1 tyX1_ok nmX1 hown hK hw h_p0 rfl rfl 1 (by decide) (hts _ tw_314) (fun _ h9 => h9) rfl (by decide +kernel) rfl rfl (ft := vI 0 8) rfl ⟨_, rfl, r_v_5⟩ (by decide) dX1_giveBack_22 (fun ws H locs hw n_k_6 hF9 => ?_)
    have m_u_1 := FLD.over hF9 m_u_1 (by decide)
    refine lv_aload_n hx hb dX1_giveBack_25 rfl (lv_at hl 1 rfl) ?_
    refine lv_aload_n hx hb dX1_giveBack_26 rfl (lv_at hl 0 rfl) ?_
    refine tg_get (ci := 1) (ts := ty_HIST) (C := RX1) (T := TX1) (N := 3) hx hb hts inX1 hown hK hw h_p0 rfl rfl 0 (by decide) (hts _ tw_313) (fun _ h9 => h9) (ft := vR 22) rfl dX1_giveBack_27 (fun u_7 hv_u_7 m_u_7 => ?_)
    obtain ⟨vu_7, rfl, h_vu_7⟩ := hv_u_7
    refine lv_aload_n hx hb dX1_giveBack_30 rfl (lv_at hl 0 rfl) ?_
    refine tg_mem (ci := 1) (C := RX1) (T := TX1) (N := 3) hx hb hts inX1 hown hK hw 1 n_k_6 rfl (by decide) (hts _ tw_314) (fun _ h9 => h9) dX1_giveBack_31 ?_
    refine tg_aald (u := 24) hx hb hK hw h_vu_7 rfl rfl 0 8 r_v_5 (by decide) (fun _ _ _ => rfl) dX1_giveBack_34 (fun b_8 h_b_8 => ?_)
    refine tk_v (va_runV (As := [.ref b_8]) (rest := []) ⟨hx, hb, hml, hown, hts⟩ (c_X8_takeFrom l D cy z H.size Ps ws hw.1 p1 b_8 h_p1 h_b_8) (cwV 1 hts (gV tw_610 tw_522 tw_523 tw_12 tw_524) rfl rfl rfl (by decide +kernel) ⟨Nat.le_of_ble_eq_true rfl, Nat.le_of_ble_eq_true rfl⟩) (tg_preV hw hK hSD hA (ci := 8) (q := (RX8, TX8, 13)) rfl h_p1 rfl) rfl rfl hl.1 rfl (lv_room (Nat.le_of_ble_eq_true rfl)) dX1_giveBack_35 ⟨Nat.le_of_ble_eq_true rfl, Nat.le_of_ble_eq_true rfl⟩) hw hA ⟨by decide, by decide⟩ (fun ws H locs hp_v_9 hw hF9 => ?_)
    have m_u_1 := FLD.over hF9 m_u_1 (by decide)
    have n_k_6 := FLD.over hF9 n_k_6 (by decide)
    refine lv_aload_n hx hb dX1_giveBack_38 rfl (lv_at hl 0 rfl) ?_
    refine lv_dup hx hb dX1_giveBack_39 rfl ?_
    refine tg_mem (ci := 1) (C := RX1) (T := TX1) (N := 3) hx hb hts inX1 hown hK hw 2 m_u_1 rfl (by decide) (hts _ tw_315) (fun _ h9 => h9) dX1_giveBack_40 ?_
    refine lv_iconst (v := 1) hx hb dX1_giveBack_43 (by decide) ?_
    refine lv_isub hx hb dX1_giveBack_44 (lv_topi (fun v_10 e_v_10 => ?_))
    have r_v_10 := ri_any v_10
    refine tg_put (ci := 1) (ts := ty_HIST) (v := .int v_10) (ty := .int) (C := RX1) (T := TX1) (N := 3) hx hb hts inX1 tyX1 tyX1_ok nmX1 hown hK hw h_p0 rfl rfl 2 (by decide) (hts _ tw_315) (fun _ h9 => h9) rfl (by decide +kernel) rfl rfl (ft := vI (-2147483648) 2147483647) rfl ⟨_, rfl, r_v_10⟩ (by decide) dX1_giveBack_45 (fun ws H locs hw n_k_11 hF9 => ?_)
    have n_k_6 := FLD.over hF9 n_k_6 (by decide)
    refine lv_aload_n hx hb dX1_giveBack_48 rfl (lv_at hl 0 rfl) ?_
    refine tg_mem (ci := 1) (C := RX1) (T := TX1) (N := 3) hx hb hts inX1 hown hK hw 2 n_k_11 rfl (by decide) (hts _ tw_315) (fun _ h9 => h9) dX1_giveBack_49 ?_
    subst hQ
    exact W.iret (v := v_10) hx hb hr (fun t ht hW => ⟨⟨v_10, ws, rfl, ⟨⟨r_v_10.to (by decide), (fun h0 => trivial), (fun h0 => trivial)⟩, hw.1, hw.2.2.2.2.1⟩, by rw [ht]; exact hw.2.1, va_K.moved hW.alike hK, hw.2.2.1⟩, hw.2.2.2.1.F ht⟩) hw.2.2.2.1.2.2 dX1_giveBack_52
  · have r_vu_1 : RI vu_1 0 0 := rc_eq1 r_vu_1 rl_0 (ti_eq c_4) (by decide)
    refine lv_iconst (v := (-1)) hx hb dX1_giveBack_7 (by decide) ?_
    subst hQ
    exact W.iret (v := (-1)) hx hb hr (fun t ht hW => ⟨⟨(-1), w0, rfl, ⟨⟨rl_m1.to (by decide), (fun _ => trivial), (fun h0 => trivial)⟩, hw.1, hw.2.2.2.2.1⟩, by rw [ht]; exact hw.2.1, va_K.moved hW.alike hK, hw.2.2.1⟩, hw.2.2.2.1.F ht⟩) hw.2.2.2.1.2.2 dX1_giveBack_8
abbrev wr_X1_keep : List (Nat × Nat) := [(1, 1), (1, 2)]
abbrev wa_X1_keep : List Nat := []
set_option maxHeartbeats 4000000 in
set_option maxRecDepth 100000 in
theorem c_X1_keep (l : Launch) (D : va_G) (cy : Nat → ClassId) (z : Nat → Nat) (sz : Nat) (Ps : PSI) (w0 : va_W) (hT : HT cy GG Ps w0) (p0 : Nat) (h_p0 : (p0, 27) ∈ Ps) : Met l yX1_keep (Cond.code yX1_keep cX1_keep 1 none :: gT) ({ frames := 2, cells := 0, slots := 0, locals := 400 } : Room) (va_Pc [.ref p0] (PRE D cy z w0 sz)) (va_Qv (fun (u : va_W) => (True) ∧ HT cy GG Ps u ∧ FR wr_X1_keep wa_X1_keep Ps w0 u) (BB D cy (va_A w0 sz) (fun (u : va_W) => u)) (va_A w0 sz)) 0 0 (va_A w0 sz) := by
  refine Met.ofW (cc := cX1_keep) (maxL := 1) (ret := none) (by decide) rfl ?_
  intro p e s m args below meth c s₁ B hml hv
  obtain ⟨rfl, hsz, hP, hK, hD0, hSD⟩ := hv
  have hx := B.exec
  have hb := B.bytes
  have hr := B.returns
  have hlocks := B.notSynchronized
  have hts : ∀ w ∈ gT, w.before _ s = true := fun w h => atoms_spec (ws := Cond.code yX1_keep cX1_keep 1 none :: gT) B.pre w (List.mem_cons_of_mem _ h)
  have hown : s.vm.findClass RX1 = some m.cls := findClass_of_methodNamed B.named
  subst hsz
  have hD := hD0.self (sz := s.heap.size)
  generalize hAe : va_A w0 s.heap.size = A at hD hSD ⊢
  have hA : ∀ q : Nat, s.heap.size ≤ q → A q := fun q h => by rw [← hAe]; exact Or.inr h
  have hl := lv_entry ([.ref p0]) (n := 1) (Nat.le_of_ble_eq_true rfl)
  rw [lg_entry_eq]
  generalize (lg_sl ([.ref p0]) ++ List.replicate (1 - (lg_sl ([.ref p0])).length) Slot.unset).toArray = ls at hl ⊢
  have hl : lv_has ls 1 [(0, .ref p0)] := hl
  refine nameQ (fun Q hQ => ?_)
  have hw : WD D cy GG A s wr_X1_keep wa_X1_keep Ps w0 Ps w0 s.heap [] := ⟨hT, hP, hD, va_S.rf, FR.rf, hT.1, [], (List.append_nil _).symm⟩
  refine lv_aload_n hx hb dX1_keep_0 rfl (lv_at hl 0 rfl) ?_
  refine lv_aload_n hx hb dX1_keep_1 rfl (lv_at hl 0 rfl) ?_
  refine tg_get (ci := 1) (ts := ty_HIST) (C := RX1) (T := TX1) (N := 3) hx hb hts inX1 hown hK hw h_p0 rfl rfl 1 (by decide) (hts _ tw_314) (fun _ h9 => h9) (ft := vI 0 8) rfl dX1_keep_2 (fun u_1 hv_u_1 m_u_1 => ?_)
  obtain ⟨vu_1, rfl, r_vu_1⟩ := hv_u_1
  refine lv_iconst (v := 1) hx hb dX1_keep_5 (by decide) ?_
  refine lv_iadd hx hb dX1_keep_6 (lv_topi (fun v_2 e_v_2 => ?_))
  obtain ⟨t_v_2, r_v_2⟩ := tq_add (lo := 1) (hi := 9) r_vu_1 rl_1 (by decide +kernel) e_v_2
  have t_v_2 : v_2.toInt = vu_1.toInt + 1 := t_v_2
  refine lv_bipush (v := 9) hx hb dX1_keep_7 (by decide) ?_
  refine lv_irem hx hb dX1_keep_9 (ri_ne0 rl_9 (by decide)) (lv_topi (fun v_3 e_v_3 => ?_))
  have r_v_3 : RI v_3 0 8 := by rw [e_v_3]; exact ri_rem (b := 9) (r_v_2.to (by decide)) rl_9 (by decide)
  refine tg_put (ci := 1) (ts := ty_HIST) (v := .int v_3) (ty := .int) (C := RX1) (T := TX1) (N := 3) hx hb hts inX1 tyX1 tyX1_ok nmX1 hown hK hw h_p0 rfl rfl 1 (by decide) (hts _ tw_314) (fun _ h9 => h9) rfl (by decide +kernel) rfl rfl (ft := vI 0 8) rfl ⟨_, rfl, r_v_3⟩ (by decide) dX1_keep_10 (fun ws H locs hw n_k_4 hF9 => ?_)
  refine lv_aload_n hx hb dX1_keep_13 rfl (lv_at hl 0 rfl) ?_
  refine lv_bipush (v := 8) hx hb dX1_keep_14 (by decide) ?_
  refine lv_aload_n hx hb dX1_keep_16 rfl (lv_at hl 0 rfl) ?_
  refine tg_get (ci := 1) (ts := ty_HIST) (C := RX1) (T := TX1) (N := 3) hx hb hts inX1 hown hK hw h_p0 rfl rfl 2 (by decide) (hts _ tw_315) (fun _ h9 => h9) (ft := vI (-2147483648) 2147483647) rfl dX1_keep_17 (fun u_5 hv_u_5 m_u_5 => ?_)
  obtain ⟨vu_5, rfl, r_vu_5⟩ := hv_u_5
  refine lv_iconst (v := 1) hx hb dX1_keep_20 (by decide) ?_
  refine lv_iadd hx hb dX1_keep_21 (lv_topi (fun v_6 e_v_6 => ?_))
  have r_v_6 := ri_any v_6
  refine va_mmin hx hb (hml.trans hl.1.symm) hown (hts _ tw_623) (hts _ tw_486) (hts _ tw_16) (hts _ tw_487) (Nat.le_of_ble_eq_true rfl) (Nat.le_of_ble_eq_true rfl) (Nat.le_of_ble_eq_true rfl) (Nat.le_of_ble_eq_true rfl) dX1_keep_22 (lv_topi (fun v_7 e_v_7 => ?_))
  have r_v_7 : RI v_7 (-2147483648) 8 := by rw [e_v_7]; exact ri_min rl_8 r_v_6 (by decide)
  refine tg_put (ci := 1) (ts := ty_HIST) (v := .int v_7) (ty := .int) (C := RX1) (T := TX1) (N := 3) hx hb hts inX1 tyX1 tyX1_ok nmX1 hown hK hw h_p0 rfl rfl 2 (by decide) (hts _ tw_315) (fun _ h9 => h9) rfl (by decide +kernel) rfl rfl (ft := vI (-2147483648) 2147483647) rfl ⟨_, rfl, (r_v_7.to (by decide))⟩ (by decide) dX1_keep_25 (fun ws H locs hw n_k_8 hF9 => ?_)
  have n_k_4 := FLD.over hF9 n_k_4 (by decide)
  subst hQ
  exact W.vret hx hb hr (fun t ht hW => ⟨⟨ws, rfl, ⟨trivial, hw.1, hw.2.2.2.2.1⟩, by rw [ht]; exact hw.2.1, va_K.moved hW.alike hK, hw.2.2.1⟩, hw.2.2.2.1.F ht⟩) hw.2.2.2.1.2.2 dX1_keep_28
abbrev wr_X1_prepare : List (Nat × Nat) := [(8, 0), (8, 1)]
abbrev wa_X1_prepare : List Nat := [8, 9, 10, 11, 12, 13]
set_option maxHeartbeats 4000000 in
set_option maxRecDepth 100000 in
theorem c_X1_prepare (l : Launch) (D : va_G) (cy : Nat → ClassId) (z : Nat → Nat) (sz : Nat) (Ps : PSI) (w0 : va_W) (hT : HT cy GG Ps w0) (p0 : Nat) (p1 : Nat) (h_p0 : (p0, 27) ∈ Ps) (h_p1 : (p1, 24) ∈ Ps) : Met l yX1_prepare (Cond.code yX1_prepare cX1_prepare 2 none :: gT) ({ frames := 3, cells := 0, slots := 0, locals := 600 } : Room) (va_Pc [.ref p0, .ref p1] (PRE D cy z w0 sz)) (va_Qv (fun (u : va_W) => (True) ∧ HT cy GG Ps u ∧ FR wr_X1_prepare wa_X1_prepare Ps w0 u) (BB D cy (va_A w0 sz) (fun (u : va_W) => u)) (va_A w0 sz)) 0 0 (va_A w0 sz) := by
  refine Met.ofW (cc := cX1_prepare) (maxL := 2) (ret := none) (by decide) rfl ?_
  intro p e s m args below meth c s₁ B hml hv
  obtain ⟨rfl, hsz, hP, hK, hD0, hSD⟩ := hv
  have hx := B.exec
  have hb := B.bytes
  have hr := B.returns
  have hlocks := B.notSynchronized
  have hts : ∀ w ∈ gT, w.before _ s = true := fun w h => atoms_spec (ws := Cond.code yX1_prepare cX1_prepare 2 none :: gT) B.pre w (List.mem_cons_of_mem _ h)
  have hown : s.vm.findClass RX1 = some m.cls := findClass_of_methodNamed B.named
  subst hsz
  have hD := hD0.self (sz := s.heap.size)
  generalize hAe : va_A w0 s.heap.size = A at hD hSD ⊢
  have hA : ∀ q : Nat, s.heap.size ≤ q → A q := fun q h => by rw [← hAe]; exact Or.inr h
  have hl := lv_entry ([.ref p0, .ref p1]) (n := 2) (Nat.le_of_ble_eq_true rfl)
  rw [lg_entry_eq]
  generalize (lg_sl ([.ref p0, .ref p1]) ++ List.replicate (2 - (lg_sl ([.ref p0, .ref p1])).length) Slot.unset).toArray = ls at hl ⊢
  have hl : lv_has ls 2 [(0, .ref p0), (1, .ref p1)] := hl
  refine nameQ (fun Q hQ => ?_)
  have hw : WD D cy GG A s wr_X1_prepare wa_X1_prepare Ps w0 Ps w0 s.heap [] := ⟨hT, hP, hD, va_S.rf, FR.rf, hT.1, [], (List.append_nil _).symm⟩
  refine lv_aload_n hx hb dX1_prepare_0 rfl (lv_at hl 0 rfl) ?_
  refine tg_get (ci := 1) (ts := ty_HIST) (C := RX1) (T := TX1) (N := 3) hx hb hts inX1 hown hK hw h_p0 rfl rfl 0 (by decide) (hts _ tw_313) (fun _ h9 => h9) (ft := vR 22) rfl dX1_prepare_1 (fun u_1 hv_u_1 m_u_1 => ?_)
  obtain ⟨vu_1, rfl, h_vu_1⟩ := hv_u_1
  refine lv_aload_n hx hb dX1_prepare_4 rfl (lv_at hl 0 rfl) ?_
  refine tg_get (ci := 1) (ts := ty_HIST) (C := RX1) (T := TX1) (N := 3) hx hb hts inX1 hown hK hw h_p0 rfl rfl 1 (by decide) (hts _ tw_314) (fun _ h9 => h9) (ft := vI 0 8) rfl dX1_prepare_5 (fun u_2 hv_u_2 m_u_2 => ?_)
  obtain ⟨vu_2, rfl, r_vu_2⟩ := hv_u_2
  refine tg_aald (u := 24) hx hb hK hw h_vu_1 rfl rfl 0 8 r_vu_2 (by decide) (fun _ _ _ => rfl) dX1_prepare_8 (fun b_3 h_b_3 => ?_)
  refine lv_aload_n hx hb dX1_prepare_9 rfl (lv_at hl 1 rfl) ?_
  refine tk_v (va_runV (As := [.ref p1]) (rest := []) ⟨hx, hb, hml, hown, hts⟩ (c_X8_takeFrom l D cy z s.heap.size Ps w0 hw.1 b_3 p1 h_b_3 h_p1) (cwV 1 hts (gV tw_610 tw_522 tw_523 tw_12 tw_524) rfl rfl rfl (by decide +kernel) ⟨Nat.le_of_ble_eq_true rfl, Nat.le_of_ble_eq_true rfl⟩) (tg_preV hw hK hSD hA (ci := 8) (q := (RX8, TX8, 13)) rfl h_b_3 rfl) rfl rfl hl.1 rfl (lv_room (Nat.le_of_ble_eq_true rfl)) dX1_prepare_10 ⟨Nat.le_of_ble_eq_true rfl, Nat.le_of_ble_eq_true rfl⟩) hw hA ⟨by decide, by decide⟩ (fun ws H locs hp_v_4 hw hF9 => ?_)
  have m_u_2 := FLD.over hF9 m_u_2 (by decide)
  subst hQ
  exact W.vret hx hb hr (fun t ht hW => ⟨⟨ws, rfl, ⟨trivial, hw.1, hw.2.2.2.2.1⟩, by rw [ht]; exact hw.2.1, va_K.moved hW.alike hK, hw.2.2.1⟩, hw.2.2.2.1.F ht⟩) hw.2.2.2.1.2.2 dX1_prepare_13
abbrev wr_X2_take : List (Nat × Nat) := [(2, 1), (2, 2), (8, 0), (8, 1)]
abbrev wa_X2_take : List Nat := [8, 9, 10, 11, 12, 13]
set_option maxHeartbeats 4000000 in
set_option maxRecDepth 100000 in
theorem c_X2_take (l : Launch) (D : va_G) (cy : Nat → ClassId) (z : Nat → Nat) (sz : Nat) (Ps : PSI) (w0 : va_W) (hT : HT cy GG Ps w0) (p0 : Nat) (p1 : Nat) (p2 : Nat) (h_p0 : (p0, 28) ∈ Ps) (h_p1 : (p1, 24) ∈ Ps) (h_p2 : (p2, 32) ∈ Ps) : Met l yX2_take (Cond.code yX2_take cX2_take 3 none :: gT) ({ frames := 3, cells := 0, slots := 0, locals := 600 } : Room) (va_Pc [.ref p0, .ref p1, .ref p2] (PRE D cy z w0 sz)) (va_Qv (fun (u : va_W) => (True) ∧ HT cy GG Ps u ∧ FR wr_X2_take wa_X2_take Ps w0 u) (BB D cy (va_A w0 sz) (fun (u : va_W) => u)) (va_A w0 sz)) 0 0 (va_A w0 sz) := by
  refine Met.ofW (cc := cX2_take) (maxL := 3) (ret := none) (by decide) rfl ?_
  intro p e s m args below meth c s₁ B hml hv
  obtain ⟨rfl, hsz, hP, hK, hD0, hSD⟩ := hv
  have hx := B.exec
  have hb := B.bytes
  have hr := B.returns
  have hlocks := B.notSynchronized
  have hts : ∀ w ∈ gT, w.before _ s = true := fun w h => atoms_spec (ws := Cond.code yX2_take cX2_take 3 none :: gT) B.pre w (List.mem_cons_of_mem _ h)
  have hown : s.vm.findClass RX2 = some m.cls := findClass_of_methodNamed B.named
  subst hsz
  have hD := hD0.self (sz := s.heap.size)
  generalize hAe : va_A w0 s.heap.size = A at hD hSD ⊢
  have hA : ∀ q : Nat, s.heap.size ≤ q → A q := fun q h => by rw [← hAe]; exact Or.inr h
  have hl := lv_entry ([.ref p0, .ref p1, .ref p2]) (n := 3) (Nat.le_of_ble_eq_true rfl)
  rw [lg_entry_eq]
  generalize (lg_sl ([.ref p0, .ref p1, .ref p2]) ++ List.replicate (3 - (lg_sl ([.ref p0, .ref p1, .ref p2])).length) Slot.unset).toArray = ls at hl ⊢
  have hl : lv_has ls 3 [(0, .ref p0), (1, .ref p1), (2, .ref p2)] := hl
  refine nameQ (fun Q hQ => ?_)
  have hw : WD D cy GG A s wr_X2_take wa_X2_take Ps w0 Ps w0 s.heap [] := ⟨hT, hP, hD, va_S.rf, FR.rf, hT.1, [], (List.append_nil _).symm⟩
  refine lv_aload_n hx hb dX2_take_0 rfl (lv_at hl 0 rfl) ?_
  refine tg_get (ci := 2) (ts := ty_IMAGE) (C := RX2) (T := TX2) (N := 3) hx hb hts inX2 hown hK hw h_p0 rfl rfl 0 (by decide) (hts _ tw_332) (fun _ h9 => h9) (ft := vR 24) rfl dX2_take_1 (fun u_1 hv_u_1 m_u_1 => ?_)
  obtain ⟨vu_1, rfl, h_vu_1⟩ := hv_u_1
  refine lv_aload_n hx hb dX2_take_4 rfl (lv_at hl 1 rfl) ?_
  refine tk_v (va_runV (As := [.ref p1]) (rest := []) ⟨hx, hb, hml, hown, hts⟩ (c_X8_takeFrom l D cy z s.heap.size Ps w0 hw.1 vu_1 p1 h_vu_1 h_p1) (cwV 1 hts (gV tw_1026 tw_522 tw_523 tw_12 tw_524) rfl rfl rfl (by decide +kernel) ⟨Nat.le_of_ble_eq_true rfl, Nat.le_of_ble_eq_true rfl⟩) (tg_preV hw hK hSD hA (ci := 8) (q := (RX8, TX8, 13)) rfl h_vu_1 rfl) rfl rfl hl.1 rfl (lv_room (Nat.le_of_ble_eq_true rfl)) dX2_take_5 ⟨Nat.le_of_ble_eq_true rfl, Nat.le_of_ble_eq_true rfl⟩) hw hA ⟨by decide, by decide⟩ (fun ws H locs hp_v_2 hw hF9 => ?_)
  refine lv_aload_n hx hb dX2_take_8 rfl (lv_at hl 0 rfl) ?_
  refine lv_aload_n hx hb dX2_take_9 rfl (lv_at hl 2 rfl) ?_
  refine tg_put (ci := 2) (ts := ty_IMAGE) (v := .ref p2) (ty := .object "WonderParcels$Sentence") (C := RX2) (T := TX2) (N := 3) hx hb hts inX2 tyX2 tyX2_ok nmX2 hown hK hw h_p0 rfl rfl 1 (by decide) (hts _ tw_334) (fun _ h9 => h9) rfl (by decide +kernel) rfl rfl (ft := vN 32) rfl (Or.inr ⟨_, rfl, h_p2⟩) (by decide) dX2_take_10 (fun ws H locs hw n_k_3 hF9 => ?_)
  refine lv_aload_n hx hb dX2_take_13 rfl (lv_at hl 0 rfl) ?_
  refine lv_iconst (v := 1) hx hb dX2_take_14 (by decide) ?_
  refine tg_put (ci := 2) (ts := ty_IMAGE) (v := .int 1) (ty := .boolean) (C := RX2) (T := TX2) (N := 3) hx hb hts inX2 tyX2 tyX2_ok nmX2 hown hK hw h_p0 rfl rfl 2 (by decide) (hts _ tw_336) (fun _ h9 => h9) rfl (by decide +kernel) rfl rfl (ft := vI 0 1) rfl ⟨_, rfl, (rl_1.to (by decide))⟩ (by decide) dX2_take_15 (fun ws H locs hw n_k_4 hF9 => ?_)
  subst hQ
  exact W.vret hx hb hr (fun t ht hW => ⟨⟨ws, rfl, ⟨trivial, hw.1, hw.2.2.2.2.1⟩, by rw [ht]; exact hw.2.1, va_K.moved hW.alike hK, hw.2.2.1⟩, hw.2.2.2.1.F ht⟩) hw.2.2.2.1.2.2 dX2_take_18
abbrev wr_X2_take__1 : List (Nat × Nat) := [(2, 1), (2, 2), (8, 0), (8, 1)]
abbrev wa_X2_take__1 : List Nat := [8, 9, 10, 11, 12, 13]
set_option maxHeartbeats 4000000 in
set_option maxRecDepth 100000 in
theorem c_X2_take__1 (l : Launch) (D : va_G) (cy : Nat → ClassId) (z : Nat → Nat) (sz : Nat) (Ps : PSI) (w0 : va_W) (hT : HT cy GG Ps w0) (p0 : Nat) (p1 : Nat) (h_p0 : (p0, 28) ∈ Ps) (h_p1 : (p1, 24) ∈ Ps) : Met l yX2_take (Cond.code yX2_take cX2_take 3 none :: gT) ({ frames := 3, cells := 0, slots := 0, locals := 600 } : Room) (va_Pc [.ref p0, .ref p1, .null] (PRE D cy z w0 sz)) (va_Qv (fun (u : va_W) => (True) ∧ HT cy GG Ps u ∧ FR wr_X2_take__1 wa_X2_take__1 Ps w0 u) (BB D cy (va_A w0 sz) (fun (u : va_W) => u)) (va_A w0 sz)) 0 0 (va_A w0 sz) := by
  refine Met.ofW (cc := cX2_take) (maxL := 3) (ret := none) (by decide) rfl ?_
  intro p e s m args below meth c s₁ B hml hv
  obtain ⟨rfl, hsz, hP, hK, hD0, hSD⟩ := hv
  have hx := B.exec
  have hb := B.bytes
  have hr := B.returns
  have hlocks := B.notSynchronized
  have hts : ∀ w ∈ gT, w.before _ s = true := fun w h => atoms_spec (ws := Cond.code yX2_take cX2_take 3 none :: gT) B.pre w (List.mem_cons_of_mem _ h)
  have hown : s.vm.findClass RX2 = some m.cls := findClass_of_methodNamed B.named
  subst hsz
  have hD := hD0.self (sz := s.heap.size)
  generalize hAe : va_A w0 s.heap.size = A at hD hSD ⊢
  have hA : ∀ q : Nat, s.heap.size ≤ q → A q := fun q h => by rw [← hAe]; exact Or.inr h
  have hl := lv_entry ([.ref p0, .ref p1, .null]) (n := 3) (Nat.le_of_ble_eq_true rfl)
  rw [lg_entry_eq]
  generalize (lg_sl ([.ref p0, .ref p1, .null]) ++ List.replicate (3 - (lg_sl ([.ref p0, .ref p1, .null])).length) Slot.unset).toArray = ls at hl ⊢
  have hl : lv_has ls 3 [(0, .ref p0), (1, .ref p1), (2, .null)] := hl
  refine nameQ (fun Q hQ => ?_)
  have hw : WD D cy GG A s wr_X2_take__1 wa_X2_take__1 Ps w0 Ps w0 s.heap [] := ⟨hT, hP, hD, va_S.rf, FR.rf, hT.1, [], (List.append_nil _).symm⟩
  refine lv_aload_n hx hb dX2_take_0 rfl (lv_at hl 0 rfl) ?_
  refine tg_get (ci := 2) (ts := ty_IMAGE) (C := RX2) (T := TX2) (N := 3) hx hb hts inX2 hown hK hw h_p0 rfl rfl 0 (by decide) (hts _ tw_332) (fun _ h9 => h9) (ft := vR 24) rfl dX2_take_1 (fun u_1 hv_u_1 m_u_1 => ?_)
  obtain ⟨vu_1, rfl, h_vu_1⟩ := hv_u_1
  refine lv_aload_n hx hb dX2_take_4 rfl (lv_at hl 1 rfl) ?_
  refine tk_v (va_runV (As := [.ref p1]) (rest := []) ⟨hx, hb, hml, hown, hts⟩ (c_X8_takeFrom l D cy z s.heap.size Ps w0 hw.1 vu_1 p1 h_vu_1 h_p1) (cwV 1 hts (gV tw_1026 tw_522 tw_523 tw_12 tw_524) rfl rfl rfl (by decide +kernel) ⟨Nat.le_of_ble_eq_true rfl, Nat.le_of_ble_eq_true rfl⟩) (tg_preV hw hK hSD hA (ci := 8) (q := (RX8, TX8, 13)) rfl h_vu_1 rfl) rfl rfl hl.1 rfl (lv_room (Nat.le_of_ble_eq_true rfl)) dX2_take_5 ⟨Nat.le_of_ble_eq_true rfl, Nat.le_of_ble_eq_true rfl⟩) hw hA ⟨by decide, by decide⟩ (fun ws H locs hp_v_2 hw hF9 => ?_)
  refine lv_aload_n hx hb dX2_take_8 rfl (lv_at hl 0 rfl) ?_
  refine lv_aload_nN hx hb dX2_take_9 rfl (lv_at hl 2 rfl) ?_
  refine tg_put (ci := 2) (ts := ty_IMAGE) (v := .null) (ty := .object "WonderParcels$Sentence") (C := RX2) (T := TX2) (N := 3) hx hb hts inX2 tyX2 tyX2_ok nmX2 hown hK hw h_p0 rfl rfl 1 (by decide) (hts _ tw_334) (fun _ h9 => h9) rfl (by decide +kernel) rfl rfl (ft := vN 32) rfl (Or.inl rfl) (by decide) dX2_take_10 (fun ws H locs hw n_k_3 hF9 => ?_)
  refine lv_aload_n hx hb dX2_take_13 rfl (lv_at hl 0 rfl) ?_
  refine lv_iconst (v := 1) hx hb dX2_take_14 (by decide) ?_
  refine tg_put (ci := 2) (ts := ty_IMAGE) (v := .int 1) (ty := .boolean) (C := RX2) (T := TX2) (N := 3) hx hb hts inX2 tyX2 tyX2_ok nmX2 hown hK hw h_p0 rfl rfl 2 (by decide) (hts _ tw_336) (fun _ h9 => h9) rfl (by decide +kernel) rfl rfl (ft := vI 0 1) rfl ⟨_, rfl, (rl_1.to (by decide))⟩ (by decide) dX2_take_15 (fun ws H locs hw n_k_4 hF9 => ?_)
  subst hQ
  exact W.vret hx hb hr (fun t ht hW => ⟨⟨ws, rfl, ⟨trivial, hw.1, hw.2.2.2.2.1⟩, by rw [ht]; exact hw.2.1, va_K.moved hW.alike hK, hw.2.2.1⟩, hw.2.2.2.1.F ht⟩) hw.2.2.2.1.2.2 dX2_take_18
abbrev wr_X6_put : List (Nat × Nat) := [(6, 1)]
abbrev wa_X6_put : List Nat := [3]
set_option maxHeartbeats 4000000 in
set_option maxRecDepth 100000 in
theorem c_X6_put (l : Launch) (D : va_G) (cy : Nat → ClassId) (z : Nat → Nat) (sz : Nat) (Ps : PSI) (w0 : va_W) (hT : HT cy GG Ps w0) (p0 : Nat) (p1 : Int32) (h_p0 : (p0, 30) ∈ Ps) (r_p1 : RI p1 (-2147483648) 2147483647) : Met l yX6_put (Cond.code yX6_put cX6_put 2 none :: gT) ({ frames := 0, cells := 0, slots := 0, locals := 200 } : Room) (va_Pc [.ref p0, .int p1] (PRE D cy z w0 sz)) (va_Qv (fun (u : va_W) => ((∃ v9 : Int32, FLD u p0 6 1 (.int v9) ∧ RI v9 1 26) ∧ True) ∧ HT cy GG Ps u ∧ FR wr_X6_put wa_X6_put Ps w0 u) (BB D cy (va_A w0 sz) (fun (u : va_W) => u)) (va_A w0 sz)) 0 0 (va_A w0 sz) := by
  refine Met.ofW (cc := cX6_put) (maxL := 2) (ret := none) (by decide) rfl ?_
  intro p e s m args below meth c s₁ B hml hv
  obtain ⟨rfl, hsz, hP, hK, hD0, hSD⟩ := hv
  have hx := B.exec
  have hb := B.bytes
  have hr := B.returns
  have hlocks := B.notSynchronized
  have hts : ∀ w ∈ gT, w.before _ s = true := fun w h => atoms_spec (ws := Cond.code yX6_put cX6_put 2 none :: gT) B.pre w (List.mem_cons_of_mem _ h)
  have hown : s.vm.findClass RX6 = some m.cls := findClass_of_methodNamed B.named
  subst hsz
  have hD := hD0.self (sz := s.heap.size)
  generalize hAe : va_A w0 s.heap.size = A at hD hSD ⊢
  have hA : ∀ q : Nat, s.heap.size ≤ q → A q := fun q h => by rw [← hAe]; exact Or.inr h
  have hl := lv_entry ([.ref p0, .int p1]) (n := 2) (Nat.le_of_ble_eq_true rfl)
  rw [lg_entry_eq]
  generalize (lg_sl ([.ref p0, .int p1]) ++ List.replicate (2 - (lg_sl ([.ref p0, .int p1])).length) Slot.unset).toArray = ls at hl ⊢
  have hl : lv_has ls 2 [(0, .ref p0), (1, .int p1)] := hl
  refine nameQ (fun Q hQ => ?_)
  have hw : WD D cy GG A s wr_X6_put wa_X6_put Ps w0 Ps w0 s.heap [] := ⟨hT, hP, hD, va_S.rf, FR.rf, hT.1, [], (List.append_nil _).symm⟩
  refine lv_aload_n hx hb dX6_put_0 rfl (lv_at hl 0 rfl) ?_
  refine tg_get (ci := 6) (ts := ty_TAG) (C := RX6) (T := TX6) (N := 2) hx hb hts inX6 hown hK hw h_p0 rfl rfl 1 (by decide) (hts _ tw_185) (fun _ h9 => h9) (ft := vI 0 26) rfl dX6_put_1 (fun u_1 hv_u_1 m_u_1 => ?_)
  obtain ⟨vu_1, rfl, r_vu_1⟩ := hv_u_1
  refine lv_aload_n hx hb dX6_put_4 rfl (lv_at hl 0 rfl) ?_
  refine tg_get (ci := 6) (ts := ty_TAG) (C := RX6) (T := TX6) (N := 2) hx hb hts inX6 hown hK hw h_p0 rfl rfl 0 (by decide) (hts _ tw_183) (fun _ h9 => h9) (ft := vR 3) rfl dX6_put_5 (fun u_2 hv_u_2 m_u_2 => ?_)
  obtain ⟨vu_2, rfl, h_vu_2⟩ := hv_u_2
  refine tg_alenI (t0 := 0) (v := 26) hx hb hK hw h_vu_2 rfl rfl rfl dX6_put_8 ?_
  refine lv_icmp_ge (tgt := 33) hx hb dX6_put_9 (by decide) (fun c_9 => ?_) (fun c_9 => ?_)
  · have r_vu_1 : RI vu_1 26 26 := rc_le2 rl_26 r_vu_1 (ti_le c_9) (by decide)
    subst hQ
    exact W.vret hx hb hr (fun t ht hW => ⟨⟨w0, rfl, ⟨⟨⟨_, m_u_1, (r_vu_1.to (by decide))⟩, trivial⟩, hw.1, hw.2.2.2.2.1⟩, by rw [ht]; exact hw.2.1, va_K.moved hW.alike hK, hw.2.2.1⟩, hw.2.2.2.1.F ht⟩) hw.2.2.2.1.2.2 dX6_put_33
  · have r_vu_1 : RI vu_1 0 25 := rc_lt1 r_vu_1 rl_26 (ti_nle c_9) (by decide)
    refine lv_aload_n hx hb dX6_put_12 rfl (lv_at hl 0 rfl) ?_
    refine tg_mem (ci := 6) (C := RX6) (T := TX6) (N := 2) hx hb hts inX6 hown hK hw 0 m_u_2 rfl (by decide) (hts _ tw_183) (fun _ h9 => h9) dX6_put_13 ?_
    refine lv_aload_n hx hb dX6_put_16 rfl (lv_at hl 0 rfl) ?_
    refine tg_mem (ci := 6) (C := RX6) (T := TX6) (N := 2) hx hb hts inX6 hown hK hw 1 m_u_1 rfl (by decide) (hts _ tw_185) (fun _ h9 => h9) dX6_put_17 ?_
    refine lv_iload_n hx hb dX6_put_20 rfl (lv_at hl 1 rfl) ?_
    obtain ⟨v_3, e_v_3⟩ : ∃ q9 : Int32, (fun x9 : Int32 => x9.toInt8.toInt32) p1 = q9 := ⟨_, rfl⟩
    refine lv_i2b (v := v_3) hx hb dX6_put_21 e_v_3 ?_
    have r_v_3 : RI v_3 (-128) 127 := by rw [← e_v_3]; exact ri_i2b _
    refine tg_bast hx hb hK hw h_vu_2 rfl 0 25 r_vu_1 (by decide) (by decide) dX6_put_22 (fun ws H locs hw hF9 => ?_)
    have m_u_1 := FLD.over hF9 m_u_1 (by decide)
    refine lv_aload_n hx hb dX6_put_23 rfl (lv_at hl 0 rfl) ?_
    refine lv_dup hx hb dX6_put_24 rfl ?_
    refine tg_mem (ci := 6) (C := RX6) (T := TX6) (N := 2) hx hb hts inX6 hown hK hw 1 m_u_1 rfl (by decide) (hts _ tw_185) (fun _ h9 => h9) dX6_put_25 ?_
    refine lv_iconst (v := 1) hx hb dX6_put_28 (by decide) ?_
    refine lv_iadd hx hb dX6_put_29 (lv_topi (fun v_4 e_v_4 => ?_))
    obtain ⟨t_v_4, r_v_4⟩ := tq_add (lo := 1) (hi := 26) r_vu_1 rl_1 (by decide +kernel) e_v_4
    have t_v_4 : v_4.toInt = vu_1.toInt + 1 := t_v_4
    refine tg_put (ci := 6) (ts := ty_TAG) (v := .int v_4) (ty := .int) (C := RX6) (T := TX6) (N := 2) hx hb hts inX6 tyX6 tyX6_ok nmX6 hown hK hw h_p0 rfl rfl 1 (by decide) (hts _ tw_185) (fun _ h9 => h9) rfl (by decide +kernel) rfl rfl (ft := vI 0 26) rfl ⟨_, rfl, (r_v_4.to (by decide))⟩ (by decide) dX6_put_30 (fun ws H locs hw n_k_5 hF9 => ?_)
    subst hQ
    exact W.vret hx hb hr (fun t ht hW => ⟨⟨ws, rfl, ⟨⟨⟨_, n_k_5, r_v_4⟩, trivial⟩, hw.1, hw.2.2.2.2.1⟩, by rw [ht]; exact hw.2.1, va_K.moved hW.alike hK, hw.2.2.1⟩, hw.2.2.2.1.F ht⟩) hw.2.2.2.1.2.2 dX6_put_33
abbrev wr_X6_putName : List (Nat × Nat) := [(6, 1)]
abbrev wa_X6_putName : List Nat := [3]
set_option maxHeartbeats 4000000 in
set_option maxRecDepth 100000 in
theorem c_X6_putName (l : Launch) (D : va_G) (cy : Nat → ClassId) (z : Nat → Nat) (sz : Nat) (Ps : PSI) (w0 : va_W) (hT : HT cy GG Ps w0) (p0 : Nat) (p1 : Int64) (h_p0 : (p0, 30) ∈ Ps) (r_p1 : RJ p1 (-9223372036854775808) 9223372036854775807) : Met l yX6_putName (Cond.code yX6_putName cX6_putName 5 none :: gT) ({ frames := 2, cells := 0, slots := 0, locals := 400 } : Room) (va_Pc [.ref p0, .long p1] (PRE D cy z w0 sz)) (va_Qv (fun (u : va_W) => (True) ∧ HT cy GG Ps u ∧ FR wr_X6_putName wa_X6_putName Ps w0 u) (BB D cy (va_A w0 sz) (fun (u : va_W) => u)) (va_A w0 sz)) 0 0 (va_A w0 sz) := by
  refine Met.ofW (cc := cX6_putName) (maxL := 5) (ret := none) (by decide) rfl ?_
  intro p e s m args below meth c s₁ B hml hv
  obtain ⟨rfl, hsz, hP, hK, hD0, hSD⟩ := hv
  have hx := B.exec
  have hb := B.bytes
  have hr := B.returns
  have hlocks := B.notSynchronized
  have hts : ∀ w ∈ gT, w.before _ s = true := fun w h => atoms_spec (ws := Cond.code yX6_putName cX6_putName 5 none :: gT) B.pre w (List.mem_cons_of_mem _ h)
  have hown : s.vm.findClass RX6 = some m.cls := findClass_of_methodNamed B.named
  subst hsz
  have hD := hD0.self (sz := s.heap.size)
  generalize hAe : va_A w0 s.heap.size = A at hD hSD ⊢
  have hA : ∀ q : Nat, s.heap.size ≤ q → A q := fun q h => by rw [← hAe]; exact Or.inr h
  have hl := lv_entry ([.ref p0, .long p1]) (n := 5) (Nat.le_of_ble_eq_true rfl)
  rw [lg_entry_eq]
  generalize (lg_sl ([.ref p0, .long p1]) ++ List.replicate (5 - (lg_sl ([.ref p0, .long p1])).length) Slot.unset).toArray = ls at hl ⊢
  have hl : lv_has ls 5 [(0, .ref p0), (1, .long p1)] := hl
  refine nameQ (fun Q hQ => ?_)
  have hw : WD D cy GG A s wr_X6_putName wa_X6_putName Ps w0 Ps w0 s.heap [] := ⟨hT, hP, hD, va_S.rf, FR.rf, hT.1, [], (List.append_nil _).symm⟩
  have B3 : ∀ (nf : Nat) (x3 : Int32) (ws : va_W) (H : Heap) (locs : List Loc) (ls : Array Slot), x3.toInt - (-8) < (nf : Int) → RJ p1 (-9223372036854775808) 9223372036854775807 → RI x3 (-8) 48 → WD D cy GG A s wr_X6_putName wa_X6_putName Ps w0 Ps ws H locs → lv_has ls 5 [(0, .ref p0), (1, .long p1), (3, .int x3)] → W p l e (headSpec (Cond.code yX6_putName cX6_putName 5 none :: gT) ({ frames := 2, cells := 0, slots := 0, locals := 400 } : Room)).room s m ([.ref p0, .long p1] : List Value).toArray below meth c H locs 0 0 Q (F0 m 3 ls []) := by
    intro nf3
    induction nf3 with
    | zero =>
      intro x3 ws H locs ls hn3 r_p1 r_x3 hw hl
      exact absurd hn3 (by have q0 := r_x3.1; have u0 := r_x3.2; omega)
    | succ nf3 ih3 =>
      intro x3 ws H locs ls hn3 r_p1 r_x3 hw hl
      refine lv_iload_n hx hb dX6_putName_3 rfl (lv_at hl 2 rfl) ?_
      refine lv_if_lt (tgt := 34) hx hb dX6_putName_4 (by decide) (fun c_4 => ?_) (fun c_4 => ?_)
      · have r_x3 : RI x3 (-8) (-1) := rc_lt1 r_x3 rl_0 (ti_lt c_4) (by decide)
        subst hQ
        exact W.vret hx hb hr (fun t ht hW => ⟨⟨ws, rfl, ⟨trivial, hw.1, hw.2.2.2.2.1⟩, by rw [ht]; exact hw.2.1, va_K.moved hW.alike hK, hw.2.2.1⟩, hw.2.2.2.1.F ht⟩) hw.2.2.2.1.2.2 dX6_putName_34
      · have r_x3 : RI x3 0 48 := rc_le2 rl_0 r_x3 (ti_nlt c_4) (by decide)
        refine lv_lload_n hx hb dX6_putName_7 rfl (lv_at hl 1 rfl) ?_
        refine lv_iload_n hx hb dX6_putName_8 rfl (lv_at hl 2 rfl) ?_
        obtain ⟨w_1, e_w_1⟩ : ∃ q9 : Int64, (p1 : Int64) >>> ((x3 : Int32).toInt64 &&& 63) = q9 := ⟨_, rfl⟩
        refine lv_lshr (v := w_1) hx hb dX6_putName_9 e_w_1 ?_
        have r_w_1 := rj_any w_1
        obtain ⟨v_2, e_v_2⟩ : ∃ q9 : Int32, (w_1 : Int64).toInt32 = q9 := ⟨_, rfl⟩
        refine lv_l2i (v := v_2) hx hb dX6_putName_10 e_v_2 ?_
        have r_v_2 := ri_any v_2
        refine lv_sipush (v := 255) hx hb dX6_putName_11 (by decide) ?_
        refine lv_iand hx hb dX6_putName_14 (lv_topi (fun v_3 e_v_3 => ?_))
        have r_v_3 : RI v_3 0 255 := by rw [e_v_3]; exact ri_and (d := 255) (rl_255.to (by decide)) (by decide)
        refine lv_istore (lv' := [(4, .int v_3), (0, .ref p0), (1, .long p1), (3, .int x3)]) hx hb dX6_putName_15 hl (by decide) rfl (fun ls hl => ?_)
        refine lv_iload hx hb dX6_putName_17 (lv_at hl 0 rfl) ?_
        refine lv_if_eq (tgt := 28) hx hb dX6_putName_19 (by decide) (fun c_19 => ?_) (fun c_19 => ?_)
        · have r_v_3 : RI v_3 0 0 := rc_eq1 r_v_3 rl_0 (ti_eq c_19) (by decide)
          obtain ⟨v_4, e_v_4⟩ : ∃ q9 : Int32, q9 = x3 + Int32.ofInt (-8) := ⟨_, rfl⟩
          obtain ⟨t_v_4, r_v_4⟩ := tq_add (lo := (-8)) (hi := 40) r_x3 (show RI (Int32.ofInt (-8)) (-8) (-8) by unfold RI; decide +kernel) (by decide +kernel) e_v_4
          have t_v_4 : v_4.toInt = x3.toInt + (-8) := t_v_4
          refine lv_iinc (v := v_4) (lv' := [(3, .int v_4), (4, .int v_3), (0, .ref p0), (1, .long p1)]) hx hb dX6_putName_28 hl (k := 3) rfl e_v_4.symm (by decide) rfl (fun ls hl => ?_)
          refine lv_goto (tgt := 3) hx hb dX6_putName_31 (by decide) ?_
          exact ih3 v_4 ws _ _ ls (by have q0 := r_v_4.1; have u0 := r_v_4.2; have o0 := r_x3.1; have p0 := r_x3.2; omega) r_p1 (r_v_4.to (by decide)) hw (lv_sub hl [2, 3, 0] rfl)
        · have r_v_3 : RI v_3 1 255 := rc_neL r_v_3 rl_0 (ti_ne c_19) (by decide)
          refine lv_aload_n hx hb dX6_putName_22 rfl (lv_at hl 1 rfl) ?_
          refine lv_iload hx hb dX6_putName_23 (lv_at hl 0 rfl) ?_
          refine tk_v (va_runV (As := [.int v_3]) (rest := []) ⟨hx, hb, hml, hown, hts⟩ (c_X6_put l D cy z H.size Ps ws hw.1 p0 v_3 h_p0 (r_v_3.to (by decide))) (cwV 1 hts (gV tw_841 tw_843 ts_23 tw_10 tw_844) rfl rfl rfl (by decide +kernel) ⟨Nat.le_of_ble_eq_true rfl, Nat.le_of_ble_eq_true rfl⟩) (tg_preV hw hK hSD hA (ci := 6) (q := (RX6, TX6, 2)) rfl h_p0 rfl) rfl rfl hl.1 rfl (lv_room (Nat.le_of_ble_eq_true rfl)) dX6_putName_25 ⟨Nat.le_of_ble_eq_true rfl, Nat.le_of_ble_eq_true rfl⟩) hw hA ⟨by decide, by decide⟩ (fun ws H locs hp_v_5 hw hF9 => ?_)
          obtain ⟨v_6, m_v_6, r_v_6⟩ := (hp_v_5.1)
          obtain ⟨v_7, e_v_7⟩ : ∃ q9 : Int32, q9 = x3 + Int32.ofInt (-8) := ⟨_, rfl⟩
          obtain ⟨t_v_7, r_v_7⟩ := tq_add (lo := (-8)) (hi := 40) r_x3 (show RI (Int32.ofInt (-8)) (-8) (-8) by unfold RI; decide +kernel) (by decide +kernel) e_v_7
          have t_v_7 : v_7.toInt = x3.toInt + (-8) := t_v_7
          refine lv_iinc (v := v_7) (lv' := [(3, .int v_7), (4, .int v_3), (0, .ref p0), (1, .long p1)]) hx hb dX6_putName_28 hl (k := 3) rfl e_v_7.symm (by decide) rfl (fun ls hl => ?_)
          refine lv_goto (tgt := 3) hx hb dX6_putName_31 (by decide) ?_
          exact ih3 v_7 ws _ _ ls (by have q0 := r_v_7.1; have u0 := r_v_7.2; have o0 := r_x3.1; have p0 := r_x3.2; omega) r_p1 (r_v_7.to (by decide)) hw (lv_sub hl [2, 3, 0] rfl)
  refine lv_bipush (v := 48) hx hb dX6_putName_0 (by decide) ?_
  refine lv_istore_n (lv' := [(3, .int 48), (0, .ref p0), (1, .long p1)]) hx hb dX6_putName_2 rfl hl (by decide) rfl (fun ls hl => ?_)
  exact B3 4294967298 48 w0 _ _ ls (by have q0 := rl_48.1; have u0 := rl_48.2; omega) r_p1 (rl_48.to (by decide)) hw (lv_sub hl [1, 2, 0] rfl)
abbrev wr_X0_addLine : List (Nat × Nat) := [(0, 3)]
abbrev wa_X0_addLine : List Nat := [18, 19, 20]
set_option maxHeartbeats 4000000 in
set_option maxRecDepth 100000 in
theorem c_X0_addLine (l : Launch) (D : va_G) (cy : Nat → ClassId) (z : Nat → Nat) (sz : Nat) (Ps : PSI) (w0 : va_W) (hT : HT cy GG Ps w0) (p0 : Nat) (p1 : Int32) (p2 : Int32) (p3 : Int32) (h_p0 : (p0, 31) ∈ Ps) (r_p1 : RI p1 (-2147483648) 2147483647) (r_p2 : RI p2 (-2147483648) 2147483647) (r_p3 : RI p3 (-2147483648) 2147483647) : Met l yX0_addLine (Cond.code yX0_addLine cX0_addLine 4 none :: gT) ({ frames := 0, cells := 0, slots := 0, locals := 200 } : Room) (va_Pc [.ref p0, .int p1, .int p2, .int p3] (PRE D cy z w0 sz)) (va_Qv (fun (u : va_W) => ((∃ v9 : Int32, FLD u p0 0 3 (.int v9) ∧ RI v9 1 40) ∧ True) ∧ HT cy GG Ps u ∧ FR wr_X0_addLine wa_X0_addLine Ps w0 u) (BB D cy (va_A w0 sz) (fun (u : va_W) => u)) (va_A w0 sz)) 0 0 (va_A w0 sz) := by
  refine Met.ofW (cc := cX0_addLine) (maxL := 4) (ret := none) (by decide) rfl ?_
  intro p e s m args below meth c s₁ B hml hv
  obtain ⟨rfl, hsz, hP, hK, hD0, hSD⟩ := hv
  have hx := B.exec
  have hb := B.bytes
  have hr := B.returns
  have hlocks := B.notSynchronized
  have hts : ∀ w ∈ gT, w.before _ s = true := fun w h => atoms_spec (ws := Cond.code yX0_addLine cX0_addLine 4 none :: gT) B.pre w (List.mem_cons_of_mem _ h)
  have hown : s.vm.findClass RX0 = some m.cls := findClass_of_methodNamed B.named
  subst hsz
  have hD := hD0.self (sz := s.heap.size)
  generalize hAe : va_A w0 s.heap.size = A at hD hSD ⊢
  have hA : ∀ q : Nat, s.heap.size ≤ q → A q := fun q h => by rw [← hAe]; exact Or.inr h
  have hl := lv_entry ([.ref p0, .int p1, .int p2, .int p3]) (n := 4) (Nat.le_of_ble_eq_true rfl)
  rw [lg_entry_eq]
  generalize (lg_sl ([.ref p0, .int p1, .int p2, .int p3]) ++ List.replicate (4 - (lg_sl ([.ref p0, .int p1, .int p2, .int p3])).length) Slot.unset).toArray = ls at hl ⊢
  have hl : lv_has ls 4 [(0, .ref p0), (1, .int p1), (2, .int p2), (3, .int p3)] := hl
  refine nameQ (fun Q hQ => ?_)
  have hw : WD D cy GG A s wr_X0_addLine wa_X0_addLine Ps w0 Ps w0 s.heap [] := ⟨hT, hP, hD, va_S.rf, FR.rf, hT.1, [], (List.append_nil _).symm⟩
  refine lv_aload_n hx hb dX0_addLine_0 rfl (lv_at hl 0 rfl) ?_
  refine tg_get (ci := 0) (ts := ty_BOOK) (C := RX0) (T := TX0) (N := 5) hx hb hts inX0 hown hK hw h_p0 rfl rfl 3 (by decide) (hts _ tw_145) (fun _ h9 => h9) (ft := vI 0 40) rfl dX0_addLine_1 (fun u_1 hv_u_1 m_u_1 => ?_)
  obtain ⟨vu_1, rfl, r_vu_1⟩ := hv_u_1
  refine lv_bipush (v := 40) hx hb dX0_addLine_4 (by decide) ?_
  refine lv_icmp_ge (tgt := 49) hx hb dX0_addLine_6 (by decide) (fun c_6 => ?_) (fun c_6 => ?_)
  · have r_vu_1 : RI vu_1 40 40 := rc_le2 rl_40 r_vu_1 (ti_le c_6) (by decide)
    subst hQ
    exact W.vret hx hb hr (fun t ht hW => ⟨⟨w0, rfl, ⟨⟨⟨_, m_u_1, (r_vu_1.to (by decide))⟩, trivial⟩, hw.1, hw.2.2.2.2.1⟩, by rw [ht]; exact hw.2.1, va_K.moved hW.alike hK, hw.2.2.1⟩, hw.2.2.2.1.F ht⟩) hw.2.2.2.1.2.2 dX0_addLine_49
  · have r_vu_1 : RI vu_1 0 39 := rc_lt1 r_vu_1 rl_40 (ti_nle c_6) (by decide)
    refine lv_aload_n hx hb dX0_addLine_9 rfl (lv_at hl 0 rfl) ?_
    refine tg_get (ci := 0) (ts := ty_BOOK) (C := RX0) (T := TX0) (N := 5) hx hb hts inX0 hown hK hw h_p0 rfl rfl 0 (by decide) (hts _ tw_142) (fun _ h9 => h9) (ft := vR 18) rfl dX0_addLine_10 (fun u_2 hv_u_2 m_u_2 => ?_)
    obtain ⟨vu_2, rfl, h_vu_2⟩ := hv_u_2
    refine lv_aload_n hx hb dX0_addLine_13 rfl (lv_at hl 0 rfl) ?_
    refine tg_mem (ci := 0) (C := RX0) (T := TX0) (N := 5) hx hb hts inX0 hown hK hw 3 m_u_1 rfl (by decide) (hts _ tw_145) (fun _ h9 => h9) dX0_addLine_14 ?_
    refine lv_iload_n hx hb dX0_addLine_17 rfl (lv_at hl 1 rfl) ?_
    refine tg_iast hx hb hK hw h_vu_2 rfl 0 39 r_vu_1 (by decide) r_p1 (by exact fun _ _ _ => by decide) (fun _ _ _ _ _ => trivial) (by decide) dX0_addLine_18 (fun ws H locs hw hF9 hU9 => ?_)
    have m_u_1 := FLD.over hF9 m_u_1 (by decide)
    refine lv_aload_n hx hb dX0_addLine_19 rfl (lv_at hl 0 rfl) ?_
    refine tg_get (ci := 0) (ts := ty_BOOK) (C := RX0) (T := TX0) (N := 5) hx hb hts inX0 hown hK hw h_p0 rfl rfl 1 (by decide) (hts _ tw_143) (fun _ h9 => h9) (ft := vR 19) rfl dX0_addLine_20 (fun u_3 hv_u_3 m_u_3 => ?_)
    obtain ⟨vu_3, rfl, h_vu_3⟩ := hv_u_3
    refine lv_aload_n hx hb dX0_addLine_23 rfl (lv_at hl 0 rfl) ?_
    refine tg_mem (ci := 0) (C := RX0) (T := TX0) (N := 5) hx hb hts inX0 hown hK hw 3 m_u_1 rfl (by decide) (hts _ tw_145) (fun _ h9 => h9) dX0_addLine_24 ?_
    refine lv_iload_n hx hb dX0_addLine_27 rfl (lv_at hl 2 rfl) ?_
    refine tg_iast hx hb hK hw h_vu_3 rfl 0 39 r_vu_1 (by decide) r_p2 (by exact fun _ _ _ => by decide) (fun _ _ _ _ _ => trivial) (by decide) dX0_addLine_28 (fun ws H locs hw hF9 hU9 => ?_)
    have m_u_1 := FLD.over hF9 m_u_1 (by decide)
    refine lv_aload_n hx hb dX0_addLine_29 rfl (lv_at hl 0 rfl) ?_
    refine tg_get (ci := 0) (ts := ty_BOOK) (C := RX0) (T := TX0) (N := 5) hx hb hts inX0 hown hK hw h_p0 rfl rfl 2 (by decide) (hts _ tw_144) (fun _ h9 => h9) (ft := vR 20) rfl dX0_addLine_30 (fun u_4 hv_u_4 m_u_4 => ?_)
    obtain ⟨vu_4, rfl, h_vu_4⟩ := hv_u_4
    refine lv_aload_n hx hb dX0_addLine_33 rfl (lv_at hl 0 rfl) ?_
    refine tg_mem (ci := 0) (C := RX0) (T := TX0) (N := 5) hx hb hts inX0 hown hK hw 3 m_u_1 rfl (by decide) (hts _ tw_145) (fun _ h9 => h9) dX0_addLine_34 ?_
    refine lv_iload_n hx hb dX0_addLine_37 rfl (lv_at hl 3 rfl) ?_
    refine tg_iast hx hb hK hw h_vu_4 rfl 0 39 r_vu_1 (by decide) r_p3 (by exact fun _ _ _ => by decide) (fun _ _ _ _ _ => trivial) (by decide) dX0_addLine_38 (fun ws H locs hw hF9 hU9 => ?_)
    have m_u_1 := FLD.over hF9 m_u_1 (by decide)
    refine lv_aload_n hx hb dX0_addLine_39 rfl (lv_at hl 0 rfl) ?_
    refine lv_dup hx hb dX0_addLine_40 rfl ?_
    refine tg_mem (ci := 0) (C := RX0) (T := TX0) (N := 5) hx hb hts inX0 hown hK hw 3 m_u_1 rfl (by decide) (hts _ tw_145) (fun _ h9 => h9) dX0_addLine_41 ?_
    refine lv_iconst (v := 1) hx hb dX0_addLine_44 (by decide) ?_
    refine lv_iadd hx hb dX0_addLine_45 (lv_topi (fun v_5 e_v_5 => ?_))
    obtain ⟨t_v_5, r_v_5⟩ := tq_add (lo := 1) (hi := 40) r_vu_1 rl_1 (by decide +kernel) e_v_5
    have t_v_5 : v_5.toInt = vu_1.toInt + 1 := t_v_5
    refine tg_put (ci := 0) (ts := ty_BOOK) (v := .int v_5) (ty := .int) (C := RX0) (T := TX0) (N := 5) hx hb hts inX0 tyX0 tyX0_ok nmX0 hown hK hw h_p0 rfl rfl 3 (by decide) (hts _ tw_145) (fun _ h9 => h9) rfl (by decide +kernel) rfl rfl (ft := vI 0 40) rfl ⟨_, rfl, (r_v_5.to (by decide))⟩ (by decide) dX0_addLine_46 (fun ws H locs hw n_k_6 hF9 => ?_)
    subst hQ
    exact W.vret hx hb hr (fun t ht hW => ⟨⟨ws, rfl, ⟨⟨⟨_, n_k_6, r_v_5⟩, trivial⟩, hw.1, hw.2.2.2.2.1⟩, by rw [ht]; exact hw.2.1, va_K.moved hW.alike hK, hw.2.2.1⟩, hw.2.2.2.1.F ht⟩) hw.2.2.2.1.2.2 dX0_addLine_49
abbrev wr_X0_beginsLine : List (Nat × Nat) := [(7, 5), (7, 6), (7, 7), (7, 8), (7, 9), (7, 10), (7, 11)]
abbrev wa_X0_beginsLine : List Nat := []
set_option maxHeartbeats 4000000 in
set_option maxRecDepth 100000 in
theorem c_X0_beginsLine (l : Launch) (D : va_G) (cy : Nat → ClassId) (z : Nat → Nat) (sz : Nat) (Ps : PSI) (w0 : va_W) (hT : HT cy GG Ps w0) (p0 : Nat) (p1 : Nat) (p2 : Int32) (h_p0 : (p0, 31) ∈ Ps) (h_p1 : (p1, 26) ∈ Ps) (r_p2 : RI p2 (-2147483648) 2147483647) : Met l yX0_beginsLine (Cond.code yX0_beginsLine cX0_beginsLine 3 (some .boolean) :: gT) ({ frames := 3, cells := 0, slots := 0, locals := 600 } : Room) (va_Pc [.ref p0, .ref p1, .int p2] (PRE D cy z w0 sz)) (va_Qi (fun (r : Int32) (u : va_W) => (RI r 0 1 ∧ (r = 0 → (∃ v9 : Int32, FLD u p1 7 10 (.int v9) ∧ RI v9 1 4) ∧ True) ∧ (¬ r = 0 → (∃ v9 : Int32, FLD u p1 7 10 (.int v9) ∧ RI v9 0 0) ∧ True)) ∧ HT cy GG Ps u ∧ FR wr_X0_beginsLine wa_X0_beginsLine Ps w0 u) (BB D cy (va_A w0 sz) (fun (u : va_W) => u)) (va_A w0 sz)) 0 0 (va_A w0 sz) := by
  refine Met.ofW (cc := cX0_beginsLine) (maxL := 3) (ret := (some .boolean)) (by decide) rfl ?_
  intro p e s m args below meth c s₁ B hml hv
  obtain ⟨rfl, hsz, hP, hK, hD0, hSD⟩ := hv
  have hx := B.exec
  have hb := B.bytes
  have hr := B.returns
  have hlocks := B.notSynchronized
  have hts : ∀ w ∈ gT, w.before _ s = true := fun w h => atoms_spec (ws := Cond.code yX0_beginsLine cX0_beginsLine 3 (some .boolean) :: gT) B.pre w (List.mem_cons_of_mem _ h)
  have hown : s.vm.findClass RX0 = some m.cls := findClass_of_methodNamed B.named
  subst hsz
  have hD := hD0.self (sz := s.heap.size)
  generalize hAe : va_A w0 s.heap.size = A at hD hSD ⊢
  have hA : ∀ q : Nat, s.heap.size ≤ q → A q := fun q h => by rw [← hAe]; exact Or.inr h
  have hl := lv_entry ([.ref p0, .ref p1, .int p2]) (n := 3) (Nat.le_of_ble_eq_true rfl)
  rw [lg_entry_eq]
  generalize (lg_sl ([.ref p0, .ref p1, .int p2]) ++ List.replicate (3 - (lg_sl ([.ref p0, .ref p1, .int p2])).length) Slot.unset).toArray = ls at hl ⊢
  have hl : lv_has ls 3 [(0, .ref p0), (1, .ref p1), (2, .int p2)] := hl
  refine nameQ (fun Q hQ => ?_)
  have hw : WD D cy GG A s wr_X0_beginsLine wa_X0_beginsLine Ps w0 Ps w0 s.heap [] := ⟨hT, hP, hD, va_S.rf, FR.rf, hT.1, [], (List.append_nil _).symm⟩
  have B41 : ∀ (ws : va_W) (H : Heap) (locs : List Loc) (ls : Array Slot), RI p2 (-2147483648) 2147483647 → WD D cy GG A s wr_X0_beginsLine wa_X0_beginsLine Ps w0 Ps ws H locs → lv_has ls 3 [(0, .ref p0), (1, .ref p1), (2, .int p2)] → W p l e (headSpec (Cond.code yX0_beginsLine cX0_beginsLine 3 (some .boolean) :: gT) ({ frames := 3, cells := 0, slots := 0, locals := 600 } : Room)).room s m ([.ref p0, .ref p1, .int p2] : List Value).toArray below meth c H locs 0 0 Q (F0 m 41 ls []) := by
    intro  ws H locs ls r_p2 hw hl
    refine lv_aload_n hx hb dX0_beginsLine_41 rfl (lv_at hl 1 rfl) ?_
    refine tk_v (va_runV (As := []) (rest := []) ⟨hx, hb, hml, hown, hts⟩ (c_X7_pass l D cy z H.size Ps ws hw.1 p1 h_p1) (cwV 0 hts (gV tw_898 tw_425 tw_426 tw_2 tw_427) rfl rfl rfl (by decide +kernel) ⟨Nat.le_of_ble_eq_true rfl, Nat.le_of_ble_eq_true rfl⟩) (tg_preV hw hK hSD hA (ci := 7) (q := (RX7, TX7, 12)) rfl h_p1 rfl) rfl rfl hl.1 rfl (lv_room (Nat.le_of_ble_eq_true rfl)) dX0_beginsLine_42 ⟨Nat.le_of_ble_eq_true rfl, Nat.le_of_ble_eq_true rfl⟩) hw hA ⟨by decide, by decide⟩ (fun ws H locs hp_v_1 hw hF9 => ?_)
    refine lv_aload_n hx hb dX0_beginsLine_45 rfl (lv_at hl 1 rfl) ?_
    refine tg_getN (ci := 7) (ts := ty_TAPE) (C := RX7) (T := TX7) (N := 12) hx hb hts inX7 hown hK hw h_p1 rfl rfl 10 (by decide) (hSD.nest tn_102) (fun _ h9 => h9) (ft := vI 0 4) rfl dX0_beginsLine_46 (fun u_2 hv_u_2 m_u_2 => ?_)
    obtain ⟨vu_2, rfl, r_vu_2⟩ := hv_u_2
    refine lv_if_ne (tgt := 56) hx hb dX0_beginsLine_49 (by decide) (fun c_49 => ?_) (fun c_49 => ?_)
    · have r_vu_2 : RI vu_2 1 4 := rc_neL r_vu_2 rl_0 (ti_ne c_49) (by decide)
      refine lv_iconst (v := 0) hx hb dX0_beginsLine_56 (by decide) ?_
      subst hQ
      exact W.zret (v := 0) hx hb hr (rfl) (fun t ht hW => ⟨⟨0, ws, rfl, ⟨⟨rl_0.to (by decide), (fun h0 => ⟨⟨_, m_u_2, r_vu_2⟩, trivial⟩), (fun h0 => absurd rfl h0)⟩, hw.1, hw.2.2.2.2.1⟩, by rw [ht]; exact hw.2.1, va_K.moved hW.alike hK, hw.2.2.1⟩, hw.2.2.2.1.F ht⟩) hw.2.2.2.1.2.2 dX0_beginsLine_57
    · have r_vu_2 : RI vu_2 0 0 := rc_eq1 r_vu_2 rl_0 (ti_eq c_49) (by decide)
      refine lv_iconst (v := 1) hx hb dX0_beginsLine_52 (by decide) ?_
      refine lv_goto (tgt := 57) hx hb dX0_beginsLine_53 (by decide) ?_
      subst hQ
      exact W.zret (v := 1) hx hb hr (rfl) (fun t ht hW => ⟨⟨1, ws, rfl, ⟨⟨rl_1.to (by decide), (fun h0 => absurd h0 (by decide)), (fun h0 => ⟨⟨_, m_u_2, r_vu_2⟩, trivial⟩)⟩, hw.1, hw.2.2.2.2.1⟩, by rw [ht]; exact hw.2.1, va_K.moved hW.alike hK, hw.2.2.1⟩, hw.2.2.2.1.F ht⟩) hw.2.2.2.1.2.2 dX0_beginsLine_57
  have B27 : ∀ (ws : va_W) (H : Heap) (locs : List Loc) (ls : Array Slot), RI p2 2 143 → WD D cy GG A s wr_X0_beginsLine wa_X0_beginsLine Ps w0 Ps ws H locs → lv_has ls 3 [(0, .ref p0), (1, .ref p1), (2, .int p2)] → W p l e (headSpec (Cond.code yX0_beginsLine cX0_beginsLine 3 (some .boolean) :: gT) ({ frames := 3, cells := 0, slots := 0, locals := 600 } : Room)).room s m ([.ref p0, .ref p1, .int p2] : List Value).toArray below meth c H locs 0 0 Q (F0 m 27 ls []) := by
    intro  ws H locs ls r_p2 hw hl
    refine lv_aload_n hx hb dX0_beginsLine_27 rfl (lv_at hl 0 rfl) ?_
    refine tg_get (ci := 0) (ts := ty_BOOK) (C := RX0) (T := TX0) (N := 5) hx hb hts inX0 hown hK hw h_p0 rfl rfl 3 (by decide) (hts _ tw_145) (fun _ h9 => h9) (ft := vI 0 40) rfl dX0_beginsLine_28 (fun u_3 hv_u_3 m_u_3 => ?_)
    obtain ⟨vu_3, rfl, r_vu_3⟩ := hv_u_3
    refine lv_bipush (v := 40) hx hb dX0_beginsLine_31 (by decide) ?_
    refine lv_icmp_lt (tgt := 41) hx hb dX0_beginsLine_33 (by decide) (fun c_33 => ?_) (fun c_33 => ?_)
    · have r_vu_3 : RI vu_3 0 39 := rc_lt1 r_vu_3 rl_40 (ti_lt c_33) (by decide)
      exact B41  ws _ _ ls (r_p2.to (by decide)) hw hl
    · have r_vu_3 : RI vu_3 40 40 := rc_le2 rl_40 r_vu_3 (ti_nlt c_33) (by decide)
      refine lv_aload_n hx hb dX0_beginsLine_36 rfl (lv_at hl 1 rfl) ?_
      refine lv_iconst (v := 4) hx hb dX0_beginsLine_37 (by decide) ?_
      refine tk_v (va_runV (As := [.int 4]) (rest := []) ⟨hx, hb, hml, hown, hts⟩ (c_X7_refuse l D cy z H.size Ps ws hw.1 p1 4 h_p1 (rl_4.to (by decide))) (cwV 1 hts (gV tw_897 tw_443 tw_444 tw_2 tw_445) rfl rfl rfl (by decide +kernel) ⟨Nat.le_of_ble_eq_true rfl, Nat.le_of_ble_eq_true rfl⟩) (tg_preV hw hK hSD hA (ci := 7) (q := (RX7, TX7, 12)) rfl h_p1 rfl) rfl rfl hl.1 rfl (lv_room (Nat.le_of_ble_eq_true rfl)) dX0_beginsLine_38 ⟨Nat.le_of_ble_eq_true rfl, Nat.le_of_ble_eq_true rfl⟩) hw hA ⟨by decide, by decide⟩ (fun ws H locs hp_v_4 hw hF9 => ?_)
      have m_u_3 := FLD.over hF9 m_u_3 (by decide)
      obtain ⟨v_5, m_v_5, r_v_5⟩ := (hp_v_4.1)
      exact B41  ws _ _ ls (r_p2.to (by decide)) hw hl
  have B19 : ∀ (ws : va_W) (H : Heap) (locs : List Loc) (ls : Array Slot), RI p2 (-2147483648) 2147483647 → WD D cy GG A s wr_X0_beginsLine wa_X0_beginsLine Ps w0 Ps ws H locs → lv_has ls 3 [(0, .ref p0), (1, .ref p1), (2, .int p2)] → W p l e (headSpec (Cond.code yX0_beginsLine cX0_beginsLine 3 (some .boolean) :: gT) ({ frames := 3, cells := 0, slots := 0, locals := 600 } : Room)).room s m ([.ref p0, .ref p1, .int p2] : List Value).toArray below meth c H locs 0 0 Q (F0 m 19 ls []) := by
    intro  ws H locs ls r_p2 hw hl
    refine lv_aload_n hx hb dX0_beginsLine_19 rfl (lv_at hl 1 rfl) ?_
    refine lv_iconst (v := 1) hx hb dX0_beginsLine_20 (by decide) ?_
    refine tk_v (va_runV (As := [.int 1]) (rest := []) ⟨hx, hb, hml, hown, hts⟩ (c_X7_refuse l D cy z H.size Ps ws hw.1 p1 1 h_p1 (rl_1.to (by decide))) (cwV 1 hts (gV tw_897 tw_443 tw_444 tw_2 tw_445) rfl rfl rfl (by decide +kernel) ⟨Nat.le_of_ble_eq_true rfl, Nat.le_of_ble_eq_true rfl⟩) (tg_preV hw hK hSD hA (ci := 7) (q := (RX7, TX7, 12)) rfl h_p1 rfl) rfl rfl hl.1 rfl (lv_room (Nat.le_of_ble_eq_true rfl)) dX0_beginsLine_21 ⟨Nat.le_of_ble_eq_true rfl, Nat.le_of_ble_eq_true rfl⟩) hw hA ⟨by decide, by decide⟩ (fun ws H locs hp_v_6 hw hF9 => ?_)
    obtain ⟨v_7, m_v_7, r_v_7⟩ := (hp_v_6.1)
    refine lv_goto (tgt := 41) hx hb dX0_beginsLine_24 (by decide) ?_
    exact B41  ws _ _ ls r_p2 hw hl
  refine lv_iload_n hx hb dX0_beginsLine_0 rfl (lv_at hl 2 rfl) ?_
  refine lv_iconst (v := 2) hx hb dX0_beginsLine_1 (by decide) ?_
  refine lv_icmp_eq (tgt := 27) hx hb dX0_beginsLine_2 (by decide) (fun c_2 => ?_) (fun c_2 => ?_)
  · have r_p2 : RI p2 2 2 := rc_eq1 r_p2 rl_2 (ti_eq c_2) (by decide)
    exact B27  w0 _ _ ls (r_p2.to (by decide)) hw hl
  · refine lv_iload_n hx hb dX0_beginsLine_5 rfl (lv_at hl 2 rfl) ?_
    refine lv_sipush (v := 141) hx hb dX0_beginsLine_6 (by decide) ?_
    refine lv_icmp_lt (tgt := 19) hx hb dX0_beginsLine_9 (by decide) (fun c_9 => ?_) (fun c_9 => ?_)
    · have r_p2 : RI p2 (-2147483648) 140 := rc_lt1 r_p2 rl_141 (ti_lt c_9) (by decide)
      exact B19  w0 _ _ ls (r_p2.to (by decide)) hw hl
    · have r_p2 : RI p2 141 2147483647 := rc_le2 rl_141 r_p2 (ti_nlt c_9) (by decide)
      refine lv_iload_n hx hb dX0_beginsLine_12 rfl (lv_at hl 2 rfl) ?_
      refine lv_sipush (v := 143) hx hb dX0_beginsLine_13 (by decide) ?_
      refine lv_icmp_le (tgt := 27) hx hb dX0_beginsLine_16 (by decide) (fun c_16 => ?_) (fun c_16 => ?_)
      · have r_p2 : RI p2 141 143 := rc_le1 r_p2 rl_143 (ti_le c_16) (by decide)
        exact B27  w0 _ _ ls (r_p2.to (by decide)) hw hl
      · have r_p2 : RI p2 144 2147483647 := rc_lt2 rl_143 r_p2 (ti_nle c_16) (by decide)
        exact B19  w0 _ _ ls (r_p2.to (by decide)) hw hl
abbrev wr_X5_addStep : List (Nat × Nat) := [(5, 3)]
abbrev wa_X5_addStep : List Nat := [21]
set_option maxHeartbeats 4000000 in
set_option maxRecDepth 100000 in
theorem c_X5_addStep (l : Launch) (D : va_G) (cy : Nat → ClassId) (z : Nat → Nat) (sz : Nat) (Ps : PSI) (w0 : va_W) (hT : HT cy GG Ps w0) (p0 : Nat) (p1 : Int32) (p2 : Int32) (p3 : Int32) (h_p0 : (p0, 32) ∈ Ps) (r_p1 : RI p1 (-2147483648) 2147483647) (r_p2 : RI p2 (-2147483648) 2147483647) (r_p3 : RI p3 (-2147483648) 2147483647) : Met l yX5_addStep (Cond.code yX5_addStep cX5_addStep 4 none :: gT) ({ frames := 0, cells := 0, slots := 0, locals := 200 } : Room) (va_Pc [.ref p0, .int p1, .int p2, .int p3] (PRE D cy z w0 sz)) (va_Qv (fun (u : va_W) => ((∃ v9 : Int32, FLD u p0 5 3 (.int v9) ∧ RI v9 1 40) ∧ True) ∧ HT cy GG Ps u ∧ FR wr_X5_addStep wa_X5_addStep Ps w0 u) (BB D cy (va_A w0 sz) (fun (u : va_W) => u)) (va_A w0 sz)) 0 0 (va_A w0 sz) := by
  refine Met.ofW (cc := cX5_addStep) (maxL := 4) (ret := none) (by decide) rfl ?_
  intro p e s m args below meth c s₁ B hml hv
  obtain ⟨rfl, hsz, hP, hK, hD0, hSD⟩ := hv
  have hx := B.exec
  have hb := B.bytes
  have hr := B.returns
  have hlocks := B.notSynchronized
  have hts : ∀ w ∈ gT, w.before _ s = true := fun w h => atoms_spec (ws := Cond.code yX5_addStep cX5_addStep 4 none :: gT) B.pre w (List.mem_cons_of_mem _ h)
  have hown : s.vm.findClass RX5 = some m.cls := findClass_of_methodNamed B.named
  subst hsz
  have hD := hD0.self (sz := s.heap.size)
  generalize hAe : va_A w0 s.heap.size = A at hD hSD ⊢
  have hA : ∀ q : Nat, s.heap.size ≤ q → A q := fun q h => by rw [← hAe]; exact Or.inr h
  have hl := lv_entry ([.ref p0, .int p1, .int p2, .int p3]) (n := 4) (Nat.le_of_ble_eq_true rfl)
  rw [lg_entry_eq]
  generalize (lg_sl ([.ref p0, .int p1, .int p2, .int p3]) ++ List.replicate (4 - (lg_sl ([.ref p0, .int p1, .int p2, .int p3])).length) Slot.unset).toArray = ls at hl ⊢
  have hl : lv_has ls 4 [(0, .ref p0), (1, .int p1), (2, .int p2), (3, .int p3)] := hl
  refine nameQ (fun Q hQ => ?_)
  have hw : WD D cy GG A s wr_X5_addStep wa_X5_addStep Ps w0 Ps w0 s.heap [] := ⟨hT, hP, hD, va_S.rf, FR.rf, hT.1, [], (List.append_nil _).symm⟩
  refine lv_aload_n hx hb dX5_addStep_0 rfl (lv_at hl 0 rfl) ?_
  refine tg_get (ci := 5) (ts := ty_SENT) (C := RX5) (T := TX5) (N := 5) hx hb hts inX5 hown hK hw h_p0 rfl rfl 3 (by decide) (hts _ tw_954) (fun _ h9 => h9) (ft := vI 0 40) rfl dX5_addStep_1 (fun u_1 hv_u_1 m_u_1 => ?_)
  obtain ⟨vu_1, rfl, r_vu_1⟩ := hv_u_1
  refine lv_aload_n hx hb dX5_addStep_4 rfl (lv_at hl 0 rfl) ?_
  refine tg_get (ci := 5) (ts := ty_SENT) (C := RX5) (T := TX5) (N := 5) hx hb hts inX5 hown hK hw h_p0 rfl rfl 0 (by decide) (hts _ tw_951) (fun _ h9 => h9) (ft := vR 21) rfl dX5_addStep_5 (fun u_2 hv_u_2 m_u_2 => ?_)
  obtain ⟨vu_2, rfl, h_vu_2⟩ := hv_u_2
  refine tg_alenI (t0 := 1) (v := 40) hx hb hK hw h_vu_2 rfl rfl rfl dX5_addStep_8 ?_
  refine lv_icmp_ge (tgt := 52) hx hb dX5_addStep_9 (by decide) (fun c_9 => ?_) (fun c_9 => ?_)
  · have r_vu_1 : RI vu_1 40 40 := rc_le2 rl_40 r_vu_1 (ti_le c_9) (by decide)
    subst hQ
    exact W.vret hx hb hr (fun t ht hW => ⟨⟨w0, rfl, ⟨⟨⟨_, m_u_1, (r_vu_1.to (by decide))⟩, trivial⟩, hw.1, hw.2.2.2.2.1⟩, by rw [ht]; exact hw.2.1, va_K.moved hW.alike hK, hw.2.2.1⟩, hw.2.2.2.1.F ht⟩) hw.2.2.2.1.2.2 dX5_addStep_52
  · have r_vu_1 : RI vu_1 0 39 := rc_lt1 r_vu_1 rl_40 (ti_nle c_9) (by decide)
    refine lv_aload_n hx hb dX5_addStep_12 rfl (lv_at hl 0 rfl) ?_
    refine tg_mem (ci := 5) (C := RX5) (T := TX5) (N := 5) hx hb hts inX5 hown hK hw 0 m_u_2 rfl (by decide) (hts _ tw_951) (fun _ h9 => h9) dX5_addStep_13 ?_
    refine lv_aload_n hx hb dX5_addStep_16 rfl (lv_at hl 0 rfl) ?_
    refine tg_mem (ci := 5) (C := RX5) (T := TX5) (N := 5) hx hb hts inX5 hown hK hw 3 m_u_1 rfl (by decide) (hts _ tw_954) (fun _ h9 => h9) dX5_addStep_17 ?_
    refine lv_iload_n hx hb dX5_addStep_20 rfl (lv_at hl 1 rfl) ?_
    refine tg_iast hx hb hK hw h_vu_2 rfl 0 39 r_vu_1 (by decide) r_p1 (by exact fun _ _ _ => by decide) (fun _ _ _ _ _ => trivial) (by decide) dX5_addStep_21 (fun ws H locs hw hF9 hU9 => ?_)
    have m_u_1 := FLD.over hF9 m_u_1 (by decide)
    refine lv_aload_n hx hb dX5_addStep_22 rfl (lv_at hl 0 rfl) ?_
    refine tg_get (ci := 5) (ts := ty_SENT) (C := RX5) (T := TX5) (N := 5) hx hb hts inX5 hown hK hw h_p0 rfl rfl 1 (by decide) (hts _ tw_952) (fun _ h9 => h9) (ft := vR 21) rfl dX5_addStep_23 (fun u_3 hv_u_3 m_u_3 => ?_)
    obtain ⟨vu_3, rfl, h_vu_3⟩ := hv_u_3
    refine lv_aload_n hx hb dX5_addStep_26 rfl (lv_at hl 0 rfl) ?_
    refine tg_mem (ci := 5) (C := RX5) (T := TX5) (N := 5) hx hb hts inX5 hown hK hw 3 m_u_1 rfl (by decide) (hts _ tw_954) (fun _ h9 => h9) dX5_addStep_27 ?_
    refine lv_iload_n hx hb dX5_addStep_30 rfl (lv_at hl 2 rfl) ?_
    refine tg_iast hx hb hK hw h_vu_3 rfl 0 39 r_vu_1 (by decide) r_p2 (by exact fun _ _ _ => by decide) (fun _ _ _ _ _ => trivial) (by decide) dX5_addStep_31 (fun ws H locs hw hF9 hU9 => ?_)
    have m_u_1 := FLD.over hF9 m_u_1 (by decide)
    refine lv_aload_n hx hb dX5_addStep_32 rfl (lv_at hl 0 rfl) ?_
    refine tg_get (ci := 5) (ts := ty_SENT) (C := RX5) (T := TX5) (N := 5) hx hb hts inX5 hown hK hw h_p0 rfl rfl 2 (by decide) (hts _ tw_953) (fun _ h9 => h9) (ft := vR 21) rfl dX5_addStep_33 (fun u_4 hv_u_4 m_u_4 => ?_)
    obtain ⟨vu_4, rfl, h_vu_4⟩ := hv_u_4
    refine lv_aload_n hx hb dX5_addStep_36 rfl (lv_at hl 0 rfl) ?_
    refine tg_mem (ci := 5) (C := RX5) (T := TX5) (N := 5) hx hb hts inX5 hown hK hw 3 m_u_1 rfl (by decide) (hts _ tw_954) (fun _ h9 => h9) dX5_addStep_37 ?_
    refine lv_iload_n hx hb dX5_addStep_40 rfl (lv_at hl 3 rfl) ?_
    refine tg_iast hx hb hK hw h_vu_4 rfl 0 39 r_vu_1 (by decide) r_p3 (by exact fun _ _ _ => by decide) (fun _ _ _ _ _ => trivial) (by decide) dX5_addStep_41 (fun ws H locs hw hF9 hU9 => ?_)
    have m_u_1 := FLD.over hF9 m_u_1 (by decide)
    refine lv_aload_n hx hb dX5_addStep_42 rfl (lv_at hl 0 rfl) ?_
    refine lv_dup hx hb dX5_addStep_43 rfl ?_
    refine tg_mem (ci := 5) (C := RX5) (T := TX5) (N := 5) hx hb hts inX5 hown hK hw 3 m_u_1 rfl (by decide) (hts _ tw_954) (fun _ h9 => h9) dX5_addStep_44 ?_
    refine lv_iconst (v := 1) hx hb dX5_addStep_47 (by decide) ?_
    refine lv_iadd hx hb dX5_addStep_48 (lv_topi (fun v_5 e_v_5 => ?_))
    obtain ⟨t_v_5, r_v_5⟩ := tq_add (lo := 1) (hi := 40) r_vu_1 rl_1 (by decide +kernel) e_v_5
    have t_v_5 : v_5.toInt = vu_1.toInt + 1 := t_v_5
    refine tg_put (ci := 5) (ts := ty_SENT) (v := .int v_5) (ty := .int) (C := RX5) (T := TX5) (N := 5) hx hb hts inX5 tyX5 tyX5_ok nmX5 hown hK hw h_p0 rfl rfl 3 (by decide) (hts _ tw_954) (fun _ h9 => h9) rfl (by decide +kernel) rfl rfl (ft := vI 0 40) rfl ⟨_, rfl, (r_v_5.to (by decide))⟩ (by decide) dX5_addStep_49 (fun ws H locs hw n_k_6 hF9 => ?_)
    subst hQ
    exact W.vret hx hb hr (fun t ht hW => ⟨⟨ws, rfl, ⟨⟨⟨_, n_k_6, r_v_5⟩, trivial⟩, hw.1, hw.2.2.2.2.1⟩, by rw [ht]; exact hw.2.1, va_K.moved hW.alike hK, hw.2.2.1⟩, hw.2.2.2.1.F ht⟩) hw.2.2.2.1.2.2 dX5_addStep_52
abbrev wr_X5_compares : List (Nat × Nat) := []
abbrev wa_X5_compares : List Nat := []
set_option maxHeartbeats 4000000 in
set_option maxRecDepth 100000 in
theorem c_X5_compares (l : Launch) (D : va_G) (cy : Nat → ClassId) (z : Nat → Nat) (sz : Nat) (Ps : PSI) (w0 : va_W) (hT : HT cy GG Ps w0) (p0 : Int32) (p1 : Int32) (p2 : Int32) (r_p0 : RI p0 (-2147483648) 2147483647) (r_p1 : RI p1 (-2147483648) 2147483647) (r_p2 : RI p2 (-2147483648) 2147483647) : Met l yX5_compares (Cond.code yX5_compares cX5_compares 3 (some .boolean) :: gT) ({ frames := 0, cells := 0, slots := 0, locals := 200 } : Room) (va_Pc [.int p0, .int p1, .int p2] (PRE D cy z w0 sz)) (va_Qi (fun (r : Int32) (u : Unit) => RI r 0 1 ∧ (r = 0 → True) ∧ (¬ r = 0 → True)) (BB D cy (va_A w0 sz) (fun (u : Unit) => w0)) (va_A w0 sz)) 0 0 (va_A w0 sz) := by
  refine Met.ofW (cc := cX5_compares) (maxL := 3) (ret := (some .boolean)) (by decide) rfl ?_
  intro p e s m args below meth c s₁ B hml hv
  obtain ⟨rfl, hsz, hP, hK, hD0, hSD⟩ := hv
  have hx := B.exec
  have hb := B.bytes
  have hr := B.returns
  have hlocks := B.notSynchronized
  have hts : ∀ w ∈ gT, w.before _ s = true := fun w h => atoms_spec (ws := Cond.code yX5_compares cX5_compares 3 (some .boolean) :: gT) B.pre w (List.mem_cons_of_mem _ h)
  have hown : s.vm.findClass RX5 = some m.cls := findClass_of_methodNamed B.named
  subst hsz
  have hD := hD0.self (sz := s.heap.size)
  generalize hAe : va_A w0 s.heap.size = A at hD hSD ⊢
  have hA : ∀ q : Nat, s.heap.size ≤ q → A q := fun q h => by rw [← hAe]; exact Or.inr h
  have hl := lv_entry ([.int p0, .int p1, .int p2]) (n := 3) (Nat.le_of_ble_eq_true rfl)
  rw [lg_entry_eq]
  generalize (lg_sl ([.int p0, .int p1, .int p2]) ++ List.replicate (3 - (lg_sl ([.int p0, .int p1, .int p2])).length) Slot.unset).toArray = ls at hl ⊢
  have hl : lv_has ls 3 [(0, .int p0), (1, .int p1), (2, .int p2)] := hl
  refine nameQ (fun Q hQ => ?_)
  have hw : WD D cy GG A s wr_X5_compares wa_X5_compares Ps w0 Ps w0 s.heap [] := ⟨hT, hP, hD, va_S.rf, FR.rf, hT.1, [], (List.append_nil _).symm⟩
  refine lv_iload_n hx hb dX5_compares_0 rfl (lv_at hl 1 rfl) ?_
  refine lv_bipush (v := 60) hx hb dX5_compares_1 (by decide) ?_
  refine lv_icmp_ne (tgt := 17) hx hb dX5_compares_3 (by decide) (fun c_3 => ?_) (fun c_3 => ?_)
  · refine lv_iload_n hx hb dX5_compares_17 rfl (lv_at hl 1 rfl) ?_
    refine lv_bipush (v := 62) hx hb dX5_compares_18 (by decide) ?_
    refine lv_icmp_ne (tgt := 36) hx hb dX5_compares_20 (by decide) (fun c_20 => ?_) (fun c_20 => ?_)
    · refine lv_iload_n hx hb dX5_compares_36 rfl (lv_at hl 0 rfl) ?_
      refine lv_iload_n hx hb dX5_compares_37 rfl (lv_at hl 2 rfl) ?_
      refine lv_icmp_ne (tgt := 45) hx hb dX5_compares_38 (by decide) (fun c_38 => ?_) (fun c_38 => ?_)
      · refine lv_iconst (v := 0) hx hb dX5_compares_45 (by decide) ?_
        subst hQ
        exact W.zret (v := 0) hx hb hr (rfl) (fun t ht hW => ⟨⟨0, (), rfl, ⟨rl_0.to (by decide), (fun h0 => trivial), (fun _ => trivial)⟩, by rw [ht]; exact hw.2.1, va_K.moved hW.alike hK, hw.2.2.1⟩, hw.2.2.2.1.F ht⟩) hw.2.2.2.1.2.2 dX5_compares_46
      · refine lv_iconst (v := 1) hx hb dX5_compares_41 (by decide) ?_
        refine lv_goto (tgt := 46) hx hb dX5_compares_42 (by decide) ?_
        subst hQ
        exact W.zret (v := 1) hx hb hr (rfl) (fun t ht hW => ⟨⟨1, (), rfl, ⟨rl_1.to (by decide), (fun _ => trivial), (fun h0 => trivial)⟩, by rw [ht]; exact hw.2.1, va_K.moved hW.alike hK, hw.2.2.1⟩, hw.2.2.2.1.F ht⟩) hw.2.2.2.1.2.2 dX5_compares_46
    · have r_p1 : RI p1 62 62 := rc_eq1 r_p1 rl_62 (ti_eq c_20) (by decide)
      refine lv_iload_n hx hb dX5_compares_23 rfl (lv_at hl 0 rfl) ?_
      refine lv_iload_n hx hb dX5_compares_24 rfl (lv_at hl 2 rfl) ?_
      refine lv_icmp_le (tgt := 32) hx hb dX5_compares_25 (by decide) (fun c_25 => ?_) (fun c_25 => ?_)
      · refine lv_iconst (v := 0) hx hb dX5_compares_32 (by decide) ?_
        refine lv_goto (tgt := 46) hx hb dX5_compares_33 (by decide) ?_
        subst hQ
        exact W.zret (v := 0) hx hb hr (rfl) (fun t ht hW => ⟨⟨0, (), rfl, ⟨rl_0.to (by decide), (fun h0 => trivial), (fun _ => trivial)⟩, by rw [ht]; exact hw.2.1, va_K.moved hW.alike hK, hw.2.2.1⟩, hw.2.2.2.1.F ht⟩) hw.2.2.2.1.2.2 dX5_compares_46
      · have r_p2 : RI p2 (-2147483648) 2147483646 := rc_lt1 r_p2 r_p0 (ti_nle c_25) (by decide)
        have r_p0 : RI p0 (-2147483647) 2147483647 := rc_lt2 r_p2 r_p0 (ti_nle c_25) (by decide)
        refine lv_iconst (v := 1) hx hb dX5_compares_28 (by decide) ?_
        refine lv_goto (tgt := 46) hx hb dX5_compares_29 (by decide) ?_
        subst hQ
        exact W.zret (v := 1) hx hb hr (rfl) (fun t ht hW => ⟨⟨1, (), rfl, ⟨rl_1.to (by decide), (fun _ => trivial), (fun h0 => trivial)⟩, by rw [ht]; exact hw.2.1, va_K.moved hW.alike hK, hw.2.2.1⟩, hw.2.2.2.1.F ht⟩) hw.2.2.2.1.2.2 dX5_compares_46
  · have r_p1 : RI p1 60 60 := rc_eq1 r_p1 rl_60 (ti_eq c_3) (by decide)
    refine lv_iload_n hx hb dX5_compares_6 rfl (lv_at hl 0 rfl) ?_
    refine lv_iload_n hx hb dX5_compares_7 rfl (lv_at hl 2 rfl) ?_
    refine lv_icmp_ge (tgt := 15) hx hb dX5_compares_8 (by decide) (fun c_8 => ?_) (fun c_8 => ?_)
    · refine lv_iconst (v := 0) hx hb dX5_compares_15 (by decide) ?_
      subst hQ
      exact W.zret (v := 0) hx hb hr (rfl) (fun t ht hW => ⟨⟨0, (), rfl, ⟨rl_0.to (by decide), (fun h0 => trivial), (fun _ => trivial)⟩, by rw [ht]; exact hw.2.1, va_K.moved hW.alike hK, hw.2.2.1⟩, hw.2.2.2.1.F ht⟩) hw.2.2.2.1.2.2 dX5_compares_16
    · have r_p0 : RI p0 (-2147483648) 2147483646 := rc_lt1 r_p0 r_p2 (ti_nle c_8) (by decide)
      have r_p2 : RI p2 (-2147483647) 2147483647 := rc_lt2 r_p0 r_p2 (ti_nle c_8) (by decide)
      refine lv_iconst (v := 1) hx hb dX5_compares_11 (by decide) ?_
      refine lv_goto (tgt := 16) hx hb dX5_compares_12 (by decide) ?_
      subst hQ
      exact W.zret (v := 1) hx hb hr (rfl) (fun t ht hW => ⟨⟨1, (), rfl, ⟨rl_1.to (by decide), (fun _ => trivial), (fun h0 => trivial)⟩, by rw [ht]; exact hw.2.1, va_K.moved hW.alike hK, hw.2.2.1⟩, hw.2.2.2.1.F ht⟩) hw.2.2.2.1.2.2 dX5_compares_16
abbrev wr_X5_isSo : List (Nat × Nat) := []
abbrev wa_X5_isSo : List Nat := []
set_option maxHeartbeats 4000000 in
set_option maxRecDepth 100000 in
theorem c_X5_isSo (l : Launch) (D : va_G) (cy : Nat → ClassId) (z : Nat → Nat) (sz : Nat) (Ps : PSI) (w0 : va_W) (hT : HT cy GG Ps w0) (p0 : Nat) (p1 : Nat) (p2 : Int32) (p3 : Int32) (h_p0 : (p0, 32) ∈ Ps) (h_p1 : (p1, 24) ∈ Ps) (r_p2 : RI p2 0 5) (r_p3 : RI p3 0 39) : Met l yX5_isSo (Cond.code yX5_isSo cX5_isSo 5 (some .boolean) :: gT) ({ frames := 4, cells := 0, slots := 0, locals := 800 } : Room) (va_Pc [.ref p0, .ref p1, .int p2, .int p3] (PRE D cy z w0 sz)) (va_Qi (fun (r : Int32) (u : Unit) => RI r 0 1 ∧ (r = 0 → True) ∧ (¬ r = 0 → True)) (BB D cy (va_A w0 sz) (fun (u : Unit) => w0)) (va_A w0 sz)) 0 0 (va_A w0 sz) := by
  refine Met.ofW (cc := cX5_isSo) (maxL := 5) (ret := (some .boolean)) (by decide) rfl ?_
  intro p e s m args below meth c s₁ B hml hv
  obtain ⟨rfl, hsz, hP, hK, hD0, hSD⟩ := hv
  have hx := B.exec
  have hb := B.bytes
  have hr := B.returns
  have hlocks := B.notSynchronized
  have hts : ∀ w ∈ gT, w.before _ s = true := fun w h => atoms_spec (ws := Cond.code yX5_isSo cX5_isSo 5 (some .boolean) :: gT) B.pre w (List.mem_cons_of_mem _ h)
  have hown : s.vm.findClass RX5 = some m.cls := findClass_of_methodNamed B.named
  subst hsz
  have hD := hD0.self (sz := s.heap.size)
  generalize hAe : va_A w0 s.heap.size = A at hD hSD ⊢
  have hA : ∀ q : Nat, s.heap.size ≤ q → A q := fun q h => by rw [← hAe]; exact Or.inr h
  have hl := lv_entry ([.ref p0, .ref p1, .int p2, .int p3]) (n := 5) (Nat.le_of_ble_eq_true rfl)
  rw [lg_entry_eq]
  generalize (lg_sl ([.ref p0, .ref p1, .int p2, .int p3]) ++ List.replicate (5 - (lg_sl ([.ref p0, .ref p1, .int p2, .int p3])).length) Slot.unset).toArray = ls at hl ⊢
  have hl : lv_has ls 5 [(0, .ref p0), (1, .ref p1), (2, .int p2), (3, .int p3)] := hl
  refine nameQ (fun Q hQ => ?_)
  have hw : WD D cy GG A s wr_X5_isSo wa_X5_isSo Ps w0 Ps w0 s.heap [] := ⟨hT, hP, hD, va_S.rf, FR.rf, hT.1, [], (List.append_nil _).symm⟩
  refine lv_aload_n hx hb dX5_isSo_0 rfl (lv_at hl 0 rfl) ?_
  refine tg_get (ci := 5) (ts := ty_SENT) (C := RX5) (T := TX5) (N := 5) hx hb hts inX5 hown hK hw h_p0 rfl rfl 2 (by decide) (hts _ tw_953) (fun _ h9 => h9) (ft := vR 21) rfl dX5_isSo_1 (fun u_1 hv_u_1 m_u_1 => ?_)
  obtain ⟨vu_1, rfl, h_vu_1⟩ := hv_u_1
  refine lv_iload_n hx hb dX5_isSo_4 rfl (lv_at hl 3 rfl) ?_
  refine tg_iald (lo := (-2147483648)) (hi := 2147483647) hx hb hK hw h_vu_1 rfl 0 39 r_p3 (by decide) (by exact fun _ _ _ => ⟨Int.le_refl _, Int.le_refl _⟩) dX5_isSo_5 (fun v_2 r_v_2 m_v_2 o_v_2 => ?_)
  refine lv_istore (lv' := [(4, .int v_2), (0, .ref p0), (1, .ref p1), (2, .int p2), (3, .int p3)]) hx hb dX5_isSo_6 hl (by decide) rfl (fun ls hl => ?_)
  refine lv_aload_n hx hb dX5_isSo_8 rfl (lv_at hl 1 rfl) ?_
  refine tg_get (ci := 5) (ts := ty_SENT) (C := RX5) (T := TX5) (N := 5) hx hb hts inX5 hown hK hw h_p0 rfl rfl 0 (by decide) (hts _ tw_951) (fun _ h9 => h9) (ft := vR 21) rfl dX5_isSo_9 (fun u_3 hv_u_3 m_u_3 => ?_)
  obtain ⟨vu_3, rfl, h_vu_3⟩ := hv_u_3
  refine lv_iload_n hx hb dX5_isSo_12 rfl (lv_at hl 4 rfl) ?_
  refine tg_iald (lo := (-2147483648)) (hi := 2147483647) hx hb hK hw h_vu_3 rfl 0 39 r_p3 (by decide) (by exact fun _ _ _ => ⟨Int.le_refl _, Int.le_refl _⟩) dX5_isSo_13 (fun v_4 r_v_4 m_v_4 o_v_4 => ?_)
  have w_14 := r_v_4
  by_cases cl_14 : v_4.toInt < 147 ∨ 154 < v_4.toInt
  · refine lv_tableOut (tgt := 181) hx hb dX5_isSo_14 cl_14 (by decide) ?_
    refine lv_iload_n hx hb dX5_isSo_181 rfl (lv_at hl 3 rfl) ?_
    refine lv_aload_n hx hb dX5_isSo_182 rfl (lv_at hl 1 rfl) ?_
    refine tg_get (ci := 5) (ts := ty_SENT) (C := RX5) (T := TX5) (N := 5) hx hb hts inX5 hown hK hw h_p0 rfl rfl 1 (by decide) (hts _ tw_952) (fun _ h9 => h9) (ft := vR 21) rfl dX5_isSo_183 (fun u_5 hv_u_5 m_u_5 => ?_)
    obtain ⟨vu_5, rfl, h_vu_5⟩ := hv_u_5
    refine lv_iload_n hx hb dX5_isSo_186 rfl (lv_at hl 4 rfl) ?_
    refine tg_iald (lo := (-2147483648)) (hi := 2147483647) hx hb hK hw h_vu_5 rfl 0 39 r_p3 (by decide) (by exact fun _ _ _ => ⟨Int.le_refl _, Int.le_refl _⟩) dX5_isSo_187 (fun v_6 r_v_6 m_v_6 o_v_6 => ?_)
    refine lv_iload hx hb dX5_isSo_188 (lv_at hl 0 rfl) ?_
    refine tk_ir (va_runS (As := [.int p2, .int v_6, .int v_2]) (rest := []) ⟨hx, hb, hml, hown, hts⟩ (c_X5_compares l D cy z s.heap.size Ps w0 hw.1 p2 v_6 v_2 (r_p2.to (by decide)) r_v_6 r_v_2) (va_cwS 3 hts (gS tw_1015 tw_1016 tw_23 tw_1017) rfl rfl rfl (by decide +kernel) ⟨Nat.le_of_ble_eq_true rfl, Nat.le_of_ble_eq_true rfl⟩) (tg_preS hw hK hSD hA) rfl rfl hl.1 rfl (lv_room (Nat.le_of_ble_eq_true rfl)) dX5_isSo_190 ⟨Nat.le_of_ble_eq_true rfl, Nat.le_of_ble_eq_true rfl⟩) hw hA (fun v_7  H locs hp_v_7 hw => ?_)
    have r_v_7 : RI v_7 0 1 := hp_v_7.1
    subst hQ
    exact W.zret (v := v_7) hx hb hr (tq_nz (r_v_7.to (by decide))) (fun t ht hW => ⟨⟨v_7, (), rfl, ⟨r_v_7.to (by decide), (fun h0 => trivial), (fun h0 => trivial)⟩, by rw [ht]; exact hw.2.1, va_K.moved hW.alike hK, hw.2.2.1⟩, hw.2.2.2.1.F ht⟩) hw.2.2.2.1.2.2 dX5_isSo_193
  · have e_14 : v_4.toInt = 147 ∨ v_4.toInt = 148 ∨ v_4.toInt = 149 ∨ v_4.toInt = 150 ∨ v_4.toInt = 151 ∨ v_4.toInt = 152 ∨ v_4.toInt = 153 ∨ v_4.toInt = 154 := by omega
    rcases e_14 with h_14 | h_14 | h_14 | h_14 | h_14 | h_14 | h_14 | h_14
    · refine lv_tableIn (tgt := 60) (off := 46) hx hb dX5_isSo_14 (by omega) (by omega) (by rw [h_14]; rfl) (by decide) ?_
      have r_v_4 : RI v_4 147 147 := ⟨by omega, by omega⟩
      refine lv_aload_n hx hb dX5_isSo_60 rfl (lv_at hl 2 rfl) ?_
      refine lv_iload_n hx hb dX5_isSo_61 rfl (lv_at hl 3 rfl) ?_
      refine tk_ir (va_runV (As := [.int p2]) (rest := []) ⟨hx, hb, hml, hown, hts⟩ (c_X8_isOpen l D cy z s.heap.size Ps w0 hw.1 p1 p2 h_p1 r_p2) (cwV 1 hts (gV tw_1011 tw_562 tw_563 tw_12 tw_564) rfl rfl rfl (by decide +kernel) ⟨Nat.le_of_ble_eq_true rfl, Nat.le_of_ble_eq_true rfl⟩) (tg_preV hw hK hSD hA (ci := 8) (q := (RX8, TX8, 13)) rfl h_p1 rfl) rfl rfl hl.1 rfl (lv_room (Nat.le_of_ble_eq_true rfl)) dX5_isSo_62 ⟨Nat.le_of_ble_eq_true rfl, Nat.le_of_ble_eq_true rfl⟩) hw hA (fun v_8  H locs hp_v_8 hw => ?_)
      have r_v_8 : RI v_8 0 1 := hp_v_8.1
      subst hQ
      exact W.zret (v := v_8) hx hb hr (tq_nz (r_v_8.to (by decide))) (fun t ht hW => ⟨⟨v_8, (), rfl, ⟨r_v_8.to (by decide), (fun h0 => trivial), (fun h0 => trivial)⟩, by rw [ht]; exact hw.2.1, va_K.moved hW.alike hK, hw.2.2.1⟩, hw.2.2.2.1.F ht⟩) hw.2.2.2.1.2.2 dX5_isSo_65
    · refine lv_tableIn (tgt := 66) (off := 52) hx hb dX5_isSo_14 (by omega) (by omega) (by rw [h_14]; rfl) (by decide) ?_
      have r_v_4 : RI v_4 148 148 := ⟨by omega, by omega⟩
      refine lv_aload_n hx hb dX5_isSo_66 rfl (lv_at hl 2 rfl) ?_
      refine lv_iload_n hx hb dX5_isSo_67 rfl (lv_at hl 3 rfl) ?_
      refine tk_ir (va_runV (As := [.int p2]) (rest := []) ⟨hx, hb, hml, hown, hts⟩ (c_X8_isNow l D cy z s.heap.size Ps w0 hw.1 p1 p2 h_p1 r_p2) (cwV 1 hts (gV tw_1012 tw_570 tw_571 tw_12 tw_572) rfl rfl rfl (by decide +kernel) ⟨Nat.le_of_ble_eq_true rfl, Nat.le_of_ble_eq_true rfl⟩) (tg_preV hw hK hSD hA (ci := 8) (q := (RX8, TX8, 13)) rfl h_p1 rfl) rfl rfl hl.1 rfl (lv_room (Nat.le_of_ble_eq_true rfl)) dX5_isSo_68 ⟨Nat.le_of_ble_eq_true rfl, Nat.le_of_ble_eq_true rfl⟩) hw hA (fun v_9  H locs hp_v_9 hw => ?_)
      have r_v_9 : RI v_9 (-1) 5 := hp_v_9.1
      by_cases c9_v_9 : v_9.toInt < 0
      · have r_v_9 : RI v_9 (-1) (-1) := by unfold RI at r_v_9 ⊢; omega
        have x_NBQ_p1_p2 := (hp_v_9.2.2.2.2.1 (by omega)).1
        refine lv_iconst (v := (-1)) hx hb dX5_isSo_71 (by decide) ?_
        refine lv_icmp_ne (tgt := 79) hx hb dX5_isSo_72 (by decide) (fun c_72 => ?_) (fun c_72 => ?_)
        · exact absurd (r_v_9.eq.trans rl_m1.eq.symm) ((ti_ne c_72))
        · refine lv_iconst (v := 1) hx hb dX5_isSo_75 (by decide) ?_
          refine lv_goto (tgt := 80) hx hb dX5_isSo_76 (by decide) ?_
          subst hQ
          exact W.zret (v := 1) hx hb hr (rfl) (fun t ht hW => ⟨⟨1, (), rfl, ⟨rl_1.to (by decide), (fun _ => trivial), (fun h0 => trivial)⟩, by rw [ht]; exact hw.2.1, va_K.moved hW.alike hK, hw.2.2.1⟩, hw.2.2.2.1.F ht⟩) hw.2.2.2.1.2.2 dX5_isSo_80
      · have r_v_9 : RI v_9 0 5 := by unfold RI at r_v_9 ⊢; omega
        have x_WBQ_p1_p2 := (hp_v_9.2.2.2.2.2 (by omega)).1
        refine lv_iconst (v := (-1)) hx hb dX5_isSo_71 (by decide) ?_
        refine lv_icmp_ne (tgt := 79) hx hb dX5_isSo_72 (by decide) (fun c_72 => ?_) (fun c_72 => ?_)
        · refine lv_iconst (v := 0) hx hb dX5_isSo_79 (by decide) ?_
          subst hQ
          exact W.zret (v := 0) hx hb hr (rfl) (fun t ht hW => ⟨⟨0, (), rfl, ⟨rl_0.to (by decide), (fun h0 => trivial), (fun _ => trivial)⟩, by rw [ht]; exact hw.2.1, va_K.moved hW.alike hK, hw.2.2.1⟩, hw.2.2.2.1.F ht⟩) hw.2.2.2.1.2.2 dX5_isSo_80
        · have r_v_9 : RI v_9 0 (-1) := rc_eq1 r_v_9 rl_m1 (ti_eq c_72) (by decide)
          exact (r_v_9.no (by decide)).elim
    · refine lv_tableIn (tgt := 81) (off := 67) hx hb dX5_isSo_14 (by omega) (by omega) (by rw [h_14]; rfl) (by decide) ?_
      have r_v_4 : RI v_4 149 149 := ⟨by omega, by omega⟩
      refine lv_aload_n hx hb dX5_isSo_81 rfl (lv_at hl 2 rfl) ?_
      refine lv_iload_n hx hb dX5_isSo_82 rfl (lv_at hl 3 rfl) ?_
      refine tk_ir (va_runV (As := [.int p2]) (rest := []) ⟨hx, hb, hml, hown, hts⟩ (c_X8_whoSitsBy l D cy z s.heap.size Ps w0 hw.1 p1 p2 h_p1 (r_p2.to (by decide))) (cwV 1 hts (gV tw_1013 tw_586 tw_587 tw_12 tw_588) rfl rfl rfl (by decide +kernel) ⟨Nat.le_of_ble_eq_true rfl, Nat.le_of_ble_eq_true rfl⟩) (tg_preV hw hK hSD hA (ci := 8) (q := (RX8, TX8, 13)) rfl h_p1 rfl) rfl rfl hl.1 rfl (lv_room (Nat.le_of_ble_eq_true rfl)) dX5_isSo_83 ⟨Nat.le_of_ble_eq_true rfl, Nat.le_of_ble_eq_true rfl⟩) hw hA (fun v_10  H locs hp_v_10 hw => ?_)
      have r_v_10 : RI v_10 (-2147483648) 2147483647 := hp_v_10.1
      refine lv_if_eq (tgt := 93) hx hb dX5_isSo_86 (by decide) (fun c_86 => ?_) (fun c_86 => ?_)
      · have r_v_10 : RI v_10 0 0 := rc_eq1 r_v_10 rl_0 (ti_eq c_86) (by decide)
        refine lv_iconst (v := 0) hx hb dX5_isSo_93 (by decide) ?_
        subst hQ
        exact W.zret (v := 0) hx hb hr (rfl) (fun t ht hW => ⟨⟨0, (), rfl, ⟨rl_0.to (by decide), (fun h0 => trivial), (fun _ => trivial)⟩, by rw [ht]; exact hw.2.1, va_K.moved hW.alike hK, hw.2.2.1⟩, hw.2.2.2.1.F ht⟩) hw.2.2.2.1.2.2 dX5_isSo_94
      · refine lv_iconst (v := 1) hx hb dX5_isSo_89 (by decide) ?_
        refine lv_goto (tgt := 94) hx hb dX5_isSo_90 (by decide) ?_
        subst hQ
        exact W.zret (v := 1) hx hb hr (rfl) (fun t ht hW => ⟨⟨1, (), rfl, ⟨rl_1.to (by decide), (fun _ => trivial), (fun h0 => trivial)⟩, by rw [ht]; exact hw.2.1, va_K.moved hW.alike hK, hw.2.2.1⟩, hw.2.2.2.1.F ht⟩) hw.2.2.2.1.2.2 dX5_isSo_94
    · refine lv_tableIn (tgt := 95) (off := 81) hx hb dX5_isSo_14 (by omega) (by omega) (by rw [h_14]; rfl) (by decide) ?_
      have r_v_4 : RI v_4 150 150 := ⟨by omega, by omega⟩
      refine lv_aload_n hx hb dX5_isSo_95 rfl (lv_at hl 2 rfl) ?_
      refine lv_iload_n hx hb dX5_isSo_96 rfl (lv_at hl 3 rfl) ?_
      refine tk_ir (va_runV (As := [.int p2]) (rest := []) ⟨hx, hb, hml, hown, hts⟩ (c_X8_isNow l D cy z s.heap.size Ps w0 hw.1 p1 p2 h_p1 r_p2) (cwV 1 hts (gV tw_1012 tw_570 tw_571 tw_12 tw_572) rfl rfl rfl (by decide +kernel) ⟨Nat.le_of_ble_eq_true rfl, Nat.le_of_ble_eq_true rfl⟩) (tg_preV hw hK hSD hA (ci := 8) (q := (RX8, TX8, 13)) rfl h_p1 rfl) rfl rfl hl.1 rfl (lv_room (Nat.le_of_ble_eq_true rfl)) dX5_isSo_97 ⟨Nat.le_of_ble_eq_true rfl, Nat.le_of_ble_eq_true rfl⟩) hw hA (fun v_11  H locs hp_v_11 hw => ?_)
      have r_v_11 : RI v_11 (-1) 5 := hp_v_11.1
      by_cases c9_v_11 : v_11.toInt < 0
      · have r_v_11 : RI v_11 (-1) (-1) := by unfold RI at r_v_11 ⊢; omega
        have x_NBQ_p1_p2 := (hp_v_11.2.2.2.2.1 (by omega)).1
        refine lv_iload hx hb dX5_isSo_100 (lv_at hl 0 rfl) ?_
        refine lv_icmp_ne (tgt := 109) hx hb dX5_isSo_102 (by decide) (fun c_102 => ?_) (fun c_102 => ?_)
        · refine lv_iconst (v := 0) hx hb dX5_isSo_109 (by decide) ?_
          subst hQ
          exact W.zret (v := 0) hx hb hr (rfl) (fun t ht hW => ⟨⟨0, (), rfl, ⟨rl_0.to (by decide), (fun h0 => trivial), (fun _ => trivial)⟩, by rw [ht]; exact hw.2.1, va_K.moved hW.alike hK, hw.2.2.1⟩, hw.2.2.2.1.F ht⟩) hw.2.2.2.1.2.2 dX5_isSo_110
        · have r_v_2 : RI v_2 (-1) (-1) := rc_eq2 r_v_11 r_v_2 (ti_eq c_102) (by decide)
          refine lv_iconst (v := 1) hx hb dX5_isSo_105 (by decide) ?_
          refine lv_goto (tgt := 110) hx hb dX5_isSo_106 (by decide) ?_
          subst hQ
          exact W.zret (v := 1) hx hb hr (rfl) (fun t ht hW => ⟨⟨1, (), rfl, ⟨rl_1.to (by decide), (fun _ => trivial), (fun h0 => trivial)⟩, by rw [ht]; exact hw.2.1, va_K.moved hW.alike hK, hw.2.2.1⟩, hw.2.2.2.1.F ht⟩) hw.2.2.2.1.2.2 dX5_isSo_110
      · have r_v_11 : RI v_11 0 5 := by unfold RI at r_v_11 ⊢; omega
        have x_WBQ_p1_p2 := (hp_v_11.2.2.2.2.2 (by omega)).1
        refine lv_iload hx hb dX5_isSo_100 (lv_at hl 0 rfl) ?_
        refine lv_icmp_ne (tgt := 109) hx hb dX5_isSo_102 (by decide) (fun c_102 => ?_) (fun c_102 => ?_)
        · refine lv_iconst (v := 0) hx hb dX5_isSo_109 (by decide) ?_
          subst hQ
          exact W.zret (v := 0) hx hb hr (rfl) (fun t ht hW => ⟨⟨0, (), rfl, ⟨rl_0.to (by decide), (fun h0 => trivial), (fun _ => trivial)⟩, by rw [ht]; exact hw.2.1, va_K.moved hW.alike hK, hw.2.2.1⟩, hw.2.2.2.1.F ht⟩) hw.2.2.2.1.2.2 dX5_isSo_110
        · have r_v_2 : RI v_2 0 5 := rc_eq2 r_v_11 r_v_2 (ti_eq c_102) (by decide)
          refine lv_iconst (v := 1) hx hb dX5_isSo_105 (by decide) ?_
          refine lv_goto (tgt := 110) hx hb dX5_isSo_106 (by decide) ?_
          subst hQ
          exact W.zret (v := 1) hx hb hr (rfl) (fun t ht hW => ⟨⟨1, (), rfl, ⟨rl_1.to (by decide), (fun _ => trivial), (fun h0 => trivial)⟩, by rw [ht]; exact hw.2.1, va_K.moved hW.alike hK, hw.2.2.1⟩, hw.2.2.2.1.F ht⟩) hw.2.2.2.1.2.2 dX5_isSo_110
    · refine lv_tableIn (tgt := 111) (off := 97) hx hb dX5_isSo_14 (by omega) (by omega) (by rw [h_14]; rfl) (by decide) ?_
      have r_v_4 : RI v_4 151 151 := ⟨by omega, by omega⟩
      refine lv_aload_n hx hb dX5_isSo_111 rfl (lv_at hl 2 rfl) ?_
      refine tg_getN (ci := 8) (ts := ty_WORLD) (C := RX8) (T := TX8) (N := 13) hx hb hts inX8 hown hK hw h_p1 rfl rfl 3 (by decide) (hSD.nest tn_256) (fun _ h9 => h9) (ft := vR 9) rfl dX5_isSo_112 (fun u_12 hv_u_12 m_u_12 => ?_)
      obtain ⟨vu_12, rfl, h_vu_12⟩ := hv_u_12
      refine lv_iload_n hx hb dX5_isSo_115 rfl (lv_at hl 3 rfl) ?_
      refine tg_iald (lo := (-2147483648)) (hi := 2147483647) hx hb hK hw h_vu_12 rfl 0 5 r_p2 (by decide) (by exact fun _ _ _ => ⟨Int.le_refl _, Int.le_refl _⟩) dX5_isSo_116 (fun v_13 r_v_13 m_v_13 o_v_13 => ?_)
      refine lv_iload hx hb dX5_isSo_117 (lv_at hl 0 rfl) ?_
      refine lv_icmp_ne (tgt := 126) hx hb dX5_isSo_119 (by decide) (fun c_119 => ?_) (fun c_119 => ?_)
      · refine lv_iconst (v := 0) hx hb dX5_isSo_126 (by decide) ?_
        subst hQ
        exact W.zret (v := 0) hx hb hr (rfl) (fun t ht hW => ⟨⟨0, (), rfl, ⟨rl_0.to (by decide), (fun h0 => trivial), (fun _ => trivial)⟩, by rw [ht]; exact hw.2.1, va_K.moved hW.alike hK, hw.2.2.1⟩, hw.2.2.2.1.F ht⟩) hw.2.2.2.1.2.2 dX5_isSo_127
      · refine lv_iconst (v := 1) hx hb dX5_isSo_122 (by decide) ?_
        refine lv_goto (tgt := 127) hx hb dX5_isSo_123 (by decide) ?_
        subst hQ
        exact W.zret (v := 1) hx hb hr (rfl) (fun t ht hW => ⟨⟨1, (), rfl, ⟨rl_1.to (by decide), (fun _ => trivial), (fun h0 => trivial)⟩, by rw [ht]; exact hw.2.1, va_K.moved hW.alike hK, hw.2.2.1⟩, hw.2.2.2.1.F ht⟩) hw.2.2.2.1.2.2 dX5_isSo_127
    · refine lv_tableIn (tgt := 128) (off := 114) hx hb dX5_isSo_14 (by omega) (by omega) (by rw [h_14]; rfl) (by decide) ?_
      have r_v_4 : RI v_4 152 152 := ⟨by omega, by omega⟩
      refine lv_aload_n hx hb dX5_isSo_128 rfl (lv_at hl 2 rfl) ?_
      refine lv_iload_n hx hb dX5_isSo_129 rfl (lv_at hl 3 rfl) ?_
      refine tk_ir (va_runV (As := [.int p2]) (rest := []) ⟨hx, hb, hml, hown, hts⟩ (c_X8_sizeOf l D cy z s.heap.size Ps w0 hw.1 p1 p2 h_p1 r_p2) (cwV 1 hts (gV tw_1014 tw_594 tw_595 tw_12 tw_596) rfl rfl rfl (by decide +kernel) ⟨Nat.le_of_ble_eq_true rfl, Nat.le_of_ble_eq_true rfl⟩) (tg_preV hw hK hSD hA (ci := 8) (q := (RX8, TX8, 13)) rfl h_p1 rfl) rfl rfl hl.1 rfl (lv_room (Nat.le_of_ble_eq_true rfl)) dX5_isSo_130 ⟨Nat.le_of_ble_eq_true rfl, Nat.le_of_ble_eq_true rfl⟩) hw hA (fun v_14  H locs hp_v_14 hw => ?_)
      have r_v_14 : RI v_14 (-2147483648) 2147483647 := hp_v_14.1
      refine lv_aload_n hx hb dX5_isSo_133 rfl (lv_at hl 1 rfl) ?_
      refine tg_get (ci := 5) (ts := ty_SENT) (C := RX5) (T := TX5) (N := 5) hx hb hts inX5 hown hK hw h_p0 rfl rfl 1 (by decide) (hts _ tw_952) (fun _ h9 => h9) (ft := vR 21) rfl dX5_isSo_134 (fun u_15 hv_u_15 m_u_15 => ?_)
      obtain ⟨vu_15, rfl, h_vu_15⟩ := hv_u_15
      refine lv_iload_n hx hb dX5_isSo_137 rfl (lv_at hl 4 rfl) ?_
      refine tg_iald (lo := (-2147483648)) (hi := 2147483647) hx hb hK hw h_vu_15 rfl 0 39 r_p3 (by decide) (by exact fun _ _ _ => ⟨Int.le_refl _, Int.le_refl _⟩) dX5_isSo_138 (fun v_16 r_v_16 m_v_16 o_v_16 => ?_)
      refine lv_iload hx hb dX5_isSo_139 (lv_at hl 0 rfl) ?_
      refine tk_ir (va_runS (As := [.int v_14, .int v_16, .int v_2]) (rest := []) ⟨hx, hb, hml, hown, hts⟩ (c_X5_compares l D cy z H.size Ps w0 hw.1 v_14 v_16 v_2 r_v_14 r_v_16 r_v_2) (va_cwS 3 hts (gS tw_1015 tw_1016 tw_23 tw_1017) rfl rfl rfl (by decide +kernel) ⟨Nat.le_of_ble_eq_true rfl, Nat.le_of_ble_eq_true rfl⟩) (tg_preS hw hK hSD hA) rfl rfl hl.1 rfl (lv_room (Nat.le_of_ble_eq_true rfl)) dX5_isSo_141 ⟨Nat.le_of_ble_eq_true rfl, Nat.le_of_ble_eq_true rfl⟩) hw hA (fun v_17  H locs hp_v_17 hw => ?_)
      have r_v_17 : RI v_17 0 1 := hp_v_17.1
      subst hQ
      exact W.zret (v := v_17) hx hb hr (tq_nz (r_v_17.to (by decide))) (fun t ht hW => ⟨⟨v_17, (), rfl, ⟨r_v_17.to (by decide), (fun h0 => trivial), (fun h0 => trivial)⟩, by rw [ht]; exact hw.2.1, va_K.moved hW.alike hK, hw.2.2.1⟩, hw.2.2.2.1.F ht⟩) hw.2.2.2.1.2.2 dX5_isSo_144
    · refine lv_tableIn (tgt := 145) (off := 131) hx hb dX5_isSo_14 (by omega) (by omega) (by rw [h_14]; rfl) (by decide) ?_
      have r_v_4 : RI v_4 153 153 := ⟨by omega, by omega⟩
      refine lv_aload_n hx hb dX5_isSo_145 rfl (lv_at hl 2 rfl) ?_
      refine tg_getN (ci := 8) (ts := ty_WORLD) (C := RX8) (T := TX8) (N := 13) hx hb hts inX8 hown hK hw h_p1 rfl rfl 4 (by decide) (hSD.nest tn_259) (fun _ h9 => h9) (ft := vR 10) rfl dX5_isSo_146 (fun u_18 hv_u_18 m_u_18 => ?_)
      obtain ⟨vu_18, rfl, h_vu_18⟩ := hv_u_18
      refine lv_iload_n hx hb dX5_isSo_149 rfl (lv_at hl 3 rfl) ?_
      refine tg_iald (lo := (-2147483648)) (hi := 2147483647) hx hb hK hw h_vu_18 rfl 0 5 r_p2 (by decide) (by exact fun _ _ _ => ⟨Int.le_refl _, Int.le_refl _⟩) dX5_isSo_150 (fun v_19 r_v_19 m_v_19 o_v_19 => ?_)
      refine lv_aload_n hx hb dX5_isSo_151 rfl (lv_at hl 1 rfl) ?_
      refine tg_get (ci := 5) (ts := ty_SENT) (C := RX5) (T := TX5) (N := 5) hx hb hts inX5 hown hK hw h_p0 rfl rfl 1 (by decide) (hts _ tw_952) (fun _ h9 => h9) (ft := vR 21) rfl dX5_isSo_152 (fun u_20 hv_u_20 m_u_20 => ?_)
      obtain ⟨vu_20, rfl, h_vu_20⟩ := hv_u_20
      refine lv_iload_n hx hb dX5_isSo_155 rfl (lv_at hl 4 rfl) ?_
      refine tg_iald (lo := (-2147483648)) (hi := 2147483647) hx hb hK hw h_vu_20 rfl 0 39 r_p3 (by decide) (by exact fun _ _ _ => ⟨Int.le_refl _, Int.le_refl _⟩) dX5_isSo_156 (fun v_21 r_v_21 m_v_21 o_v_21 => ?_)
      refine lv_iload hx hb dX5_isSo_157 (lv_at hl 0 rfl) ?_
      refine tk_ir (va_runS (As := [.int v_19, .int v_21, .int v_2]) (rest := []) ⟨hx, hb, hml, hown, hts⟩ (c_X5_compares l D cy z s.heap.size Ps w0 hw.1 v_19 v_21 v_2 r_v_19 r_v_21 r_v_2) (va_cwS 3 hts (gS tw_1015 tw_1016 tw_23 tw_1017) rfl rfl rfl (by decide +kernel) ⟨Nat.le_of_ble_eq_true rfl, Nat.le_of_ble_eq_true rfl⟩) (tg_preS hw hK hSD hA) rfl rfl hl.1 rfl (lv_room (Nat.le_of_ble_eq_true rfl)) dX5_isSo_159 ⟨Nat.le_of_ble_eq_true rfl, Nat.le_of_ble_eq_true rfl⟩) hw hA (fun v_22  H locs hp_v_22 hw => ?_)
      have r_v_22 : RI v_22 0 1 := hp_v_22.1
      subst hQ
      exact W.zret (v := v_22) hx hb hr (tq_nz (r_v_22.to (by decide))) (fun t ht hW => ⟨⟨v_22, (), rfl, ⟨r_v_22.to (by decide), (fun h0 => trivial), (fun h0 => trivial)⟩, by rw [ht]; exact hw.2.1, va_K.moved hW.alike hK, hw.2.2.1⟩, hw.2.2.2.1.F ht⟩) hw.2.2.2.1.2.2 dX5_isSo_162
    · refine lv_tableIn (tgt := 163) (off := 149) hx hb dX5_isSo_14 (by omega) (by omega) (by rw [h_14]; rfl) (by decide) ?_
      have r_v_4 : RI v_4 154 154 := ⟨by omega, by omega⟩
      refine lv_aload_n hx hb dX5_isSo_163 rfl (lv_at hl 2 rfl) ?_
      refine tg_getN (ci := 8) (ts := ty_WORLD) (C := RX8) (T := TX8) (N := 13) hx hb hts inX8 hown hK hw h_p1 rfl rfl 6 (by decide) (hSD.nest tn_264) (fun _ h9 => h9) (ft := vR 10) rfl dX5_isSo_164 (fun u_23 hv_u_23 m_u_23 => ?_)
      obtain ⟨vu_23, rfl, h_vu_23⟩ := hv_u_23
      refine lv_iload_n hx hb dX5_isSo_167 rfl (lv_at hl 3 rfl) ?_
      refine tg_iald (lo := (-2147483648)) (hi := 2147483647) hx hb hK hw h_vu_23 rfl 0 5 r_p2 (by decide) (by exact fun _ _ _ => ⟨Int.le_refl _, Int.le_refl _⟩) dX5_isSo_168 (fun v_24 r_v_24 m_v_24 o_v_24 => ?_)
      refine lv_aload_n hx hb dX5_isSo_169 rfl (lv_at hl 1 rfl) ?_
      refine tg_get (ci := 5) (ts := ty_SENT) (C := RX5) (T := TX5) (N := 5) hx hb hts inX5 hown hK hw h_p0 rfl rfl 1 (by decide) (hts _ tw_952) (fun _ h9 => h9) (ft := vR 21) rfl dX5_isSo_170 (fun u_25 hv_u_25 m_u_25 => ?_)
      obtain ⟨vu_25, rfl, h_vu_25⟩ := hv_u_25
      refine lv_iload_n hx hb dX5_isSo_173 rfl (lv_at hl 4 rfl) ?_
      refine tg_iald (lo := (-2147483648)) (hi := 2147483647) hx hb hK hw h_vu_25 rfl 0 39 r_p3 (by decide) (by exact fun _ _ _ => ⟨Int.le_refl _, Int.le_refl _⟩) dX5_isSo_174 (fun v_26 r_v_26 m_v_26 o_v_26 => ?_)
      refine lv_iload hx hb dX5_isSo_175 (lv_at hl 0 rfl) ?_
      refine tk_ir (va_runS (As := [.int v_24, .int v_26, .int v_2]) (rest := []) ⟨hx, hb, hml, hown, hts⟩ (c_X5_compares l D cy z s.heap.size Ps w0 hw.1 v_24 v_26 v_2 r_v_24 r_v_26 r_v_2) (va_cwS 3 hts (gS tw_1015 tw_1016 tw_23 tw_1017) rfl rfl rfl (by decide +kernel) ⟨Nat.le_of_ble_eq_true rfl, Nat.le_of_ble_eq_true rfl⟩) (tg_preS hw hK hSD hA) rfl rfl hl.1 rfl (lv_room (Nat.le_of_ble_eq_true rfl)) dX5_isSo_177 ⟨Nat.le_of_ble_eq_true rfl, Nat.le_of_ble_eq_true rfl⟩) hw hA (fun v_27  H locs hp_v_27 hw => ?_)
      have r_v_27 : RI v_27 0 1 := hp_v_27.1
      subst hQ
      exact W.zret (v := v_27) hx hb hr (tq_nz (r_v_27.to (by decide))) (fun t ht hW => ⟨⟨v_27, (), rfl, ⟨r_v_27.to (by decide), (fun h0 => trivial), (fun h0 => trivial)⟩, by rw [ht]; exact hw.2.1, va_K.moved hW.alike hK, hw.2.2.1⟩, hw.2.2.2.1.F ht⟩) hw.2.2.2.1.2.2 dX5_isSo_180
abbrev wr_X5_holdsOf : List (Nat × Nat) := []
abbrev wa_X5_holdsOf : List Nat := []
set_option maxHeartbeats 4000000 in
set_option maxRecDepth 100000 in
theorem c_X5_holdsOf (l : Launch) (D : va_G) (cy : Nat → ClassId) (z : Nat → Nat) (sz : Nat) (Ps : PSI) (w0 : va_W) (hT : HT cy GG Ps w0) (p0 : Nat) (p1 : Nat) (p2 : Int32) (h_p0 : (p0, 32) ∈ Ps) (h_p1 : (p1, 24) ∈ Ps) (r_p2 : RI p2 0 5) : Met l yX5_holdsOf (Cond.code yX5_holdsOf cX5_holdsOf 6 (some .boolean) :: gT) ({ frames := 5, cells := 0, slots := 0, locals := 1000 } : Room) (va_Pc [.ref p0, .ref p1, .int p2] (PRE D cy z w0 sz)) (va_Qi (fun (r : Int32) (u : Unit) => RI r 0 1 ∧ (r = 0 → True) ∧ (¬ r = 0 → True)) (BB D cy (va_A w0 sz) (fun (u : Unit) => w0)) (va_A w0 sz)) 0 0 (va_A w0 sz) := by
  refine Met.ofW (cc := cX5_holdsOf) (maxL := 6) (ret := (some .boolean)) (by decide) rfl ?_
  intro p e s m args below meth c s₁ B hml hv
  obtain ⟨rfl, hsz, hP, hK, hD0, hSD⟩ := hv
  have hx := B.exec
  have hb := B.bytes
  have hr := B.returns
  have hlocks := B.notSynchronized
  have hts : ∀ w ∈ gT, w.before _ s = true := fun w h => atoms_spec (ws := Cond.code yX5_holdsOf cX5_holdsOf 6 (some .boolean) :: gT) B.pre w (List.mem_cons_of_mem _ h)
  have hown : s.vm.findClass RX5 = some m.cls := findClass_of_methodNamed B.named
  subst hsz
  have hD := hD0.self (sz := s.heap.size)
  generalize hAe : va_A w0 s.heap.size = A at hD hSD ⊢
  have hA : ∀ q : Nat, s.heap.size ≤ q → A q := fun q h => by rw [← hAe]; exact Or.inr h
  have hl := lv_entry ([.ref p0, .ref p1, .int p2]) (n := 6) (Nat.le_of_ble_eq_true rfl)
  rw [lg_entry_eq]
  generalize (lg_sl ([.ref p0, .ref p1, .int p2]) ++ List.replicate (6 - (lg_sl ([.ref p0, .ref p1, .int p2])).length) Slot.unset).toArray = ls at hl ⊢
  have hl : lv_has ls 6 [(0, .ref p0), (1, .ref p1), (2, .int p2)] := hl
  refine nameQ (fun Q hQ => ?_)
  have hw : WD D cy GG A s wr_X5_holdsOf wa_X5_holdsOf Ps w0 Ps w0 s.heap [] := ⟨hT, hP, hD, va_S.rf, FR.rf, hT.1, [], (List.append_nil _).symm⟩
  have B5 : ∀ (nf : Nat) (x3 : Int32) (x4 : Int32) (H : Heap) (locs : List Loc) (ls : Array Slot), 40 - x4.toInt < (nf : Int) → RI p2 0 5 → RI x3 (-2147483648) 2147483647 → RI x4 0 40 → WD D cy GG A s wr_X5_holdsOf wa_X5_holdsOf Ps w0 Ps w0 H locs → lv_has ls 6 [(0, .ref p0), (1, .ref p1), (2, .int p2), (3, .int x3), (4, .int x4)] → W p l e (headSpec (Cond.code yX5_holdsOf cX5_holdsOf 6 (some .boolean) :: gT) ({ frames := 5, cells := 0, slots := 0, locals := 1000 } : Room)).room s m ([.ref p0, .ref p1, .int p2] : List Value).toArray below meth c H locs 0 0 Q (F0 m 5 ls []) := by
    intro nf5
    induction nf5 with
    | zero =>
      intro x3 x4 H locs ls hn5 r_p2 r_x3 r_x4 hw hl
      exact absurd hn5 (by have q0 := r_x4.1; have u0 := r_x4.2; omega)
    | succ nf5 ih5 =>
      have B101 : ∀ (x3 : Int32) (x4 : Int32) (x5 : Int32) (y0 : Int32) (y1 : Int32) (z0_3 : Int32) (H : Heap) (locs : List Loc) (ls : Array Slot), RI p2 0 5 → RI x3 (-2147483648) 2147483647 → RI x4 0 39 → RI x5 0 1 → RI y0 0 1 → RI y1 (-2147483648) 2147483647 → RI z0_3 1 40 → FLD w0 p0 5 3 (.int z0_3) → 40 - x4.toInt < ((nf5 + 1 : Nat) : Int) → WD D cy GG A s wr_X5_holdsOf wa_X5_holdsOf Ps w0 Ps w0 H locs → lv_has ls 6 [(0, .ref p0), (1, .ref p1), (2, .int p2), (3, .int x3), (4, .int x4), (5, .int x5)] → W p l e (headSpec (Cond.code yX5_holdsOf cX5_holdsOf 6 (some .boolean) :: gT) ({ frames := 5, cells := 0, slots := 0, locals := 1000 } : Room)).room s m ([.ref p0, .ref p1, .int p2] : List Value).toArray below meth c H locs 0 0 Q (F0 m 101 ls [.int y0, .int y1]) := by
        intro x3 x4 x5 y0 y1 z0_3 H locs ls r_p2 r_x3 r_x4 r_x5 r_y0 r_y1 r_z0_3 m_z0_3 hn5 hw hl
        refine lv_ior hx hb dX5_holdsOf_101 (lv_topi (fun v_1 e_v_1 => ?_))
        have r_v_1 := ri_any v_1
        refine lv_istore_n (lv' := [(3, .int v_1), (0, .ref p0), (1, .ref p1), (2, .int p2), (4, .int x4), (5, .int x5)]) hx hb dX5_holdsOf_102 rfl hl (by decide) rfl (fun ls hl => ?_)
        obtain ⟨v_2, e_v_2⟩ : ∃ q9 : Int32, q9 = x4 + Int32.ofInt 1 := ⟨_, rfl⟩
        obtain ⟨t_v_2, r_v_2⟩ := tq_add (lo := 1) (hi := 40) r_x4 (show RI (Int32.ofInt 1) 1 1 by unfold RI; decide +kernel) (by decide +kernel) e_v_2
        have t_v_2 : v_2.toInt = x4.toInt + 1 := t_v_2
        refine lv_iinc (v := v_2) (lv' := [(4, .int v_2), (3, .int v_1), (0, .ref p0), (1, .ref p1), (2, .int p2), (5, .int x5)]) hx hb dX5_holdsOf_103 hl (k := 4) rfl e_v_2.symm (by decide) rfl (fun ls hl => ?_)
        refine lv_goto (tgt := 5) hx hb dX5_holdsOf_106 (by decide) ?_
        exact ih5 v_1 v_2 _ _ ls (by have q0 := r_v_2.1; have u0 := r_v_2.2; have o0 := r_x4.1; have p0 := r_x4.2; omega) r_p2 r_v_1 (r_v_2.to (by decide)) hw (lv_sub hl [2, 3, 4, 1, 0] rfl)
      intro x3 x4 H locs ls hn5 r_p2 r_x3 r_x4 hw hl
      refine lv_iload hx hb dX5_holdsOf_5 (lv_at hl 4 rfl) ?_
      refine lv_aload_n hx hb dX5_holdsOf_7 rfl (lv_at hl 0 rfl) ?_
      refine tg_get (ci := 5) (ts := ty_SENT) (C := RX5) (T := TX5) (N := 5) hx hb hts inX5 hown hK hw h_p0 rfl rfl 3 (by decide) (hts _ tw_954) (fun _ h9 => h9) (ft := vI 0 40) rfl dX5_holdsOf_8 (fun u_3 hv_u_3 m_u_3 => ?_)
      obtain ⟨vu_3, rfl, r_vu_3⟩ := hv_u_3
      refine lv_icmp_ge (tgt := 109) hx hb dX5_holdsOf_11 (by decide) (fun c_11 => ?_) (fun c_11 => ?_)
      · refine lv_iload_n hx hb dX5_holdsOf_109 rfl (lv_at hl 3 rfl) ?_
        refine lv_iconst (v := 1) hx hb dX5_holdsOf_110 (by decide) ?_
        refine lv_iand hx hb dX5_holdsOf_111 (lv_topi (fun v_4 e_v_4 => ?_))
        have r_v_4 : RI v_4 0 1 := by rw [e_v_4]; exact ri_and (d := 1) (rl_1.to (by decide)) (by decide)
        refine lv_if_eq (tgt := 119) hx hb dX5_holdsOf_112 (by decide) (fun c_112 => ?_) (fun c_112 => ?_)
        · have r_v_4 : RI v_4 0 0 := rc_eq1 r_v_4 rl_0 (ti_eq c_112) (by decide)
          refine lv_iconst (v := 0) hx hb dX5_holdsOf_119 (by decide) ?_
          subst hQ
          exact W.zret (v := 0) hx hb hr (rfl) (fun t ht hW => ⟨⟨0, (), rfl, ⟨rl_0.to (by decide), (fun h0 => trivial), (fun _ => trivial)⟩, by rw [ht]; exact hw.2.1, va_K.moved hW.alike hK, hw.2.2.1⟩, hw.2.2.2.1.F ht⟩) hw.2.2.2.1.2.2 dX5_holdsOf_120
        · have r_v_4 : RI v_4 1 1 := rc_neL r_v_4 rl_0 (ti_ne c_112) (by decide)
          refine lv_iconst (v := 1) hx hb dX5_holdsOf_115 (by decide) ?_
          refine lv_goto (tgt := 120) hx hb dX5_holdsOf_116 (by decide) ?_
          subst hQ
          exact W.zret (v := 1) hx hb hr (rfl) (fun t ht hW => ⟨⟨1, (), rfl, ⟨rl_1.to (by decide), (fun _ => trivial), (fun h0 => trivial)⟩, by rw [ht]; exact hw.2.1, va_K.moved hW.alike hK, hw.2.2.1⟩, hw.2.2.2.1.F ht⟩) hw.2.2.2.1.2.2 dX5_holdsOf_120
      · have r_x4 : RI x4 0 39 := rc_lt1 r_x4 r_vu_3 (ti_nle c_11) (by decide)
        have r_vu_3 : RI vu_3 1 40 := rc_lt2 r_x4 r_vu_3 (ti_nle c_11) (by decide)
        refine lv_iload_n hx hb dX5_holdsOf_14 rfl (lv_at hl 3 rfl) ?_
        refine lv_iconst (v := 1) hx hb dX5_holdsOf_15 (by decide) ?_
        refine lv_iand hx hb dX5_holdsOf_16 (lv_topi (fun v_5 e_v_5 => ?_))
        have r_v_5 : RI v_5 0 1 := by rw [e_v_5]; exact ri_and (d := 1) (rl_1.to (by decide)) (by decide)
        refine lv_istore (lv' := [(5, .int v_5), (0, .ref p0), (1, .ref p1), (2, .int p2), (3, .int x3), (4, .int x4)]) hx hb dX5_holdsOf_17 hl (by decide) rfl (fun ls hl => ?_)
        refine lv_aload_n hx hb dX5_holdsOf_19 rfl (lv_at hl 1 rfl) ?_
        refine tg_get (ci := 5) (ts := ty_SENT) (C := RX5) (T := TX5) (N := 5) hx hb hts inX5 hown hK hw h_p0 rfl rfl 0 (by decide) (hts _ tw_951) (fun _ h9 => h9) (ft := vR 21) rfl dX5_holdsOf_20 (fun u_6 hv_u_6 m_u_6 => ?_)
        obtain ⟨vu_6, rfl, h_vu_6⟩ := hv_u_6
        refine lv_iload hx hb dX5_holdsOf_23 (lv_at hl 5 rfl) ?_
        refine tg_iald (lo := (-2147483648)) (hi := 2147483647) hx hb hK hw h_vu_6 rfl 0 39 r_x4 (by decide) (by exact fun _ _ _ => ⟨Int.le_refl _, Int.le_refl _⟩) dX5_holdsOf_25 (fun v_7 r_v_7 m_v_7 o_v_7 => ?_)
        have w_26 := r_v_7
        by_cases cl_26 : v_7.toInt < 144 ∨ 146 < v_7.toInt
        · refine lv_tableOut (tgt := 82) hx hb dX5_holdsOf_26 cl_26 (by decide) ?_
          refine lv_iload_n hx hb dX5_holdsOf_82 rfl (lv_at hl 4 rfl) ?_
          refine lv_iconst (v := 1) hx hb dX5_holdsOf_83 (by decide) ?_
          refine lv_ishl hx hb dX5_holdsOf_84 (lv_topi (fun v_8 e_v_8 => ?_))
          have r_v_8 := ri_any v_8
          refine lv_aload_n hx hb dX5_holdsOf_85 rfl (lv_at hl 1 rfl) ?_
          refine lv_aload_n hx hb dX5_holdsOf_86 rfl (lv_at hl 2 rfl) ?_
          refine lv_iload_n hx hb dX5_holdsOf_87 rfl (lv_at hl 3 rfl) ?_
          refine lv_iload hx hb dX5_holdsOf_88 (lv_at hl 5 rfl) ?_
          refine tk_ir (va_runV (As := [.ref p1, .int p2, .int x4]) (rest := [.int v_8]) ⟨hx, hb, hml, hown, hts⟩ (c_X5_isSo l D cy z H.size Ps w0 hw.1 p0 p1 p2 x4 h_p0 h_p1 r_p2 r_x4) (cwV 3 hts (gV tw_1007 tw_1009 ts_35 tw_23 tw_1010) rfl rfl rfl (by decide +kernel) ⟨Nat.le_of_ble_eq_true rfl, Nat.le_of_ble_eq_true rfl⟩) (tg_preV hw hK hSD hA (ci := 5) (q := (RX5, TX5, 5)) rfl h_p0 rfl) rfl rfl hl.1 rfl (lv_room (Nat.le_of_ble_eq_true rfl)) dX5_holdsOf_90 ⟨Nat.le_of_ble_eq_true rfl, Nat.le_of_ble_eq_true rfl⟩) hw hA (fun v_9  H locs hp_v_9 hw => ?_)
          have r_v_9 : RI v_9 0 1 := hp_v_9.1
          refine lv_if_eq (tgt := 100) hx hb dX5_holdsOf_93 (by decide) (fun c_93 => ?_) (fun c_93 => ?_)
          · have r_v_9 : RI v_9 0 0 := rc_eq1 r_v_9 rl_0 (ti_eq c_93) (by decide)
            refine lv_iconst (v := 0) hx hb dX5_holdsOf_100 (by decide) ?_
            exact B101 x3 x4 v_5 0 v_8 vu_3 _ _ ls r_p2 r_x3 r_x4 r_v_5 (rl_0.to (by decide)) r_v_8 r_vu_3 m_u_3 (by have q0 := r_x4.1; have u0 := r_x4.2; omega) hw (lv_sub hl [1, 2, 3, 4, 5, 0] rfl)
          · have r_v_9 : RI v_9 1 1 := rc_neL r_v_9 rl_0 (ti_ne c_93) (by decide)
            refine lv_iconst (v := 1) hx hb dX5_holdsOf_96 (by decide) ?_
            refine lv_goto (tgt := 101) hx hb dX5_holdsOf_97 (by decide) ?_
            exact B101 x3 x4 v_5 1 v_8 vu_3 _ _ ls r_p2 r_x3 r_x4 r_v_5 (rl_1.to (by decide)) r_v_8 r_vu_3 m_u_3 (by have q0 := r_x4.1; have u0 := r_x4.2; omega) hw (lv_sub hl [1, 2, 3, 4, 5, 0] rfl)
        · have e_26 : v_7.toInt = 144 ∨ v_7.toInt = 145 ∨ v_7.toInt = 146 := by omega
          rcases e_26 with h_26 | h_26 | h_26
          · refine lv_tableIn (tgt := 72) (off := 46) hx hb dX5_holdsOf_26 (by omega) (by omega) (by rw [h_26]; rfl) (by decide) ?_
            have r_v_7 : RI v_7 144 144 := ⟨by omega, by omega⟩
            refine lv_iload_n hx hb dX5_holdsOf_72 rfl (lv_at hl 4 rfl) ?_
            refine lv_iconst (v := 1) hx hb dX5_holdsOf_73 (by decide) ?_
            refine lv_ishr hx hb dX5_holdsOf_74 (lv_topi (fun v_10 e_v_10 => ?_))
            have r_v_10 := ri_any v_10
            refine lv_iload hx hb dX5_holdsOf_75 (lv_at hl 0 rfl) ?_
            refine lv_ior hx hb dX5_holdsOf_77 (lv_topi (fun v_11 e_v_11 => ?_))
            have r_v_11 := ri_any v_11
            refine lv_istore_n (lv' := [(3, .int v_11), (5, .int v_5), (0, .ref p0), (1, .ref p1), (2, .int p2), (4, .int x4)]) hx hb dX5_holdsOf_78 rfl hl (by decide) rfl (fun ls hl => ?_)
            refine lv_goto (tgt := 103) hx hb dX5_holdsOf_79 (by decide) ?_
            obtain ⟨v_12, e_v_12⟩ : ∃ q9 : Int32, q9 = x4 + Int32.ofInt 1 := ⟨_, rfl⟩
            obtain ⟨t_v_12, r_v_12⟩ := tq_add (lo := 1) (hi := 40) r_x4 (show RI (Int32.ofInt 1) 1 1 by unfold RI; decide +kernel) (by decide +kernel) e_v_12
            have t_v_12 : v_12.toInt = x4.toInt + 1 := t_v_12
            refine lv_iinc (v := v_12) (lv' := [(4, .int v_12), (3, .int v_11), (5, .int v_5), (0, .ref p0), (1, .ref p1), (2, .int p2)]) hx hb dX5_holdsOf_103 hl (k := 5) rfl e_v_12.symm (by decide) rfl (fun ls hl => ?_)
            refine lv_goto (tgt := 5) hx hb dX5_holdsOf_106 (by decide) ?_
            exact ih5 v_11 v_12 _ _ ls (by have q0 := r_v_12.1; have u0 := r_v_12.2; have o0 := r_x4.1; have p0 := r_x4.2; omega) r_p2 r_v_11 (r_v_12.to (by decide)) hw (lv_sub hl [3, 4, 5, 1, 0] rfl)
          · refine lv_tableIn (tgt := 59) (off := 33) hx hb dX5_holdsOf_26 (by omega) (by omega) (by rw [h_26]; rfl) (by decide) ?_
            have r_v_7 : RI v_7 145 145 := ⟨by omega, by omega⟩
            refine lv_iload_n hx hb dX5_holdsOf_59 rfl (lv_at hl 4 rfl) ?_
            refine lv_iconst (v := 1) hx hb dX5_holdsOf_60 (by decide) ?_
            refine lv_ishr hx hb dX5_holdsOf_61 (lv_topi (fun v_13 e_v_13 => ?_))
            have r_v_13 := ri_any v_13
            refine lv_iload hx hb dX5_holdsOf_62 (lv_at hl 0 rfl) ?_
            refine lv_bipush (v := (-2)) hx hb dX5_holdsOf_64 (by decide) ?_
            refine lv_ior hx hb dX5_holdsOf_66 (lv_topi (fun v_14 e_v_14 => ?_))
            have r_v_14 := ri_any v_14
            refine lv_iand hx hb dX5_holdsOf_67 (lv_topi (fun v_15 e_v_15 => ?_))
            have r_v_15 := ri_any v_15
            refine lv_istore_n (lv' := [(3, .int v_15), (5, .int v_5), (0, .ref p0), (1, .ref p1), (2, .int p2), (4, .int x4)]) hx hb dX5_holdsOf_68 rfl hl (by decide) rfl (fun ls hl => ?_)
            refine lv_goto (tgt := 103) hx hb dX5_holdsOf_69 (by decide) ?_
            obtain ⟨v_16, e_v_16⟩ : ∃ q9 : Int32, q9 = x4 + Int32.ofInt 1 := ⟨_, rfl⟩
            obtain ⟨t_v_16, r_v_16⟩ := tq_add (lo := 1) (hi := 40) r_x4 (show RI (Int32.ofInt 1) 1 1 by unfold RI; decide +kernel) (by decide +kernel) e_v_16
            have t_v_16 : v_16.toInt = x4.toInt + 1 := t_v_16
            refine lv_iinc (v := v_16) (lv' := [(4, .int v_16), (3, .int v_15), (5, .int v_5), (0, .ref p0), (1, .ref p1), (2, .int p2)]) hx hb dX5_holdsOf_103 hl (k := 5) rfl e_v_16.symm (by decide) rfl (fun ls hl => ?_)
            refine lv_goto (tgt := 5) hx hb dX5_holdsOf_106 (by decide) ?_
            exact ih5 v_15 v_16 _ _ ls (by have q0 := r_v_16.1; have u0 := r_v_16.2; have o0 := r_x4.1; have p0 := r_x4.2; omega) r_p2 r_v_15 (r_v_16.to (by decide)) hw (lv_sub hl [3, 4, 5, 1, 0] rfl)
          · refine lv_tableIn (tgt := 52) (off := 26) hx hb dX5_holdsOf_26 (by omega) (by omega) (by rw [h_26]; rfl) (by decide) ?_
            have r_v_7 : RI v_7 146 146 := ⟨by omega, by omega⟩
            refine lv_iload_n hx hb dX5_holdsOf_52 rfl (lv_at hl 4 rfl) ?_
            refine lv_iconst (v := 1) hx hb dX5_holdsOf_53 (by decide) ?_
            refine lv_ixor hx hb dX5_holdsOf_54 (lv_topi (fun v_17 e_v_17 => ?_))
            have r_v_17 := ri_any v_17
            refine lv_istore_n (lv' := [(3, .int v_17), (5, .int v_5), (0, .ref p0), (1, .ref p1), (2, .int p2), (4, .int x4)]) hx hb dX5_holdsOf_55 rfl hl (by decide) rfl (fun ls hl => ?_)
            refine lv_goto (tgt := 103) hx hb dX5_holdsOf_56 (by decide) ?_
            obtain ⟨v_18, e_v_18⟩ : ∃ q9 : Int32, q9 = x4 + Int32.ofInt 1 := ⟨_, rfl⟩
            obtain ⟨t_v_18, r_v_18⟩ := tq_add (lo := 1) (hi := 40) r_x4 (show RI (Int32.ofInt 1) 1 1 by unfold RI; decide +kernel) (by decide +kernel) e_v_18
            have t_v_18 : v_18.toInt = x4.toInt + 1 := t_v_18
            refine lv_iinc (v := v_18) (lv' := [(4, .int v_18), (3, .int v_17), (5, .int v_5), (0, .ref p0), (1, .ref p1), (2, .int p2)]) hx hb dX5_holdsOf_103 hl (k := 5) rfl e_v_18.symm (by decide) rfl (fun ls hl => ?_)
            refine lv_goto (tgt := 5) hx hb dX5_holdsOf_106 (by decide) ?_
            exact ih5 v_17 v_18 _ _ ls (by have q0 := r_v_18.1; have u0 := r_v_18.2; have o0 := r_x4.1; have p0 := r_x4.2; omega) r_p2 r_v_17 (r_v_18.to (by decide)) hw (lv_sub hl [3, 4, 5, 1, 0] rfl)
  refine lv_iconst (v := 0) hx hb dX5_holdsOf_0 (by decide) ?_
  refine lv_istore_n (lv' := [(3, .int 0), (0, .ref p0), (1, .ref p1), (2, .int p2)]) hx hb dX5_holdsOf_1 rfl hl (by decide) rfl (fun ls hl => ?_)
  refine lv_iconst (v := 0) hx hb dX5_holdsOf_2 (by decide) ?_
  refine lv_istore (lv' := [(4, .int 0), (3, .int 0), (0, .ref p0), (1, .ref p1), (2, .int p2)]) hx hb dX5_holdsOf_3 hl (by decide) rfl (fun ls hl => ?_)
  exact B5 4294967298 0 0 _ _ ls (by have q0 := rl_0.1; have u0 := rl_0.2; omega) r_p2 (rl_0.to (by decide)) (rl_0.to (by decide)) hw (lv_sub hl [2, 3, 4, 1, 0] rfl)
abbrev wr_X5_readPlain : List (Nat × Nat) := [(5, 3), (7, 5), (7, 6), (7, 7), (7, 8), (7, 9), (7, 10), (7, 11)]
abbrev wa_X5_readPlain : List Nat := [21]
set_option maxHeartbeats 4000000 in
set_option maxRecDepth 100000 in
theorem c_X5_readPlain (l : Launch) (D : va_G) (cy : Nat → ClassId) (z : Nat → Nat) (sz : Nat) (Ps : PSI) (w0 : va_W) (hT : HT cy GG Ps w0) (p0 : Nat) (p1 : Nat) (p2 : Nat) (p3 : Int32) (h_p0 : (p0, 32) ∈ Ps) (h_p1 : (p1, 26) ∈ Ps) (h_p2 : (p2, 25) ∈ Ps) (r_p3 : RI p3 (-2147483648) 2147483647) : Met l yX5_readPlain (Cond.code yX5_readPlain cX5_readPlain 5 none :: gT) ({ frames := 4, cells := 0, slots := 0, locals := 800 } : Room) (va_Pc [.ref p0, .ref p1, .ref p2, .int p3] (PRE D cy z w0 sz)) (va_Qv (fun (u : va_W) => ((∃ v9 : Int32, FLD u p0 5 3 (.int v9) ∧ RI v9 1 40) ∧ True) ∧ HT cy GG Ps u ∧ FR wr_X5_readPlain wa_X5_readPlain Ps w0 u) (BB D cy (va_A w0 sz) (fun (u : va_W) => u)) (va_A w0 sz)) 0 0 (va_A w0 sz) := by
  refine Met.ofW (cc := cX5_readPlain) (maxL := 5) (ret := none) (by decide) rfl ?_
  intro p e s m args below meth c s₁ B hml hv
  obtain ⟨rfl, hsz, hP, hK, hD0, hSD⟩ := hv
  have hx := B.exec
  have hb := B.bytes
  have hr := B.returns
  have hlocks := B.notSynchronized
  have hts : ∀ w ∈ gT, w.before _ s = true := fun w h => atoms_spec (ws := Cond.code yX5_readPlain cX5_readPlain 5 none :: gT) B.pre w (List.mem_cons_of_mem _ h)
  have hown : s.vm.findClass RX5 = some m.cls := findClass_of_methodNamed B.named
  subst hsz
  have hD := hD0.self (sz := s.heap.size)
  generalize hAe : va_A w0 s.heap.size = A at hD hSD ⊢
  have hA : ∀ q : Nat, s.heap.size ≤ q → A q := fun q h => by rw [← hAe]; exact Or.inr h
  have hl := lv_entry ([.ref p0, .ref p1, .ref p2, .int p3]) (n := 5) (Nat.le_of_ble_eq_true rfl)
  rw [lg_entry_eq]
  generalize (lg_sl ([.ref p0, .ref p1, .ref p2, .int p3]) ++ List.replicate (5 - (lg_sl ([.ref p0, .ref p1, .ref p2, .int p3])).length) Slot.unset).toArray = ls at hl ⊢
  have hl : lv_has ls 5 [(0, .ref p0), (1, .ref p1), (2, .ref p2), (3, .int p3)] := hl
  refine nameQ (fun Q hQ => ?_)
  have hw : WD D cy GG A s wr_X5_readPlain wa_X5_readPlain Ps w0 Ps w0 s.heap [] := ⟨hT, hP, hD, va_S.rf, FR.rf, hT.1, [], (List.append_nil _).symm⟩
  have B83 : ∀ (x4 : Int32) (ws : va_W) (H : Heap) (locs : List Loc) (ls : Array Slot), RI p3 152 2147483647 → RI x4 (-2147483648) 2147483647 → WD D cy GG A s wr_X5_readPlain wa_X5_readPlain Ps w0 Ps ws H locs → lv_has ls 5 [(0, .ref p0), (1, .ref p1), (2, .ref p2), (3, .int p3), (4, .int x4)] → W p l e (headSpec (Cond.code yX5_readPlain cX5_readPlain 5 none :: gT) ({ frames := 4, cells := 0, slots := 0, locals := 800 } : Room)).room s m ([.ref p0, .ref p1, .ref p2, .int p3] : List Value).toArray below meth c H locs 0 0 Q (F0 m 83 ls []) := by
    intro x4 ws H locs ls r_p3 r_x4 hw hl
    refine lv_aload_n hx hb dX5_readPlain_83 rfl (lv_at hl 1 rfl) ?_
    refine tk_v (va_runV (As := []) (rest := []) ⟨hx, hb, hml, hown, hts⟩ (c_X7_pass l D cy z H.size Ps ws hw.1 p1 h_p1) (cwV 0 hts (gV tw_982 tw_425 tw_426 tw_2 tw_427) rfl rfl rfl (by decide +kernel) ⟨Nat.le_of_ble_eq_true rfl, Nat.le_of_ble_eq_true rfl⟩) (tg_preV hw hK hSD hA (ci := 7) (q := (RX7, TX7, 12)) rfl h_p1 rfl) rfl rfl hl.1 rfl (lv_room (Nat.le_of_ble_eq_true rfl)) dX5_readPlain_84 ⟨Nat.le_of_ble_eq_true rfl, Nat.le_of_ble_eq_true rfl⟩) hw hA ⟨by decide, by decide⟩ (fun ws H locs hp_v_1 hw hF9 => ?_)
    refine lv_aload_n hx hb dX5_readPlain_87 rfl (lv_at hl 0 rfl) ?_
    refine lv_iload_n hx hb dX5_readPlain_88 rfl (lv_at hl 3 rfl) ?_
    refine lv_iload hx hb dX5_readPlain_89 (lv_at hl 4 rfl) ?_
    refine lv_aload_n hx hb dX5_readPlain_91 rfl (lv_at hl 1 rfl) ?_
    refine lv_iconst (v := 0) hx hb dX5_readPlain_92 (by decide) ?_
    refine lv_sipush (v := 999) hx hb dX5_readPlain_93 (by decide) ?_
    refine tk_i (va_runV (As := [.int 0, .int 999]) (rest := [.int x4, .int p3, .ref p0]) ⟨hx, hb, hml, hown, hts⟩ (c_X7_takeNumber l D cy z H.size Ps ws hw.1 p1 0 999 h_p1 (rl_0.to (by decide)) (rl_999.to (by decide))) (cwV 2 hts (gV tw_993 tw_478 tw_479 tw_2 tw_480) rfl rfl rfl (by decide +kernel) ⟨Nat.le_of_ble_eq_true rfl, Nat.le_of_ble_eq_true rfl⟩) (tg_preV hw hK hSD hA (ci := 7) (q := (RX7, TX7, 12)) rfl h_p1 rfl) rfl rfl hl.1 rfl (lv_room (Nat.le_of_ble_eq_true rfl)) dX5_readPlain_96 ⟨Nat.le_of_ble_eq_true rfl, Nat.le_of_ble_eq_true rfl⟩) hw hA ⟨by decide, by decide⟩ (fun v_2 ws H locs hp_v_2 hw hF9 => ?_)
    have r_v_2 : RI v_2 (-2147483648) 2147483647 := hp_v_2.1
    refine tk_v (va_runV (As := [.int p3, .int x4, .int v_2]) (rest := []) ⟨hx, hb, hml, hown, hts⟩ (c_X5_addStep l D cy z H.size Ps ws hw.1 p0 p3 x4 v_2 h_p0 (r_p3.to (by decide)) r_x4 r_v_2) (cwV 3 hts (gV tw_983 tw_985 ts_33 tw_23 tw_986) rfl rfl rfl (by decide +kernel) ⟨Nat.le_of_ble_eq_true rfl, Nat.le_of_ble_eq_true rfl⟩) (tg_preV hw hK hSD hA (ci := 5) (q := (RX5, TX5, 5)) rfl h_p0 rfl) rfl rfl hl.1 rfl (lv_room (Nat.le_of_ble_eq_true rfl)) dX5_readPlain_99 ⟨Nat.le_of_ble_eq_true rfl, Nat.le_of_ble_eq_true rfl⟩) hw hA ⟨by decide, by decide⟩ (fun ws H locs hp_v_3 hw hF9 => ?_)
    obtain ⟨v_4, m_v_4, r_v_4⟩ := (hp_v_3.1)
    refine lv_goto (tgt := 112) hx hb dX5_readPlain_102 (by decide) ?_
    subst hQ
    exact W.vret hx hb hr (fun t ht hW => ⟨⟨ws, rfl, ⟨⟨⟨_, m_v_4, r_v_4⟩, trivial⟩, hw.1, hw.2.2.2.2.1⟩, by rw [ht]; exact hw.2.1, va_K.moved hW.alike hK, hw.2.2.1⟩, hw.2.2.2.1.F ht⟩) hw.2.2.2.1.2.2 dX5_readPlain_112
  refine lv_iload_n hx hb dX5_readPlain_0 rfl (lv_at hl 3 rfl) ?_
  refine lv_sipush (v := 150) hx hb dX5_readPlain_1 (by decide) ?_
  refine lv_icmp_ne (tgt := 22) hx hb dX5_readPlain_4 (by decide) (fun c_4 => ?_) (fun c_4 => ?_)
  · refine lv_iload_n hx hb dX5_readPlain_22 rfl (lv_at hl 3 rfl) ?_
    refine lv_sipush (v := 151) hx hb dX5_readPlain_23 (by decide) ?_
    refine lv_icmp_ne (tgt := 44) hx hb dX5_readPlain_26 (by decide) (fun c_26 => ?_) (fun c_26 => ?_)
    · refine lv_iload_n hx hb dX5_readPlain_44 rfl (lv_at hl 3 rfl) ?_
      refine lv_sipush (v := 152) hx hb dX5_readPlain_45 (by decide) ?_
      refine lv_icmp_lt (tgt := 105) hx hb dX5_readPlain_48 (by decide) (fun c_48 => ?_) (fun c_48 => ?_)
      · have r_p3 : RI p3 (-2147483648) 151 := rc_lt1 r_p3 rl_152 (ti_lt c_48) (by decide)
        refine lv_aload_n hx hb dX5_readPlain_105 rfl (lv_at hl 0 rfl) ?_
        refine lv_iload_n hx hb dX5_readPlain_106 rfl (lv_at hl 3 rfl) ?_
        refine lv_iconst (v := 0) hx hb dX5_readPlain_107 (by decide) ?_
        refine lv_iconst (v := 0) hx hb dX5_readPlain_108 (by decide) ?_
        refine tk_v (va_runV (As := [.int p3, .int 0, .int 0]) (rest := []) ⟨hx, hb, hml, hown, hts⟩ (c_X5_addStep l D cy z s.heap.size Ps w0 hw.1 p0 p3 0 0 h_p0 (r_p3.to (by decide)) (rl_0.to (by decide)) (rl_0.to (by decide))) (cwV 3 hts (gV tw_983 tw_985 ts_33 tw_23 tw_986) rfl rfl rfl (by decide +kernel) ⟨Nat.le_of_ble_eq_true rfl, Nat.le_of_ble_eq_true rfl⟩) (tg_preV hw hK hSD hA (ci := 5) (q := (RX5, TX5, 5)) rfl h_p0 rfl) rfl rfl hl.1 rfl (lv_room (Nat.le_of_ble_eq_true rfl)) dX5_readPlain_109 ⟨Nat.le_of_ble_eq_true rfl, Nat.le_of_ble_eq_true rfl⟩) hw hA ⟨by decide, by decide⟩ (fun ws H locs hp_v_5 hw hF9 => ?_)
        obtain ⟨v_6, m_v_6, r_v_6⟩ := (hp_v_5.1)
        subst hQ
        exact W.vret hx hb hr (fun t ht hW => ⟨⟨ws, rfl, ⟨⟨⟨_, m_v_6, r_v_6⟩, trivial⟩, hw.1, hw.2.2.2.2.1⟩, by rw [ht]; exact hw.2.1, va_K.moved hW.alike hK, hw.2.2.1⟩, hw.2.2.2.1.F ht⟩) hw.2.2.2.1.2.2 dX5_readPlain_112
      · have r_p3 : RI p3 152 2147483647 := rc_le2 rl_152 r_p3 (ti_nlt c_48) (by decide)
        refine lv_aload_n hx hb dX5_readPlain_51 rfl (lv_at hl 1 rfl) ?_
        refine tg_getN (ci := 7) (ts := ty_TAPE) (C := RX7) (T := TX7) (N := 12) hx hb hts inX7 hown hK hw h_p1 rfl rfl 7 (by decide) (hSD.nest tn_96) (fun _ h9 => h9) (ft := vI (-2147483648) 2147483647) rfl dX5_readPlain_52 (fun u_7 hv_u_7 m_u_7 => ?_)
        obtain ⟨vu_7, rfl, r_vu_7⟩ := hv_u_7
        refine lv_istore (lv' := [(4, .int vu_7), (0, .ref p0), (1, .ref p1), (2, .ref p2), (3, .int p3)]) hx hb dX5_readPlain_55 hl (by decide) rfl (fun ls hl => ?_)
        refine lv_iload hx hb dX5_readPlain_57 (lv_at hl 0 rfl) ?_
        refine lv_bipush (v := 60) hx hb dX5_readPlain_59 (by decide) ?_
        refine lv_icmp_eq (tgt := 83) hx hb dX5_readPlain_61 (by decide) (fun c_61 => ?_) (fun c_61 => ?_)
        · have r_vu_7 : RI vu_7 60 60 := rc_eq1 r_vu_7 rl_60 (ti_eq c_61) (by decide)
          exact B83 vu_7 w0 _ _ ls r_p3 (r_vu_7.to (by decide)) hw (lv_sub hl [1, 2, 3, 4, 0] rfl)
        · refine lv_iload hx hb dX5_readPlain_64 (lv_at hl 0 rfl) ?_
          refine lv_bipush (v := 61) hx hb dX5_readPlain_66 (by decide) ?_
          refine lv_icmp_eq (tgt := 83) hx hb dX5_readPlain_68 (by decide) (fun c_68 => ?_) (fun c_68 => ?_)
          · have r_vu_7 : RI vu_7 61 61 := rc_eq1 r_vu_7 rl_61 (ti_eq c_68) (by decide)
            exact B83 vu_7 w0 _ _ ls r_p3 (r_vu_7.to (by decide)) hw (lv_sub hl [1, 2, 3, 4, 0] rfl)
          · refine lv_iload hx hb dX5_readPlain_71 (lv_at hl 0 rfl) ?_
            refine lv_bipush (v := 62) hx hb dX5_readPlain_73 (by decide) ?_
            refine lv_icmp_eq (tgt := 83) hx hb dX5_readPlain_75 (by decide) (fun c_75 => ?_) (fun c_75 => ?_)
            · have r_vu_7 : RI vu_7 62 62 := rc_eq1 r_vu_7 rl_62 (ti_eq c_75) (by decide)
              exact B83 vu_7 w0 _ _ ls r_p3 (r_vu_7.to (by decide)) hw (lv_sub hl [1, 2, 3, 4, 0] rfl)
            · refine lv_aload_n hx hb dX5_readPlain_78 rfl (lv_at hl 2 rfl) ?_
              refine lv_iconst (v := 1) hx hb dX5_readPlain_79 (by decide) ?_
              refine tk_v (va_runV (As := [.int 1]) (rest := []) ⟨hx, hb, hml, hown, hts⟩ (c_X7_refuse l D cy z s.heap.size Ps w0 hw.1 p1 1 h_p1 (rl_1.to (by decide))) (cwV 1 hts (gV tw_981 tw_443 tw_444 tw_2 tw_445) rfl rfl rfl (by decide +kernel) ⟨Nat.le_of_ble_eq_true rfl, Nat.le_of_ble_eq_true rfl⟩) (tg_preV hw hK hSD hA (ci := 7) (q := (RX7, TX7, 12)) rfl h_p1 rfl) rfl rfl hl.1 rfl (lv_room (Nat.le_of_ble_eq_true rfl)) dX5_readPlain_80 ⟨Nat.le_of_ble_eq_true rfl, Nat.le_of_ble_eq_true rfl⟩) hw hA ⟨by decide, by decide⟩ (fun ws H locs hp_v_8 hw hF9 => ?_)
              have m_u_7 := FLD.over hF9 m_u_7 (by decide)
              obtain ⟨v_9, m_v_9, r_v_9⟩ := (hp_v_8.1)
              exact B83 vu_7 ws _ _ ls r_p3 r_vu_7 hw (lv_sub hl [1, 2, 3, 4, 0] rfl)
    · have r_p3 : RI p3 151 151 := rc_eq1 r_p3 rl_151 (ti_eq c_26) (by decide)
      refine lv_aload_n hx hb dX5_readPlain_29 rfl (lv_at hl 0 rfl) ?_
      refine lv_iload_n hx hb dX5_readPlain_30 rfl (lv_at hl 3 rfl) ?_
      refine lv_iconst (v := 0) hx hb dX5_readPlain_31 (by decide) ?_
      refine lv_aload_n hx hb dX5_readPlain_32 rfl (lv_at hl 1 rfl) ?_
      refine lv_aload_n hx hb dX5_readPlain_33 rfl (lv_at hl 2 rfl) ?_
      refine lv_iconst (v := 1) hx hb dX5_readPlain_34 (by decide) ?_
      refine tk_i (va_runV (As := [.ref p2, .int 1]) (rest := [.int 0, .int p3, .ref p0]) ⟨hx, hb, hml, hown, hts⟩ (c_X7_takeName__1 l D cy z s.heap.size Ps w0 hw.1 p1 p2 1 h_p1 h_p2 rl_1) (cwV 2 hts (gV tw_992 tw_465 tw_466 tw_2 tw_467) rfl rfl rfl (by decide +kernel) ⟨Nat.le_of_ble_eq_true rfl, Nat.le_of_ble_eq_true rfl⟩) (tg_preV hw hK hSD hA (ci := 7) (q := (RX7, TX7, 12)) rfl h_p1 rfl) rfl rfl hl.1 rfl (lv_room (Nat.le_of_ble_eq_true rfl)) dX5_readPlain_35 ⟨Nat.le_of_ble_eq_true rfl, Nat.le_of_ble_eq_true rfl⟩) hw hA ⟨by decide, by decide⟩ (fun v_10 ws H locs hp_v_10 hw hF9 => ?_)
      have r_v_10 : RI v_10 (-1) 3 := hp_v_10.1
      refine tk_v (va_runV (As := [.int p3, .int 0, .int v_10]) (rest := []) ⟨hx, hb, hml, hown, hts⟩ (c_X5_addStep l D cy z H.size Ps ws hw.1 p0 p3 0 v_10 h_p0 (r_p3.to (by decide)) (rl_0.to (by decide)) (r_v_10.to (by decide))) (cwV 3 hts (gV tw_983 tw_985 ts_33 tw_23 tw_986) rfl rfl rfl (by decide +kernel) ⟨Nat.le_of_ble_eq_true rfl, Nat.le_of_ble_eq_true rfl⟩) (tg_preV hw hK hSD hA (ci := 5) (q := (RX5, TX5, 5)) rfl h_p0 rfl) rfl rfl hl.1 rfl (lv_room (Nat.le_of_ble_eq_true rfl)) dX5_readPlain_38 ⟨Nat.le_of_ble_eq_true rfl, Nat.le_of_ble_eq_true rfl⟩) hw hA ⟨by decide, by decide⟩ (fun ws H locs hp_v_11 hw hF9 => ?_)
      obtain ⟨v_12, m_v_12, r_v_12⟩ := (hp_v_11.1)
      refine lv_goto (tgt := 112) hx hb dX5_readPlain_41 (by decide) ?_
      subst hQ
      exact W.vret hx hb hr (fun t ht hW => ⟨⟨ws, rfl, ⟨⟨⟨_, m_v_12, r_v_12⟩, trivial⟩, hw.1, hw.2.2.2.2.1⟩, by rw [ht]; exact hw.2.1, va_K.moved hW.alike hK, hw.2.2.1⟩, hw.2.2.2.1.F ht⟩) hw.2.2.2.1.2.2 dX5_readPlain_112
  · have r_p3 : RI p3 150 150 := rc_eq1 r_p3 rl_150 (ti_eq c_4) (by decide)
    refine lv_aload_n hx hb dX5_readPlain_7 rfl (lv_at hl 0 rfl) ?_
    refine lv_iload_n hx hb dX5_readPlain_8 rfl (lv_at hl 3 rfl) ?_
    refine lv_iconst (v := 0) hx hb dX5_readPlain_9 (by decide) ?_
    refine lv_aload_n hx hb dX5_readPlain_10 rfl (lv_at hl 1 rfl) ?_
    refine lv_aload_n hx hb dX5_readPlain_11 rfl (lv_at hl 2 rfl) ?_
    refine lv_iconst (v := 0) hx hb dX5_readPlain_12 (by decide) ?_
    refine tk_i (va_runV (As := [.ref p2, .int 0]) (rest := [.int 0, .int p3, .ref p0]) ⟨hx, hb, hml, hown, hts⟩ (c_X7_takeName l D cy z s.heap.size Ps w0 hw.1 p1 p2 0 h_p1 h_p2 rl_0) (cwV 2 hts (gV tw_992 tw_465 tw_466 tw_2 tw_467) rfl rfl rfl (by decide +kernel) ⟨Nat.le_of_ble_eq_true rfl, Nat.le_of_ble_eq_true rfl⟩) (tg_preV hw hK hSD hA (ci := 7) (q := (RX7, TX7, 12)) rfl h_p1 rfl) rfl rfl hl.1 rfl (lv_room (Nat.le_of_ble_eq_true rfl)) dX5_readPlain_13 ⟨Nat.le_of_ble_eq_true rfl, Nat.le_of_ble_eq_true rfl⟩) hw hA ⟨by decide, by decide⟩ (fun v_13 ws H locs hp_v_13 hw hF9 => ?_)
    have r_v_13 : RI v_13 (-1) 5 := hp_v_13.1
    refine tk_v (va_runV (As := [.int p3, .int 0, .int v_13]) (rest := []) ⟨hx, hb, hml, hown, hts⟩ (c_X5_addStep l D cy z H.size Ps ws hw.1 p0 p3 0 v_13 h_p0 (r_p3.to (by decide)) (rl_0.to (by decide)) (r_v_13.to (by decide))) (cwV 3 hts (gV tw_983 tw_985 ts_33 tw_23 tw_986) rfl rfl rfl (by decide +kernel) ⟨Nat.le_of_ble_eq_true rfl, Nat.le_of_ble_eq_true rfl⟩) (tg_preV hw hK hSD hA (ci := 5) (q := (RX5, TX5, 5)) rfl h_p0 rfl) rfl rfl hl.1 rfl (lv_room (Nat.le_of_ble_eq_true rfl)) dX5_readPlain_16 ⟨Nat.le_of_ble_eq_true rfl, Nat.le_of_ble_eq_true rfl⟩) hw hA ⟨by decide, by decide⟩ (fun ws H locs hp_v_14 hw hF9 => ?_)
    obtain ⟨v_15, m_v_15, r_v_15⟩ := (hp_v_14.1)
    refine lv_goto (tgt := 112) hx hb dX5_readPlain_19 (by decide) ?_
    subst hQ
    exact W.vret hx hb hr (fun t ht hW => ⟨⟨ws, rfl, ⟨⟨⟨_, m_v_15, r_v_15⟩, trivial⟩, hw.1, hw.2.2.2.2.1⟩, by rw [ht]; exact hw.2.1, va_K.moved hW.alike hK, hw.2.2.1⟩, hw.2.2.2.1.F ht⟩) hw.2.2.2.1.2.2 dX5_readPlain_112
abbrev wr_X4_isQuiet : List (Nat × Nat) := []
abbrev wa_X4_isQuiet : List Nat := []
set_option maxHeartbeats 4000000 in
set_option maxRecDepth 100000 in
theorem c_X4_isQuiet (l : Launch) (D : va_G) (cy : Nat → ClassId) (z : Nat → Nat) (sz : Nat) (Ps : PSI) (w0 : va_W) (hT : HT cy GG Ps w0) (p0 : Nat) (p1 : Nat) (p2 : Int32) (p3 : Int32) (h_p0 : (p0, 29) ∈ Ps) (h_p1 : (p1, 25) ∈ Ps) (r_p2 : RI p2 0 0) (r_p3 : RI p3 (-2147483648) 2147483647) : Met l yX4_isQuiet (Cond.code yX4_isQuiet cX4_isQuiet 6 (some .boolean) :: gT) ({ frames := 0, cells := 0, slots := 0, locals := 200 } : Room) (va_Pc [.ref p0, .ref p1, .int p2, .int p3] (PRE D cy z w0 sz)) (va_Qi (fun (r : Int32) (u : Unit) => RI r 1 1 ∧ (r = 0 → True) ∧ (¬ r = 0 → True)) (BB D cy (va_A w0 sz) (fun (u : Unit) => w0)) (va_A w0 sz)) 0 0 (va_A w0 sz) := by
  refine Met.ofW (cc := cX4_isQuiet) (maxL := 6) (ret := (some .boolean)) (by decide) rfl ?_
  intro p e s m args below meth c s₁ B hml hv
  obtain ⟨rfl, hsz, hP, hK, hD0, hSD⟩ := hv
  have hx := B.exec
  have hb := B.bytes
  have hr := B.returns
  have hlocks := B.notSynchronized
  have hts : ∀ w ∈ gT, w.before _ s = true := fun w h => atoms_spec (ws := Cond.code yX4_isQuiet cX4_isQuiet 6 (some .boolean) :: gT) B.pre w (List.mem_cons_of_mem _ h)
  have hown : s.vm.findClass RX4 = some m.cls := findClass_of_methodNamed B.named
  subst hsz
  have hD := hD0.self (sz := s.heap.size)
  generalize hAe : va_A w0 s.heap.size = A at hD hSD ⊢
  have hA : ∀ q : Nat, s.heap.size ≤ q → A q := fun q h => by rw [← hAe]; exact Or.inr h
  have hl := lv_entry ([.ref p0, .ref p1, .int p2, .int p3]) (n := 6) (Nat.le_of_ble_eq_true rfl)
  rw [lg_entry_eq]
  generalize (lg_sl ([.ref p0, .ref p1, .int p2, .int p3]) ++ List.replicate (6 - (lg_sl ([.ref p0, .ref p1, .int p2, .int p3])).length) Slot.unset).toArray = ls at hl ⊢
  have hl : lv_has ls 6 [(0, .ref p0), (1, .ref p1), (2, .int p2), (3, .int p3)] := hl
  refine nameQ (fun Q hQ => ?_)
  have hw : WD D cy GG A s wr_X4_isQuiet wa_X4_isQuiet Ps w0 Ps w0 s.heap [] := ⟨hT, hP, hD, va_S.rf, FR.rf, hT.1, [], (List.append_nil _).symm⟩
  have B3 : ∀ (nf : Nat) (x4 : Int32) (H : Heap) (locs : List Loc) (ls : Array Slot), 0 - x4.toInt < (nf : Int) → RI p2 0 0 → RI p3 (-2147483648) 2147483647 → RI x4 0 0 → WD D cy GG A s wr_X4_isQuiet wa_X4_isQuiet Ps w0 Ps w0 H locs → lv_has ls 6 [(0, .ref p0), (1, .ref p1), (2, .int p2), (3, .int p3), (4, .int x4)] → W p l e (headSpec (Cond.code yX4_isQuiet cX4_isQuiet 6 (some .boolean) :: gT) ({ frames := 0, cells := 0, slots := 0, locals := 200 } : Room)).room s m ([.ref p0, .ref p1, .int p2, .int p3] : List Value).toArray below meth c H locs 0 0 Q (F0 m 3 ls []) := by
    intro nf3
    induction nf3 with
    | zero =>
      intro x4 H locs ls hn3 r_p2 r_p3 r_x4 hw hl
      exact absurd hn3 (by have q0 := r_x4.1; have u0 := r_x4.2; omega)
    | succ nf3 ih3 =>
      intro x4 H locs ls hn3 r_p2 r_p3 r_x4 hw hl
      refine lv_iload hx hb dX4_isQuiet_3 (lv_at hl 4 rfl) ?_
      refine lv_iload_n hx hb dX4_isQuiet_5 rfl (lv_at hl 2 rfl) ?_
      refine lv_icmp_ge (tgt := 81) hx hb dX4_isQuiet_6 (by decide) (fun c_6 => ?_) (fun c_6 => ?_)
      · refine lv_iconst (v := 1) hx hb dX4_isQuiet_81 (by decide) ?_
        subst hQ
        exact W.zret (v := 1) hx hb hr (rfl) (fun t ht hW => ⟨⟨1, (), rfl, ⟨rl_1.to (by decide), (fun _ => trivial), (fun h0 => trivial)⟩, by rw [ht]; exact hw.2.1, va_K.moved hW.alike hK, hw.2.2.1⟩, hw.2.2.2.1.F ht⟩) hw.2.2.2.1.2.2 dX4_isQuiet_82
      · have r_x4 : RI x4 0 (-1) := rc_lt1 r_x4 r_p2 (ti_nle c_6) (by decide)
        have r_p2 : RI p2 1 0 := rc_lt2 r_x4 r_p2 (ti_nle c_6) (by decide)
        exact (r_x4.no (by decide)).elim
  refine lv_iconst (v := 0) hx hb dX4_isQuiet_0 (by decide) ?_
  refine lv_istore (lv' := [(4, .int 0), (0, .ref p0), (1, .ref p1), (2, .int p2), (3, .int p3)]) hx hb dX4_isQuiet_1 hl (by decide) rfl (fun ls hl => ?_)
  exact B3 4294967298 0 _ _ ls (by have q0 := rl_0.1; have u0 := rl_0.2; omega) r_p2 r_p3 rl_0 hw (lv_sub hl [1, 2, 3, 4, 0] rfl)
abbrev wr_X4_isQuiet__1 : List (Nat × Nat) := []
abbrev wa_X4_isQuiet__1 : List Nat := []
set_option maxHeartbeats 4000000 in
set_option maxRecDepth 100000 in
theorem c_X4_isQuiet__1 (l : Launch) (D : va_G) (cy : Nat → ClassId) (z : Nat → Nat) (sz : Nat) (Ps : PSI) (w0 : va_W) (hT : HT cy GG Ps w0) (p0 : Nat) (p1 : Nat) (p2 : Int32) (p3 : Int32) (h_p0 : (p0, 29) ∈ Ps) (h_p1 : (p1, 25) ∈ Ps) (r_p2 : RI p2 1 1) (r_p3 : RI p3 (-2147483648) 2147483647) : Met l yX4_isQuiet (Cond.code yX4_isQuiet cX4_isQuiet 6 (some .boolean) :: gT) ({ frames := 2, cells := 0, slots := 0, locals := 400 } : Room) (va_Pc [.ref p0, .ref p1, .int p2, .int p3] (PRE D cy z w0 sz)) (va_Qi (fun (r : Int32) (u : Unit) => RI r 0 1 ∧ (r = 0 → True) ∧ (¬ r = 0 → True)) (BB D cy (va_A w0 sz) (fun (u : Unit) => w0)) (va_A w0 sz)) 0 0 (va_A w0 sz) := by
  refine Met.ofW (cc := cX4_isQuiet) (maxL := 6) (ret := (some .boolean)) (by decide) rfl ?_
  intro p e s m args below meth c s₁ B hml hv
  obtain ⟨rfl, hsz, hP, hK, hD0, hSD⟩ := hv
  have hx := B.exec
  have hb := B.bytes
  have hr := B.returns
  have hlocks := B.notSynchronized
  have hts : ∀ w ∈ gT, w.before _ s = true := fun w h => atoms_spec (ws := Cond.code yX4_isQuiet cX4_isQuiet 6 (some .boolean) :: gT) B.pre w (List.mem_cons_of_mem _ h)
  have hown : s.vm.findClass RX4 = some m.cls := findClass_of_methodNamed B.named
  subst hsz
  have hD := hD0.self (sz := s.heap.size)
  generalize hAe : va_A w0 s.heap.size = A at hD hSD ⊢
  have hA : ∀ q : Nat, s.heap.size ≤ q → A q := fun q h => by rw [← hAe]; exact Or.inr h
  have hl := lv_entry ([.ref p0, .ref p1, .int p2, .int p3]) (n := 6) (Nat.le_of_ble_eq_true rfl)
  rw [lg_entry_eq]
  generalize (lg_sl ([.ref p0, .ref p1, .int p2, .int p3]) ++ List.replicate (6 - (lg_sl ([.ref p0, .ref p1, .int p2, .int p3])).length) Slot.unset).toArray = ls at hl ⊢
  have hl : lv_has ls 6 [(0, .ref p0), (1, .ref p1), (2, .int p2), (3, .int p3)] := hl
  refine nameQ (fun Q hQ => ?_)
  have hw : WD D cy GG A s wr_X4_isQuiet__1 wa_X4_isQuiet__1 Ps w0 Ps w0 s.heap [] := ⟨hT, hP, hD, va_S.rf, FR.rf, hT.1, [], (List.append_nil _).symm⟩
  have B3 : ∀ (nf : Nat) (x4 : Int32) (H : Heap) (locs : List Loc) (ls : Array Slot), 1 - x4.toInt < (nf : Int) → RI p2 1 1 → RI p3 (-2147483648) 2147483647 → RI x4 0 1 → WD D cy GG A s wr_X4_isQuiet__1 wa_X4_isQuiet__1 Ps w0 Ps w0 H locs → lv_has ls 6 [(0, .ref p0), (1, .ref p1), (2, .int p2), (3, .int p3), (4, .int x4)] → W p l e (headSpec (Cond.code yX4_isQuiet cX4_isQuiet 6 (some .boolean) :: gT) ({ frames := 2, cells := 0, slots := 0, locals := 400 } : Room)).room s m ([.ref p0, .ref p1, .int p2, .int p3] : List Value).toArray below meth c H locs 0 0 Q (F0 m 3 ls []) := by
    intro nf3
    induction nf3 with
    | zero =>
      intro x4 H locs ls hn3 r_p2 r_p3 r_x4 hw hl
      exact absurd hn3 (by have q0 := r_x4.1; have u0 := r_x4.2; omega)
    | succ nf3 ih3 =>
      intro x4 H locs ls hn3 r_p2 r_p3 r_x4 hw hl
      refine lv_iload hx hb dX4_isQuiet_3 (lv_at hl 4 rfl) ?_
      refine lv_iload_n hx hb dX4_isQuiet_5 rfl (lv_at hl 2 rfl) ?_
      refine lv_icmp_ge (tgt := 81) hx hb dX4_isQuiet_6 (by decide) (fun c_6 => ?_) (fun c_6 => ?_)
      · have r_x4 : RI x4 1 1 := rc_le2 r_p2 r_x4 (ti_le c_6) (by decide)
        refine lv_iconst (v := 1) hx hb dX4_isQuiet_81 (by decide) ?_
        subst hQ
        exact W.zret (v := 1) hx hb hr (rfl) (fun t ht hW => ⟨⟨1, (), rfl, ⟨rl_1.to (by decide), (fun _ => trivial), (fun h0 => trivial)⟩, by rw [ht]; exact hw.2.1, va_K.moved hW.alike hK, hw.2.2.1⟩, hw.2.2.2.1.F ht⟩) hw.2.2.2.1.2.2 dX4_isQuiet_82
      · have r_x4 : RI x4 0 0 := rc_lt1 r_x4 r_p2 (ti_nle c_6) (by decide)
        refine lv_aload_n hx hb dX4_isQuiet_9 rfl (lv_at hl 0 rfl) ?_
        refine tg_get (ci := 4) (ts := ty_ROOMS) (C := RX4) (T := TX4) (N := 2) hx hb hts inX4 hown hK hw h_p0 rfl rfl 0 (by decide) (hts _ tw_169) (fun _ h9 => h9) (ft := vR 16) rfl dX4_isQuiet_10 (fun u_1 hv_u_1 m_u_1 => ?_)
        obtain ⟨vu_1, rfl, h_vu_1⟩ := hv_u_1
        refine lv_iload hx hb dX4_isQuiet_13 (lv_at hl 4 rfl) ?_
        refine tg_iald (lo := (-1)) (hi := 5) hx hb hK hw h_vu_1 rfl 0 0 r_x4 (by decide) (by exact fun _ _ _ => ⟨Int.le_refl _, Int.le_refl _⟩) dX4_isQuiet_15 (fun v_2 r_v_2 m_v_2 o_v_2 => ?_)
        refine lv_iconst (v := (-1)) hx hb dX4_isQuiet_16 (by decide) ?_
        refine lv_icmp_eq (tgt := 34) hx hb dX4_isQuiet_17 (by decide) (fun c_17 => ?_) (fun c_17 => ?_)
        · have r_v_2 : RI v_2 (-1) (-1) := rc_eq1 r_v_2 rl_m1 (ti_eq c_17) (by decide)
          refine lv_iconst (v := 0) hx hb dX4_isQuiet_34 (by decide) ?_
          refine lv_istore (lv' := [(5, .int 0), (0, .ref p0), (1, .ref p1), (2, .int p2), (3, .int p3), (4, .int x4)]) hx hb dX4_isQuiet_35 hl (by decide) rfl (fun ls hl => ?_)
          refine lv_aload_n hx hb dX4_isQuiet_37 rfl (lv_at hl 1 rfl) ?_
          refine tg_get (ci := 4) (ts := ty_ROOMS) (C := RX4) (T := TX4) (N := 2) hx hb hts inX4 hown hK hw h_p0 rfl rfl 1 (by decide) (hts _ tw_170) (fun _ h9 => h9) (ft := vR 17) rfl dX4_isQuiet_38 (fun u_3 hv_u_3 m_u_3 => ?_)
          obtain ⟨vu_3, rfl, h_vu_3⟩ := hv_u_3
          refine lv_iload hx hb dX4_isQuiet_41 (lv_at hl 5 rfl) ?_
          refine tg_iald (lo := (-2147483648)) (hi := 2147483647) hx hb hK hw h_vu_3 rfl 0 0 r_x4 (by decide) (by exact fun _ _ _ => ⟨Int.le_refl _, Int.le_refl _⟩) dX4_isQuiet_43 (fun v_4 r_v_4 m_v_4 o_v_4 => ?_)
          refine lv_iload_n hx hb dX4_isQuiet_44 rfl (lv_at hl 4 rfl) ?_
          refine lv_icmp_ne (tgt := 75) hx hb dX4_isQuiet_45 (by decide) (fun c_45 => ?_) (fun c_45 => ?_)
          · obtain ⟨v_5, e_v_5⟩ : ∃ q9 : Int32, q9 = x4 + Int32.ofInt 1 := ⟨_, rfl⟩
            obtain ⟨t_v_5, r_v_5⟩ := tq_add (lo := 1) (hi := 1) r_x4 (show RI (Int32.ofInt 1) 1 1 by unfold RI; decide +kernel) (by decide +kernel) e_v_5
            have t_v_5 : v_5.toInt = x4.toInt + 1 := t_v_5
            refine lv_iinc (v := v_5) (lv' := [(4, .int v_5), (5, .int 0), (0, .ref p0), (1, .ref p1), (2, .int p2), (3, .int p3)]) hx hb dX4_isQuiet_75 hl (k := 5) rfl e_v_5.symm (by decide) rfl (fun ls hl => ?_)
            refine lv_goto (tgt := 3) hx hb dX4_isQuiet_78 (by decide) ?_
            exact ih3 v_5 _ _ ls (by have q0 := r_v_5.1; have u0 := r_v_5.2; have o0 := r_x4.1; have p0 := r_x4.2; omega) r_p2 r_p3 (r_v_5.to (by decide)) hw (lv_sub hl [2, 3, 4, 5, 0] rfl)
          · refine lv_iload hx hb dX4_isQuiet_48 (lv_at hl 0 rfl) ?_
            refine lv_if_eq (tgt := 75) hx hb dX4_isQuiet_50 (by decide) (fun _ => ?_) (fun c9 => absurd (by decide) c9)
            obtain ⟨v_6, e_v_6⟩ : ∃ q9 : Int32, q9 = x4 + Int32.ofInt 1 := ⟨_, rfl⟩
            obtain ⟨t_v_6, r_v_6⟩ := tq_add (lo := 1) (hi := 1) r_x4 (show RI (Int32.ofInt 1) 1 1 by unfold RI; decide +kernel) (by decide +kernel) e_v_6
            have t_v_6 : v_6.toInt = x4.toInt + 1 := t_v_6
            refine lv_iinc (v := v_6) (lv' := [(4, .int v_6), (5, .int 0), (0, .ref p0), (1, .ref p1), (2, .int p2), (3, .int p3)]) hx hb dX4_isQuiet_75 hl (k := 5) rfl e_v_6.symm (by decide) rfl (fun ls hl => ?_)
            refine lv_goto (tgt := 3) hx hb dX4_isQuiet_78 (by decide) ?_
            exact ih3 v_6 _ _ ls (by have q0 := r_v_6.1; have u0 := r_v_6.2; have o0 := r_x4.1; have p0 := r_x4.2; omega) r_p2 r_p3 (r_v_6.to (by decide)) hw (lv_sub hl [2, 3, 4, 5, 0] rfl)
        · have r_v_2 : RI v_2 0 5 := rc_neL r_v_2 rl_m1 (ti_ne c_17) (by decide)
          refine lv_aload_n hx hb dX4_isQuiet_20 rfl (lv_at hl 0 rfl) ?_
          refine tg_mem (ci := 4) (C := RX4) (T := TX4) (N := 2) hx hb hts inX4 hown hK hw 0 m_u_1 rfl (by decide) (hts _ tw_169) (fun _ h9 => h9) dX4_isQuiet_21 ?_
          refine lv_iload_n hx hb dX4_isQuiet_24 rfl (lv_at hl 2 rfl) ?_
          refine tg_iald (lo := (-1)) (hi := 5) hx hb hK hw h_vu_1 rfl 1 1 r_p2 (by decide) (by exact fun _ _ _ => ⟨Int.le_refl _, Int.le_refl _⟩) dX4_isQuiet_25 (fun v_7 r_v_7 m_v_7 o_v_7 => ?_)
          refine lv_iconst (v := (-1)) hx hb dX4_isQuiet_26 (by decide) ?_
          refine lv_icmp_eq (tgt := 34) hx hb dX4_isQuiet_27 (by decide) (fun c_27 => ?_) (fun c_27 => ?_)
          · have r_v_7 : RI v_7 (-1) (-1) := rc_eq1 r_v_7 rl_m1 (ti_eq c_27) (by decide)
            refine lv_iconst (v := 0) hx hb dX4_isQuiet_34 (by decide) ?_
            refine lv_istore (lv' := [(5, .int 0), (0, .ref p0), (1, .ref p1), (2, .int p2), (3, .int p3), (4, .int x4)]) hx hb dX4_isQuiet_35 hl (by decide) rfl (fun ls hl => ?_)
            refine lv_aload_n hx hb dX4_isQuiet_37 rfl (lv_at hl 1 rfl) ?_
            refine tg_get (ci := 4) (ts := ty_ROOMS) (C := RX4) (T := TX4) (N := 2) hx hb hts inX4 hown hK hw h_p0 rfl rfl 1 (by decide) (hts _ tw_170) (fun _ h9 => h9) (ft := vR 17) rfl dX4_isQuiet_38 (fun u_8 hv_u_8 m_u_8 => ?_)
            obtain ⟨vu_8, rfl, h_vu_8⟩ := hv_u_8
            refine lv_iload hx hb dX4_isQuiet_41 (lv_at hl 5 rfl) ?_
            refine tg_iald (lo := (-2147483648)) (hi := 2147483647) hx hb hK hw h_vu_8 rfl 0 0 r_x4 (by decide) (by exact fun _ _ _ => ⟨Int.le_refl _, Int.le_refl _⟩) dX4_isQuiet_43 (fun v_9 r_v_9 m_v_9 o_v_9 => ?_)
            refine lv_iload_n hx hb dX4_isQuiet_44 rfl (lv_at hl 4 rfl) ?_
            refine lv_icmp_ne (tgt := 75) hx hb dX4_isQuiet_45 (by decide) (fun c_45 => ?_) (fun c_45 => ?_)
            · obtain ⟨v_10, e_v_10⟩ : ∃ q9 : Int32, q9 = x4 + Int32.ofInt 1 := ⟨_, rfl⟩
              obtain ⟨t_v_10, r_v_10⟩ := tq_add (lo := 1) (hi := 1) r_x4 (show RI (Int32.ofInt 1) 1 1 by unfold RI; decide +kernel) (by decide +kernel) e_v_10
              have t_v_10 : v_10.toInt = x4.toInt + 1 := t_v_10
              refine lv_iinc (v := v_10) (lv' := [(4, .int v_10), (5, .int 0), (0, .ref p0), (1, .ref p1), (2, .int p2), (3, .int p3)]) hx hb dX4_isQuiet_75 hl (k := 5) rfl e_v_10.symm (by decide) rfl (fun ls hl => ?_)
              refine lv_goto (tgt := 3) hx hb dX4_isQuiet_78 (by decide) ?_
              exact ih3 v_10 _ _ ls (by have q0 := r_v_10.1; have u0 := r_v_10.2; have o0 := r_x4.1; have p0 := r_x4.2; omega) r_p2 r_p3 (r_v_10.to (by decide)) hw (lv_sub hl [2, 3, 4, 5, 0] rfl)
            · refine lv_iload hx hb dX4_isQuiet_48 (lv_at hl 0 rfl) ?_
              refine lv_if_eq (tgt := 75) hx hb dX4_isQuiet_50 (by decide) (fun _ => ?_) (fun c9 => absurd (by decide) c9)
              obtain ⟨v_11, e_v_11⟩ : ∃ q9 : Int32, q9 = x4 + Int32.ofInt 1 := ⟨_, rfl⟩
              obtain ⟨t_v_11, r_v_11⟩ := tq_add (lo := 1) (hi := 1) r_x4 (show RI (Int32.ofInt 1) 1 1 by unfold RI; decide +kernel) (by decide +kernel) e_v_11
              have t_v_11 : v_11.toInt = x4.toInt + 1 := t_v_11
              refine lv_iinc (v := v_11) (lv' := [(4, .int v_11), (5, .int 0), (0, .ref p0), (1, .ref p1), (2, .int p2), (3, .int p3)]) hx hb dX4_isQuiet_75 hl (k := 5) rfl e_v_11.symm (by decide) rfl (fun ls hl => ?_)
              refine lv_goto (tgt := 3) hx hb dX4_isQuiet_78 (by decide) ?_
              exact ih3 v_11 _ _ ls (by have q0 := r_v_11.1; have u0 := r_v_11.2; have o0 := r_x4.1; have p0 := r_x4.2; omega) r_p2 r_p3 (r_v_11.to (by decide)) hw (lv_sub hl [2, 3, 4, 5, 0] rfl)
          · have r_v_7 : RI v_7 0 5 := rc_neL r_v_7 rl_m1 (ti_ne c_27) (by decide)
            refine lv_iconst (v := 1) hx hb dX4_isQuiet_30 (by decide) ?_
            refine lv_goto (tgt := 35) hx hb dX4_isQuiet_31 (by decide) ?_
            refine lv_istore (lv' := [(5, .int 1), (0, .ref p0), (1, .ref p1), (2, .int p2), (3, .int p3), (4, .int x4)]) hx hb dX4_isQuiet_35 hl (by decide) rfl (fun ls hl => ?_)
            refine lv_aload_n hx hb dX4_isQuiet_37 rfl (lv_at hl 1 rfl) ?_
            refine tg_get (ci := 4) (ts := ty_ROOMS) (C := RX4) (T := TX4) (N := 2) hx hb hts inX4 hown hK hw h_p0 rfl rfl 1 (by decide) (hts _ tw_170) (fun _ h9 => h9) (ft := vR 17) rfl dX4_isQuiet_38 (fun u_12 hv_u_12 m_u_12 => ?_)
            obtain ⟨vu_12, rfl, h_vu_12⟩ := hv_u_12
            refine lv_iload hx hb dX4_isQuiet_41 (lv_at hl 5 rfl) ?_
            refine tg_iald (lo := (-2147483648)) (hi := 2147483647) hx hb hK hw h_vu_12 rfl 0 0 r_x4 (by decide) (by exact fun _ _ _ => ⟨Int.le_refl _, Int.le_refl _⟩) dX4_isQuiet_43 (fun v_13 r_v_13 m_v_13 o_v_13 => ?_)
            refine lv_iload_n hx hb dX4_isQuiet_44 rfl (lv_at hl 4 rfl) ?_
            refine lv_icmp_ne (tgt := 75) hx hb dX4_isQuiet_45 (by decide) (fun c_45 => ?_) (fun c_45 => ?_)
            · obtain ⟨v_14, e_v_14⟩ : ∃ q9 : Int32, q9 = x4 + Int32.ofInt 1 := ⟨_, rfl⟩
              obtain ⟨t_v_14, r_v_14⟩ := tq_add (lo := 1) (hi := 1) r_x4 (show RI (Int32.ofInt 1) 1 1 by unfold RI; decide +kernel) (by decide +kernel) e_v_14
              have t_v_14 : v_14.toInt = x4.toInt + 1 := t_v_14
              refine lv_iinc (v := v_14) (lv' := [(4, .int v_14), (5, .int 1), (0, .ref p0), (1, .ref p1), (2, .int p2), (3, .int p3)]) hx hb dX4_isQuiet_75 hl (k := 5) rfl e_v_14.symm (by decide) rfl (fun ls hl => ?_)
              refine lv_goto (tgt := 3) hx hb dX4_isQuiet_78 (by decide) ?_
              exact ih3 v_14 _ _ ls (by have q0 := r_v_14.1; have u0 := r_v_14.2; have o0 := r_x4.1; have p0 := r_x4.2; omega) r_p2 r_p3 (r_v_14.to (by decide)) hw (lv_sub hl [2, 3, 4, 5, 0] rfl)
            · refine lv_iload hx hb dX4_isQuiet_48 (lv_at hl 0 rfl) ?_
              refine lv_if_eq (tgt := 75) hx hb dX4_isQuiet_50 (by decide) (fun c9 => absurd c9 (by decide)) (fun _ => ?_)
              refine lv_aload_n hx hb dX4_isQuiet_53 rfl (lv_at hl 2 rfl) ?_
              refine lv_aload_n hx hb dX4_isQuiet_54 rfl (lv_at hl 1 rfl) ?_
              refine tg_mem (ci := 4) (C := RX4) (T := TX4) (N := 2) hx hb hts inX4 hown hK hw 0 m_u_1 rfl (by decide) (hts _ tw_169) (fun _ h9 => h9) dX4_isQuiet_55 ?_
              refine lv_iload hx hb dX4_isQuiet_58 (lv_at hl 5 rfl) ?_
              refine tg_imem hx hb hK hw h_vu_1 rfl r_x4 (by decide) m_v_2 dX4_isQuiet_60 ?_
              refine lv_aload_n hx hb dX4_isQuiet_61 rfl (lv_at hl 1 rfl) ?_
              refine tg_mem (ci := 4) (C := RX4) (T := TX4) (N := 2) hx hb hts inX4 hown hK hw 0 m_u_1 rfl (by decide) (hts _ tw_169) (fun _ h9 => h9) dX4_isQuiet_62 ?_
              refine lv_iload_n hx hb dX4_isQuiet_65 rfl (lv_at hl 3 rfl) ?_
              refine tg_imem hx hb hK hw h_vu_1 rfl r_p2 (by decide) m_v_7 dX4_isQuiet_66 ?_
              refine tk_ir (va_runVN (As := [.int v_2, .int v_7]) (rest := []) ⟨hx, hb, hml, hown, hts⟩ (c_X3_quarrel l D cy z H.size Ps w0 hw.1 p1 v_2 v_7 h_p1 r_v_2 (r_v_7.to (by decide))) ⟨va_cnB 2 hts (gC tw_498) rfl rfl rfl (va_Nw.of rfl (hSD.nest (args := #[]) tn_802)) (hts _ tw_11) (by decide +kernel) ⟨Nat.le_of_ble_eq_true rfl, Nat.le_of_ble_eq_true rfl⟩, hts _ tw_497, hts _ ts_5⟩ (tg_preV hw hK hSD hA (ci := 3) (q := (RX3, TX3, 9)) rfl h_p1 rfl) rfl rfl hl.1 rfl (lv_room (Nat.le_of_ble_eq_true rfl)) dX4_isQuiet_67 ⟨Nat.le_of_ble_eq_true rfl, Nat.le_of_ble_eq_true rfl⟩) hw hA (fun v_17  H locs hp_v_17 hw => ?_)
              have r_v_17 : RI v_17 0 1 := hp_v_17.1
              refine lv_if_eq (tgt := 75) hx hb dX4_isQuiet_70 (by decide) (fun c_70 => ?_) (fun c_70 => ?_)
              · have r_v_17 : RI v_17 0 0 := rc_eq1 r_v_17 rl_0 (ti_eq c_70) (by decide)
                obtain ⟨v_18, e_v_18⟩ : ∃ q9 : Int32, q9 = x4 + Int32.ofInt 1 := ⟨_, rfl⟩
                obtain ⟨t_v_18, r_v_18⟩ := tq_add (lo := 1) (hi := 1) r_x4 (show RI (Int32.ofInt 1) 1 1 by unfold RI; decide +kernel) (by decide +kernel) e_v_18
                have t_v_18 : v_18.toInt = x4.toInt + 1 := t_v_18
                refine lv_iinc (v := v_18) (lv' := [(4, .int v_18), (5, .int 1), (0, .ref p0), (1, .ref p1), (2, .int p2), (3, .int p3)]) hx hb dX4_isQuiet_75 hl (k := 5) rfl e_v_18.symm (by decide) rfl (fun ls hl => ?_)
                refine lv_goto (tgt := 3) hx hb dX4_isQuiet_78 (by decide) ?_
                exact ih3 v_18 _ _ ls (by have q0 := r_v_18.1; have u0 := r_v_18.2; have o0 := r_x4.1; have p0 := r_x4.2; omega) r_p2 r_p3 (r_v_18.to (by decide)) hw (lv_sub hl [2, 3, 4, 5, 0] rfl)
              · have r_v_17 : RI v_17 1 1 := rc_neL r_v_17 rl_0 (ti_ne c_70) (by decide)
                refine lv_iconst (v := 0) hx hb dX4_isQuiet_73 (by decide) ?_
                subst hQ
                exact W.zret (v := 0) hx hb hr (rfl) (fun t ht hW => ⟨⟨0, (), rfl, ⟨rl_0.to (by decide), (fun h0 => trivial), (fun _ => trivial)⟩, by rw [ht]; exact hw.2.1, va_K.moved hW.alike hK, hw.2.2.1⟩, hw.2.2.2.1.F ht⟩) hw.2.2.2.1.2.2 dX4_isQuiet_74
  refine lv_iconst (v := 0) hx hb dX4_isQuiet_0 (by decide) ?_
  refine lv_istore (lv' := [(4, .int 0), (0, .ref p0), (1, .ref p1), (2, .int p2), (3, .int p3)]) hx hb dX4_isQuiet_1 hl (by decide) rfl (fun ls hl => ?_)
  exact B3 4294967298 0 _ _ ls (by have q0 := rl_0.1; have u0 := rl_0.2; omega) r_p2 r_p3 (rl_0.to (by decide)) hw (lv_sub hl [1, 2, 3, 4, 0] rfl)
abbrev wr_X4_isQuiet__2 : List (Nat × Nat) := []
abbrev wa_X4_isQuiet__2 : List Nat := []
set_option maxHeartbeats 4000000 in
set_option maxRecDepth 100000 in
theorem c_X4_isQuiet__2 (l : Launch) (D : va_G) (cy : Nat → ClassId) (z : Nat → Nat) (sz : Nat) (Ps : PSI) (w0 : va_W) (hT : HT cy GG Ps w0) (p0 : Nat) (p1 : Nat) (p2 : Int32) (p3 : Int32) (h_p0 : (p0, 29) ∈ Ps) (h_p1 : (p1, 25) ∈ Ps) (r_p2 : RI p2 2 2) (r_p3 : RI p3 (-2147483648) 2147483647) : Met l yX4_isQuiet (Cond.code yX4_isQuiet cX4_isQuiet 6 (some .boolean) :: gT) ({ frames := 2, cells := 0, slots := 0, locals := 400 } : Room) (va_Pc [.ref p0, .ref p1, .int p2, .int p3] (PRE D cy z w0 sz)) (va_Qi (fun (r : Int32) (u : Unit) => RI r 0 1 ∧ (r = 0 → True) ∧ (¬ r = 0 → True)) (BB D cy (va_A w0 sz) (fun (u : Unit) => w0)) (va_A w0 sz)) 0 0 (va_A w0 sz) := by
  refine Met.ofW (cc := cX4_isQuiet) (maxL := 6) (ret := (some .boolean)) (by decide) rfl ?_
  intro p e s m args below meth c s₁ B hml hv
  obtain ⟨rfl, hsz, hP, hK, hD0, hSD⟩ := hv
  have hx := B.exec
  have hb := B.bytes
  have hr := B.returns
  have hlocks := B.notSynchronized
  have hts : ∀ w ∈ gT, w.before _ s = true := fun w h => atoms_spec (ws := Cond.code yX4_isQuiet cX4_isQuiet 6 (some .boolean) :: gT) B.pre w (List.mem_cons_of_mem _ h)
  have hown : s.vm.findClass RX4 = some m.cls := findClass_of_methodNamed B.named
  subst hsz
  have hD := hD0.self (sz := s.heap.size)
  generalize hAe : va_A w0 s.heap.size = A at hD hSD ⊢
  have hA : ∀ q : Nat, s.heap.size ≤ q → A q := fun q h => by rw [← hAe]; exact Or.inr h
  have hl := lv_entry ([.ref p0, .ref p1, .int p2, .int p3]) (n := 6) (Nat.le_of_ble_eq_true rfl)
  rw [lg_entry_eq]
  generalize (lg_sl ([.ref p0, .ref p1, .int p2, .int p3]) ++ List.replicate (6 - (lg_sl ([.ref p0, .ref p1, .int p2, .int p3])).length) Slot.unset).toArray = ls at hl ⊢
  have hl : lv_has ls 6 [(0, .ref p0), (1, .ref p1), (2, .int p2), (3, .int p3)] := hl
  refine nameQ (fun Q hQ => ?_)
  have hw : WD D cy GG A s wr_X4_isQuiet__2 wa_X4_isQuiet__2 Ps w0 Ps w0 s.heap [] := ⟨hT, hP, hD, va_S.rf, FR.rf, hT.1, [], (List.append_nil _).symm⟩
  have B3 : ∀ (nf : Nat) (x4 : Int32) (H : Heap) (locs : List Loc) (ls : Array Slot), 2 - x4.toInt < (nf : Int) → RI p2 2 2 → RI p3 (-2147483648) 2147483647 → RI x4 0 2 → WD D cy GG A s wr_X4_isQuiet__2 wa_X4_isQuiet__2 Ps w0 Ps w0 H locs → lv_has ls 6 [(0, .ref p0), (1, .ref p1), (2, .int p2), (3, .int p3), (4, .int x4)] → W p l e (headSpec (Cond.code yX4_isQuiet cX4_isQuiet 6 (some .boolean) :: gT) ({ frames := 2, cells := 0, slots := 0, locals := 400 } : Room)).room s m ([.ref p0, .ref p1, .int p2, .int p3] : List Value).toArray below meth c H locs 0 0 Q (F0 m 3 ls []) := by
    intro nf3
    induction nf3 with
    | zero =>
      intro x4 H locs ls hn3 r_p2 r_p3 r_x4 hw hl
      exact absurd hn3 (by have q0 := r_x4.1; have u0 := r_x4.2; omega)
    | succ nf3 ih3 =>
      intro x4 H locs ls hn3 r_p2 r_p3 r_x4 hw hl
      refine lv_iload hx hb dX4_isQuiet_3 (lv_at hl 4 rfl) ?_
      refine lv_iload_n hx hb dX4_isQuiet_5 rfl (lv_at hl 2 rfl) ?_
      refine lv_icmp_ge (tgt := 81) hx hb dX4_isQuiet_6 (by decide) (fun c_6 => ?_) (fun c_6 => ?_)
      · have r_x4 : RI x4 2 2 := rc_le2 r_p2 r_x4 (ti_le c_6) (by decide)
        refine lv_iconst (v := 1) hx hb dX4_isQuiet_81 (by decide) ?_
        subst hQ
        exact W.zret (v := 1) hx hb hr (rfl) (fun t ht hW => ⟨⟨1, (), rfl, ⟨rl_1.to (by decide), (fun _ => trivial), (fun h0 => trivial)⟩, by rw [ht]; exact hw.2.1, va_K.moved hW.alike hK, hw.2.2.1⟩, hw.2.2.2.1.F ht⟩) hw.2.2.2.1.2.2 dX4_isQuiet_82
      · have r_x4 : RI x4 0 1 := rc_lt1 r_x4 r_p2 (ti_nle c_6) (by decide)
        refine lv_aload_n hx hb dX4_isQuiet_9 rfl (lv_at hl 0 rfl) ?_
        refine tg_get (ci := 4) (ts := ty_ROOMS) (C := RX4) (T := TX4) (N := 2) hx hb hts inX4 hown hK hw h_p0 rfl rfl 0 (by decide) (hts _ tw_169) (fun _ h9 => h9) (ft := vR 16) rfl dX4_isQuiet_10 (fun u_1 hv_u_1 m_u_1 => ?_)
        obtain ⟨vu_1, rfl, h_vu_1⟩ := hv_u_1
        refine lv_iload hx hb dX4_isQuiet_13 (lv_at hl 4 rfl) ?_
        refine tg_iald (lo := (-1)) (hi := 5) hx hb hK hw h_vu_1 rfl 0 1 r_x4 (by decide) (by exact fun _ _ _ => ⟨Int.le_refl _, Int.le_refl _⟩) dX4_isQuiet_15 (fun v_2 r_v_2 m_v_2 o_v_2 => ?_)
        refine lv_iconst (v := (-1)) hx hb dX4_isQuiet_16 (by decide) ?_
        refine lv_icmp_eq (tgt := 34) hx hb dX4_isQuiet_17 (by decide) (fun c_17 => ?_) (fun c_17 => ?_)
        · have r_v_2 : RI v_2 (-1) (-1) := rc_eq1 r_v_2 rl_m1 (ti_eq c_17) (by decide)
          refine lv_iconst (v := 0) hx hb dX4_isQuiet_34 (by decide) ?_
          refine lv_istore (lv' := [(5, .int 0), (0, .ref p0), (1, .ref p1), (2, .int p2), (3, .int p3), (4, .int x4)]) hx hb dX4_isQuiet_35 hl (by decide) rfl (fun ls hl => ?_)
          refine lv_aload_n hx hb dX4_isQuiet_37 rfl (lv_at hl 1 rfl) ?_
          refine tg_get (ci := 4) (ts := ty_ROOMS) (C := RX4) (T := TX4) (N := 2) hx hb hts inX4 hown hK hw h_p0 rfl rfl 1 (by decide) (hts _ tw_170) (fun _ h9 => h9) (ft := vR 17) rfl dX4_isQuiet_38 (fun u_3 hv_u_3 m_u_3 => ?_)
          obtain ⟨vu_3, rfl, h_vu_3⟩ := hv_u_3
          refine lv_iload hx hb dX4_isQuiet_41 (lv_at hl 5 rfl) ?_
          refine tg_iald (lo := (-2147483648)) (hi := 2147483647) hx hb hK hw h_vu_3 rfl 0 1 r_x4 (by decide) (by exact fun _ _ _ => ⟨Int.le_refl _, Int.le_refl _⟩) dX4_isQuiet_43 (fun v_4 r_v_4 m_v_4 o_v_4 => ?_)
          refine lv_iload_n hx hb dX4_isQuiet_44 rfl (lv_at hl 4 rfl) ?_
          refine lv_icmp_ne (tgt := 75) hx hb dX4_isQuiet_45 (by decide) (fun c_45 => ?_) (fun c_45 => ?_)
          · obtain ⟨v_5, e_v_5⟩ : ∃ q9 : Int32, q9 = x4 + Int32.ofInt 1 := ⟨_, rfl⟩
            obtain ⟨t_v_5, r_v_5⟩ := tq_add (lo := 1) (hi := 2) r_x4 (show RI (Int32.ofInt 1) 1 1 by unfold RI; decide +kernel) (by decide +kernel) e_v_5
            have t_v_5 : v_5.toInt = x4.toInt + 1 := t_v_5
            refine lv_iinc (v := v_5) (lv' := [(4, .int v_5), (5, .int 0), (0, .ref p0), (1, .ref p1), (2, .int p2), (3, .int p3)]) hx hb dX4_isQuiet_75 hl (k := 5) rfl e_v_5.symm (by decide) rfl (fun ls hl => ?_)
            refine lv_goto (tgt := 3) hx hb dX4_isQuiet_78 (by decide) ?_
            exact ih3 v_5 _ _ ls (by have q0 := r_v_5.1; have u0 := r_v_5.2; have o0 := r_x4.1; have p0 := r_x4.2; omega) r_p2 r_p3 (r_v_5.to (by decide)) hw (lv_sub hl [2, 3, 4, 5, 0] rfl)
          · refine lv_iload hx hb dX4_isQuiet_48 (lv_at hl 0 rfl) ?_
            refine lv_if_eq (tgt := 75) hx hb dX4_isQuiet_50 (by decide) (fun _ => ?_) (fun c9 => absurd (by decide) c9)
            obtain ⟨v_6, e_v_6⟩ : ∃ q9 : Int32, q9 = x4 + Int32.ofInt 1 := ⟨_, rfl⟩
            obtain ⟨t_v_6, r_v_6⟩ := tq_add (lo := 1) (hi := 2) r_x4 (show RI (Int32.ofInt 1) 1 1 by unfold RI; decide +kernel) (by decide +kernel) e_v_6
            have t_v_6 : v_6.toInt = x4.toInt + 1 := t_v_6
            refine lv_iinc (v := v_6) (lv' := [(4, .int v_6), (5, .int 0), (0, .ref p0), (1, .ref p1), (2, .int p2), (3, .int p3)]) hx hb dX4_isQuiet_75 hl (k := 5) rfl e_v_6.symm (by decide) rfl (fun ls hl => ?_)
            refine lv_goto (tgt := 3) hx hb dX4_isQuiet_78 (by decide) ?_
            exact ih3 v_6 _ _ ls (by have q0 := r_v_6.1; have u0 := r_v_6.2; have o0 := r_x4.1; have p0 := r_x4.2; omega) r_p2 r_p3 (r_v_6.to (by decide)) hw (lv_sub hl [2, 3, 4, 5, 0] rfl)
        · have r_v_2 : RI v_2 0 5 := rc_neL r_v_2 rl_m1 (ti_ne c_17) (by decide)
          refine lv_aload_n hx hb dX4_isQuiet_20 rfl (lv_at hl 0 rfl) ?_
          refine tg_mem (ci := 4) (C := RX4) (T := TX4) (N := 2) hx hb hts inX4 hown hK hw 0 m_u_1 rfl (by decide) (hts _ tw_169) (fun _ h9 => h9) dX4_isQuiet_21 ?_
          refine lv_iload_n hx hb dX4_isQuiet_24 rfl (lv_at hl 2 rfl) ?_
          refine tg_iald (lo := (-1)) (hi := 5) hx hb hK hw h_vu_1 rfl 2 2 r_p2 (by decide) (by exact fun _ _ _ => ⟨Int.le_refl _, Int.le_refl _⟩) dX4_isQuiet_25 (fun v_7 r_v_7 m_v_7 o_v_7 => ?_)
          refine lv_iconst (v := (-1)) hx hb dX4_isQuiet_26 (by decide) ?_
          refine lv_icmp_eq (tgt := 34) hx hb dX4_isQuiet_27 (by decide) (fun c_27 => ?_) (fun c_27 => ?_)
          · have r_v_7 : RI v_7 (-1) (-1) := rc_eq1 r_v_7 rl_m1 (ti_eq c_27) (by decide)
            refine lv_iconst (v := 0) hx hb dX4_isQuiet_34 (by decide) ?_
            refine lv_istore (lv' := [(5, .int 0), (0, .ref p0), (1, .ref p1), (2, .int p2), (3, .int p3), (4, .int x4)]) hx hb dX4_isQuiet_35 hl (by decide) rfl (fun ls hl => ?_)
            refine lv_aload_n hx hb dX4_isQuiet_37 rfl (lv_at hl 1 rfl) ?_
            refine tg_get (ci := 4) (ts := ty_ROOMS) (C := RX4) (T := TX4) (N := 2) hx hb hts inX4 hown hK hw h_p0 rfl rfl 1 (by decide) (hts _ tw_170) (fun _ h9 => h9) (ft := vR 17) rfl dX4_isQuiet_38 (fun u_8 hv_u_8 m_u_8 => ?_)
            obtain ⟨vu_8, rfl, h_vu_8⟩ := hv_u_8
            refine lv_iload hx hb dX4_isQuiet_41 (lv_at hl 5 rfl) ?_
            refine tg_iald (lo := (-2147483648)) (hi := 2147483647) hx hb hK hw h_vu_8 rfl 0 1 r_x4 (by decide) (by exact fun _ _ _ => ⟨Int.le_refl _, Int.le_refl _⟩) dX4_isQuiet_43 (fun v_9 r_v_9 m_v_9 o_v_9 => ?_)
            refine lv_iload_n hx hb dX4_isQuiet_44 rfl (lv_at hl 4 rfl) ?_
            refine lv_icmp_ne (tgt := 75) hx hb dX4_isQuiet_45 (by decide) (fun c_45 => ?_) (fun c_45 => ?_)
            · obtain ⟨v_10, e_v_10⟩ : ∃ q9 : Int32, q9 = x4 + Int32.ofInt 1 := ⟨_, rfl⟩
              obtain ⟨t_v_10, r_v_10⟩ := tq_add (lo := 1) (hi := 2) r_x4 (show RI (Int32.ofInt 1) 1 1 by unfold RI; decide +kernel) (by decide +kernel) e_v_10
              have t_v_10 : v_10.toInt = x4.toInt + 1 := t_v_10
              refine lv_iinc (v := v_10) (lv' := [(4, .int v_10), (5, .int 0), (0, .ref p0), (1, .ref p1), (2, .int p2), (3, .int p3)]) hx hb dX4_isQuiet_75 hl (k := 5) rfl e_v_10.symm (by decide) rfl (fun ls hl => ?_)
              refine lv_goto (tgt := 3) hx hb dX4_isQuiet_78 (by decide) ?_
              exact ih3 v_10 _ _ ls (by have q0 := r_v_10.1; have u0 := r_v_10.2; have o0 := r_x4.1; have p0 := r_x4.2; omega) r_p2 r_p3 (r_v_10.to (by decide)) hw (lv_sub hl [2, 3, 4, 5, 0] rfl)
            · refine lv_iload hx hb dX4_isQuiet_48 (lv_at hl 0 rfl) ?_
              refine lv_if_eq (tgt := 75) hx hb dX4_isQuiet_50 (by decide) (fun _ => ?_) (fun c9 => absurd (by decide) c9)
              obtain ⟨v_11, e_v_11⟩ : ∃ q9 : Int32, q9 = x4 + Int32.ofInt 1 := ⟨_, rfl⟩
              obtain ⟨t_v_11, r_v_11⟩ := tq_add (lo := 1) (hi := 2) r_x4 (show RI (Int32.ofInt 1) 1 1 by unfold RI; decide +kernel) (by decide +kernel) e_v_11
              have t_v_11 : v_11.toInt = x4.toInt + 1 := t_v_11
              refine lv_iinc (v := v_11) (lv' := [(4, .int v_11), (5, .int 0), (0, .ref p0), (1, .ref p1), (2, .int p2), (3, .int p3)]) hx hb dX4_isQuiet_75 hl (k := 5) rfl e_v_11.symm (by decide) rfl (fun ls hl => ?_)
              refine lv_goto (tgt := 3) hx hb dX4_isQuiet_78 (by decide) ?_
              exact ih3 v_11 _ _ ls (by have q0 := r_v_11.1; have u0 := r_v_11.2; have o0 := r_x4.1; have p0 := r_x4.2; omega) r_p2 r_p3 (r_v_11.to (by decide)) hw (lv_sub hl [2, 3, 4, 5, 0] rfl)
          · have r_v_7 : RI v_7 0 5 := rc_neL r_v_7 rl_m1 (ti_ne c_27) (by decide)
            refine lv_iconst (v := 1) hx hb dX4_isQuiet_30 (by decide) ?_
            refine lv_goto (tgt := 35) hx hb dX4_isQuiet_31 (by decide) ?_
            refine lv_istore (lv' := [(5, .int 1), (0, .ref p0), (1, .ref p1), (2, .int p2), (3, .int p3), (4, .int x4)]) hx hb dX4_isQuiet_35 hl (by decide) rfl (fun ls hl => ?_)
            refine lv_aload_n hx hb dX4_isQuiet_37 rfl (lv_at hl 1 rfl) ?_
            refine tg_get (ci := 4) (ts := ty_ROOMS) (C := RX4) (T := TX4) (N := 2) hx hb hts inX4 hown hK hw h_p0 rfl rfl 1 (by decide) (hts _ tw_170) (fun _ h9 => h9) (ft := vR 17) rfl dX4_isQuiet_38 (fun u_12 hv_u_12 m_u_12 => ?_)
            obtain ⟨vu_12, rfl, h_vu_12⟩ := hv_u_12
            refine lv_iload hx hb dX4_isQuiet_41 (lv_at hl 5 rfl) ?_
            refine tg_iald (lo := (-2147483648)) (hi := 2147483647) hx hb hK hw h_vu_12 rfl 0 1 r_x4 (by decide) (by exact fun _ _ _ => ⟨Int.le_refl _, Int.le_refl _⟩) dX4_isQuiet_43 (fun v_13 r_v_13 m_v_13 o_v_13 => ?_)
            refine lv_iload_n hx hb dX4_isQuiet_44 rfl (lv_at hl 4 rfl) ?_
            refine lv_icmp_ne (tgt := 75) hx hb dX4_isQuiet_45 (by decide) (fun c_45 => ?_) (fun c_45 => ?_)
            · obtain ⟨v_14, e_v_14⟩ : ∃ q9 : Int32, q9 = x4 + Int32.ofInt 1 := ⟨_, rfl⟩
              obtain ⟨t_v_14, r_v_14⟩ := tq_add (lo := 1) (hi := 2) r_x4 (show RI (Int32.ofInt 1) 1 1 by unfold RI; decide +kernel) (by decide +kernel) e_v_14
              have t_v_14 : v_14.toInt = x4.toInt + 1 := t_v_14
              refine lv_iinc (v := v_14) (lv' := [(4, .int v_14), (5, .int 1), (0, .ref p0), (1, .ref p1), (2, .int p2), (3, .int p3)]) hx hb dX4_isQuiet_75 hl (k := 5) rfl e_v_14.symm (by decide) rfl (fun ls hl => ?_)
              refine lv_goto (tgt := 3) hx hb dX4_isQuiet_78 (by decide) ?_
              exact ih3 v_14 _ _ ls (by have q0 := r_v_14.1; have u0 := r_v_14.2; have o0 := r_x4.1; have p0 := r_x4.2; omega) r_p2 r_p3 (r_v_14.to (by decide)) hw (lv_sub hl [2, 3, 4, 5, 0] rfl)
            · refine lv_iload hx hb dX4_isQuiet_48 (lv_at hl 0 rfl) ?_
              refine lv_if_eq (tgt := 75) hx hb dX4_isQuiet_50 (by decide) (fun c9 => absurd c9 (by decide)) (fun _ => ?_)
              refine lv_aload_n hx hb dX4_isQuiet_53 rfl (lv_at hl 2 rfl) ?_
              refine lv_aload_n hx hb dX4_isQuiet_54 rfl (lv_at hl 1 rfl) ?_
              refine tg_mem (ci := 4) (C := RX4) (T := TX4) (N := 2) hx hb hts inX4 hown hK hw 0 m_u_1 rfl (by decide) (hts _ tw_169) (fun _ h9 => h9) dX4_isQuiet_55 ?_
              refine lv_iload hx hb dX4_isQuiet_58 (lv_at hl 5 rfl) ?_
              refine tg_imem hx hb hK hw h_vu_1 rfl r_x4 (by decide) m_v_2 dX4_isQuiet_60 ?_
              refine lv_aload_n hx hb dX4_isQuiet_61 rfl (lv_at hl 1 rfl) ?_
              refine tg_mem (ci := 4) (C := RX4) (T := TX4) (N := 2) hx hb hts inX4 hown hK hw 0 m_u_1 rfl (by decide) (hts _ tw_169) (fun _ h9 => h9) dX4_isQuiet_62 ?_
              refine lv_iload_n hx hb dX4_isQuiet_65 rfl (lv_at hl 3 rfl) ?_
              refine tg_imem hx hb hK hw h_vu_1 rfl r_p2 (by decide) m_v_7 dX4_isQuiet_66 ?_
              refine tk_ir (va_runVN (As := [.int v_2, .int v_7]) (rest := []) ⟨hx, hb, hml, hown, hts⟩ (c_X3_quarrel l D cy z H.size Ps w0 hw.1 p1 v_2 v_7 h_p1 r_v_2 (r_v_7.to (by decide))) ⟨va_cnB 2 hts (gC tw_498) rfl rfl rfl (va_Nw.of rfl (hSD.nest (args := #[]) tn_802)) (hts _ tw_11) (by decide +kernel) ⟨Nat.le_of_ble_eq_true rfl, Nat.le_of_ble_eq_true rfl⟩, hts _ tw_497, hts _ ts_5⟩ (tg_preV hw hK hSD hA (ci := 3) (q := (RX3, TX3, 9)) rfl h_p1 rfl) rfl rfl hl.1 rfl (lv_room (Nat.le_of_ble_eq_true rfl)) dX4_isQuiet_67 ⟨Nat.le_of_ble_eq_true rfl, Nat.le_of_ble_eq_true rfl⟩) hw hA (fun v_17  H locs hp_v_17 hw => ?_)
              have r_v_17 : RI v_17 0 1 := hp_v_17.1
              refine lv_if_eq (tgt := 75) hx hb dX4_isQuiet_70 (by decide) (fun c_70 => ?_) (fun c_70 => ?_)
              · have r_v_17 : RI v_17 0 0 := rc_eq1 r_v_17 rl_0 (ti_eq c_70) (by decide)
                obtain ⟨v_18, e_v_18⟩ : ∃ q9 : Int32, q9 = x4 + Int32.ofInt 1 := ⟨_, rfl⟩
                obtain ⟨t_v_18, r_v_18⟩ := tq_add (lo := 1) (hi := 2) r_x4 (show RI (Int32.ofInt 1) 1 1 by unfold RI; decide +kernel) (by decide +kernel) e_v_18
                have t_v_18 : v_18.toInt = x4.toInt + 1 := t_v_18
                refine lv_iinc (v := v_18) (lv' := [(4, .int v_18), (5, .int 1), (0, .ref p0), (1, .ref p1), (2, .int p2), (3, .int p3)]) hx hb dX4_isQuiet_75 hl (k := 5) rfl e_v_18.symm (by decide) rfl (fun ls hl => ?_)
                refine lv_goto (tgt := 3) hx hb dX4_isQuiet_78 (by decide) ?_
                exact ih3 v_18 _ _ ls (by have q0 := r_v_18.1; have u0 := r_v_18.2; have o0 := r_x4.1; have p0 := r_x4.2; omega) r_p2 r_p3 (r_v_18.to (by decide)) hw (lv_sub hl [2, 3, 4, 5, 0] rfl)
              · have r_v_17 : RI v_17 1 1 := rc_neL r_v_17 rl_0 (ti_ne c_70) (by decide)
                refine lv_iconst (v := 0) hx hb dX4_isQuiet_73 (by decide) ?_
                subst hQ
                exact W.zret (v := 0) hx hb hr (rfl) (fun t ht hW => ⟨⟨0, (), rfl, ⟨rl_0.to (by decide), (fun h0 => trivial), (fun _ => trivial)⟩, by rw [ht]; exact hw.2.1, va_K.moved hW.alike hK, hw.2.2.1⟩, hw.2.2.2.1.F ht⟩) hw.2.2.2.1.2.2 dX4_isQuiet_74
  refine lv_iconst (v := 0) hx hb dX4_isQuiet_0 (by decide) ?_
  refine lv_istore (lv' := [(4, .int 0), (0, .ref p0), (1, .ref p1), (2, .int p2), (3, .int p3)]) hx hb dX4_isQuiet_1 hl (by decide) rfl (fun ls hl => ?_)
  exact B3 4294967298 0 _ _ ls (by have q0 := rl_0.1; have u0 := rl_0.2; omega) r_p2 r_p3 (rl_0.to (by decide)) hw (lv_sub hl [1, 2, 3, 4, 0] rfl)
abbrev wr_X4_isQuiet__3 : List (Nat × Nat) := []
abbrev wa_X4_isQuiet__3 : List Nat := []
set_option maxHeartbeats 4000000 in
set_option maxRecDepth 100000 in
theorem c_X4_isQuiet__3 (l : Launch) (D : va_G) (cy : Nat → ClassId) (z : Nat → Nat) (sz : Nat) (Ps : PSI) (w0 : va_W) (hT : HT cy GG Ps w0) (p0 : Nat) (p1 : Nat) (p2 : Int32) (p3 : Int32) (h_p0 : (p0, 29) ∈ Ps) (h_p1 : (p1, 25) ∈ Ps) (r_p2 : RI p2 3 3) (r_p3 : RI p3 (-2147483648) 2147483647) : Met l yX4_isQuiet (Cond.code yX4_isQuiet cX4_isQuiet 6 (some .boolean) :: gT) ({ frames := 2, cells := 0, slots := 0, locals := 400 } : Room) (va_Pc [.ref p0, .ref p1, .int p2, .int p3] (PRE D cy z w0 sz)) (va_Qi (fun (r : Int32) (u : Unit) => RI r 0 1 ∧ (r = 0 → True) ∧ (¬ r = 0 → True)) (BB D cy (va_A w0 sz) (fun (u : Unit) => w0)) (va_A w0 sz)) 0 0 (va_A w0 sz) := by
  refine Met.ofW (cc := cX4_isQuiet) (maxL := 6) (ret := (some .boolean)) (by decide) rfl ?_
  intro p e s m args below meth c s₁ B hml hv
  obtain ⟨rfl, hsz, hP, hK, hD0, hSD⟩ := hv
  have hx := B.exec
  have hb := B.bytes
  have hr := B.returns
  have hlocks := B.notSynchronized
  have hts : ∀ w ∈ gT, w.before _ s = true := fun w h => atoms_spec (ws := Cond.code yX4_isQuiet cX4_isQuiet 6 (some .boolean) :: gT) B.pre w (List.mem_cons_of_mem _ h)
  have hown : s.vm.findClass RX4 = some m.cls := findClass_of_methodNamed B.named
  subst hsz
  have hD := hD0.self (sz := s.heap.size)
  generalize hAe : va_A w0 s.heap.size = A at hD hSD ⊢
  have hA : ∀ q : Nat, s.heap.size ≤ q → A q := fun q h => by rw [← hAe]; exact Or.inr h
  have hl := lv_entry ([.ref p0, .ref p1, .int p2, .int p3]) (n := 6) (Nat.le_of_ble_eq_true rfl)
  rw [lg_entry_eq]
  generalize (lg_sl ([.ref p0, .ref p1, .int p2, .int p3]) ++ List.replicate (6 - (lg_sl ([.ref p0, .ref p1, .int p2, .int p3])).length) Slot.unset).toArray = ls at hl ⊢
  have hl : lv_has ls 6 [(0, .ref p0), (1, .ref p1), (2, .int p2), (3, .int p3)] := hl
  refine nameQ (fun Q hQ => ?_)
  have hw : WD D cy GG A s wr_X4_isQuiet__3 wa_X4_isQuiet__3 Ps w0 Ps w0 s.heap [] := ⟨hT, hP, hD, va_S.rf, FR.rf, hT.1, [], (List.append_nil _).symm⟩
  have B3 : ∀ (nf : Nat) (x4 : Int32) (H : Heap) (locs : List Loc) (ls : Array Slot), 3 - x4.toInt < (nf : Int) → RI p2 3 3 → RI p3 (-2147483648) 2147483647 → RI x4 0 3 → WD D cy GG A s wr_X4_isQuiet__3 wa_X4_isQuiet__3 Ps w0 Ps w0 H locs → lv_has ls 6 [(0, .ref p0), (1, .ref p1), (2, .int p2), (3, .int p3), (4, .int x4)] → W p l e (headSpec (Cond.code yX4_isQuiet cX4_isQuiet 6 (some .boolean) :: gT) ({ frames := 2, cells := 0, slots := 0, locals := 400 } : Room)).room s m ([.ref p0, .ref p1, .int p2, .int p3] : List Value).toArray below meth c H locs 0 0 Q (F0 m 3 ls []) := by
    intro nf3
    induction nf3 with
    | zero =>
      intro x4 H locs ls hn3 r_p2 r_p3 r_x4 hw hl
      exact absurd hn3 (by have q0 := r_x4.1; have u0 := r_x4.2; omega)
    | succ nf3 ih3 =>
      intro x4 H locs ls hn3 r_p2 r_p3 r_x4 hw hl
      refine lv_iload hx hb dX4_isQuiet_3 (lv_at hl 4 rfl) ?_
      refine lv_iload_n hx hb dX4_isQuiet_5 rfl (lv_at hl 2 rfl) ?_
      refine lv_icmp_ge (tgt := 81) hx hb dX4_isQuiet_6 (by decide) (fun c_6 => ?_) (fun c_6 => ?_)
      · have r_x4 : RI x4 3 3 := rc_le2 r_p2 r_x4 (ti_le c_6) (by decide)
        refine lv_iconst (v := 1) hx hb dX4_isQuiet_81 (by decide) ?_
        subst hQ
        exact W.zret (v := 1) hx hb hr (rfl) (fun t ht hW => ⟨⟨1, (), rfl, ⟨rl_1.to (by decide), (fun _ => trivial), (fun h0 => trivial)⟩, by rw [ht]; exact hw.2.1, va_K.moved hW.alike hK, hw.2.2.1⟩, hw.2.2.2.1.F ht⟩) hw.2.2.2.1.2.2 dX4_isQuiet_82
      · have r_x4 : RI x4 0 2 := rc_lt1 r_x4 r_p2 (ti_nle c_6) (by decide)
        refine lv_aload_n hx hb dX4_isQuiet_9 rfl (lv_at hl 0 rfl) ?_
        refine tg_get (ci := 4) (ts := ty_ROOMS) (C := RX4) (T := TX4) (N := 2) hx hb hts inX4 hown hK hw h_p0 rfl rfl 0 (by decide) (hts _ tw_169) (fun _ h9 => h9) (ft := vR 16) rfl dX4_isQuiet_10 (fun u_1 hv_u_1 m_u_1 => ?_)
        obtain ⟨vu_1, rfl, h_vu_1⟩ := hv_u_1
        refine lv_iload hx hb dX4_isQuiet_13 (lv_at hl 4 rfl) ?_
        refine tg_iald (lo := (-1)) (hi := 5) hx hb hK hw h_vu_1 rfl 0 2 r_x4 (by decide) (by exact fun _ _ _ => ⟨Int.le_refl _, Int.le_refl _⟩) dX4_isQuiet_15 (fun v_2 r_v_2 m_v_2 o_v_2 => ?_)
        refine lv_iconst (v := (-1)) hx hb dX4_isQuiet_16 (by decide) ?_
        refine lv_icmp_eq (tgt := 34) hx hb dX4_isQuiet_17 (by decide) (fun c_17 => ?_) (fun c_17 => ?_)
        · have r_v_2 : RI v_2 (-1) (-1) := rc_eq1 r_v_2 rl_m1 (ti_eq c_17) (by decide)
          refine lv_iconst (v := 0) hx hb dX4_isQuiet_34 (by decide) ?_
          refine lv_istore (lv' := [(5, .int 0), (0, .ref p0), (1, .ref p1), (2, .int p2), (3, .int p3), (4, .int x4)]) hx hb dX4_isQuiet_35 hl (by decide) rfl (fun ls hl => ?_)
          refine lv_aload_n hx hb dX4_isQuiet_37 rfl (lv_at hl 1 rfl) ?_
          refine tg_get (ci := 4) (ts := ty_ROOMS) (C := RX4) (T := TX4) (N := 2) hx hb hts inX4 hown hK hw h_p0 rfl rfl 1 (by decide) (hts _ tw_170) (fun _ h9 => h9) (ft := vR 17) rfl dX4_isQuiet_38 (fun u_3 hv_u_3 m_u_3 => ?_)
          obtain ⟨vu_3, rfl, h_vu_3⟩ := hv_u_3
          refine lv_iload hx hb dX4_isQuiet_41 (lv_at hl 5 rfl) ?_
          refine tg_iald (lo := (-2147483648)) (hi := 2147483647) hx hb hK hw h_vu_3 rfl 0 2 r_x4 (by decide) (by exact fun _ _ _ => ⟨Int.le_refl _, Int.le_refl _⟩) dX4_isQuiet_43 (fun v_4 r_v_4 m_v_4 o_v_4 => ?_)
          refine lv_iload_n hx hb dX4_isQuiet_44 rfl (lv_at hl 4 rfl) ?_
          refine lv_icmp_ne (tgt := 75) hx hb dX4_isQuiet_45 (by decide) (fun c_45 => ?_) (fun c_45 => ?_)
          · obtain ⟨v_5, e_v_5⟩ : ∃ q9 : Int32, q9 = x4 + Int32.ofInt 1 := ⟨_, rfl⟩
            obtain ⟨t_v_5, r_v_5⟩ := tq_add (lo := 1) (hi := 3) r_x4 (show RI (Int32.ofInt 1) 1 1 by unfold RI; decide +kernel) (by decide +kernel) e_v_5
            have t_v_5 : v_5.toInt = x4.toInt + 1 := t_v_5
            refine lv_iinc (v := v_5) (lv' := [(4, .int v_5), (5, .int 0), (0, .ref p0), (1, .ref p1), (2, .int p2), (3, .int p3)]) hx hb dX4_isQuiet_75 hl (k := 5) rfl e_v_5.symm (by decide) rfl (fun ls hl => ?_)
            refine lv_goto (tgt := 3) hx hb dX4_isQuiet_78 (by decide) ?_
            exact ih3 v_5 _ _ ls (by have q0 := r_v_5.1; have u0 := r_v_5.2; have o0 := r_x4.1; have p0 := r_x4.2; omega) r_p2 r_p3 (r_v_5.to (by decide)) hw (lv_sub hl [2, 3, 4, 5, 0] rfl)
          · refine lv_iload hx hb dX4_isQuiet_48 (lv_at hl 0 rfl) ?_
            refine lv_if_eq (tgt := 75) hx hb dX4_isQuiet_50 (by decide) (fun _ => ?_) (fun c9 => absurd (by decide) c9)
            obtain ⟨v_6, e_v_6⟩ : ∃ q9 : Int32, q9 = x4 + Int32.ofInt 1 := ⟨_, rfl⟩
            obtain ⟨t_v_6, r_v_6⟩ := tq_add (lo := 1) (hi := 3) r_x4 (show RI (Int32.ofInt 1) 1 1 by unfold RI; decide +kernel) (by decide +kernel) e_v_6
            have t_v_6 : v_6.toInt = x4.toInt + 1 := t_v_6
            refine lv_iinc (v := v_6) (lv' := [(4, .int v_6), (5, .int 0), (0, .ref p0), (1, .ref p1), (2, .int p2), (3, .int p3)]) hx hb dX4_isQuiet_75 hl (k := 5) rfl e_v_6.symm (by decide) rfl (fun ls hl => ?_)
            refine lv_goto (tgt := 3) hx hb dX4_isQuiet_78 (by decide) ?_
            exact ih3 v_6 _ _ ls (by have q0 := r_v_6.1; have u0 := r_v_6.2; have o0 := r_x4.1; have p0 := r_x4.2; omega) r_p2 r_p3 (r_v_6.to (by decide)) hw (lv_sub hl [2, 3, 4, 5, 0] rfl)
        · have r_v_2 : RI v_2 0 5 := rc_neL r_v_2 rl_m1 (ti_ne c_17) (by decide)
          refine lv_aload_n hx hb dX4_isQuiet_20 rfl (lv_at hl 0 rfl) ?_
          refine tg_mem (ci := 4) (C := RX4) (T := TX4) (N := 2) hx hb hts inX4 hown hK hw 0 m_u_1 rfl (by decide) (hts _ tw_169) (fun _ h9 => h9) dX4_isQuiet_21 ?_
          refine lv_iload_n hx hb dX4_isQuiet_24 rfl (lv_at hl 2 rfl) ?_
          refine tg_iald (lo := (-1)) (hi := 5) hx hb hK hw h_vu_1 rfl 3 3 r_p2 (by decide) (by exact fun _ _ _ => ⟨Int.le_refl _, Int.le_refl _⟩) dX4_isQuiet_25 (fun v_7 r_v_7 m_v_7 o_v_7 => ?_)
          refine lv_iconst (v := (-1)) hx hb dX4_isQuiet_26 (by decide) ?_
          refine lv_icmp_eq (tgt := 34) hx hb dX4_isQuiet_27 (by decide) (fun c_27 => ?_) (fun c_27 => ?_)
          · have r_v_7 : RI v_7 (-1) (-1) := rc_eq1 r_v_7 rl_m1 (ti_eq c_27) (by decide)
            refine lv_iconst (v := 0) hx hb dX4_isQuiet_34 (by decide) ?_
            refine lv_istore (lv' := [(5, .int 0), (0, .ref p0), (1, .ref p1), (2, .int p2), (3, .int p3), (4, .int x4)]) hx hb dX4_isQuiet_35 hl (by decide) rfl (fun ls hl => ?_)
            refine lv_aload_n hx hb dX4_isQuiet_37 rfl (lv_at hl 1 rfl) ?_
            refine tg_get (ci := 4) (ts := ty_ROOMS) (C := RX4) (T := TX4) (N := 2) hx hb hts inX4 hown hK hw h_p0 rfl rfl 1 (by decide) (hts _ tw_170) (fun _ h9 => h9) (ft := vR 17) rfl dX4_isQuiet_38 (fun u_8 hv_u_8 m_u_8 => ?_)
            obtain ⟨vu_8, rfl, h_vu_8⟩ := hv_u_8
            refine lv_iload hx hb dX4_isQuiet_41 (lv_at hl 5 rfl) ?_
            refine tg_iald (lo := (-2147483648)) (hi := 2147483647) hx hb hK hw h_vu_8 rfl 0 2 r_x4 (by decide) (by exact fun _ _ _ => ⟨Int.le_refl _, Int.le_refl _⟩) dX4_isQuiet_43 (fun v_9 r_v_9 m_v_9 o_v_9 => ?_)
            refine lv_iload_n hx hb dX4_isQuiet_44 rfl (lv_at hl 4 rfl) ?_
            refine lv_icmp_ne (tgt := 75) hx hb dX4_isQuiet_45 (by decide) (fun c_45 => ?_) (fun c_45 => ?_)
            · obtain ⟨v_10, e_v_10⟩ : ∃ q9 : Int32, q9 = x4 + Int32.ofInt 1 := ⟨_, rfl⟩
              obtain ⟨t_v_10, r_v_10⟩ := tq_add (lo := 1) (hi := 3) r_x4 (show RI (Int32.ofInt 1) 1 1 by unfold RI; decide +kernel) (by decide +kernel) e_v_10
              have t_v_10 : v_10.toInt = x4.toInt + 1 := t_v_10
              refine lv_iinc (v := v_10) (lv' := [(4, .int v_10), (5, .int 0), (0, .ref p0), (1, .ref p1), (2, .int p2), (3, .int p3)]) hx hb dX4_isQuiet_75 hl (k := 5) rfl e_v_10.symm (by decide) rfl (fun ls hl => ?_)
              refine lv_goto (tgt := 3) hx hb dX4_isQuiet_78 (by decide) ?_
              exact ih3 v_10 _ _ ls (by have q0 := r_v_10.1; have u0 := r_v_10.2; have o0 := r_x4.1; have p0 := r_x4.2; omega) r_p2 r_p3 (r_v_10.to (by decide)) hw (lv_sub hl [2, 3, 4, 5, 0] rfl)
            · refine lv_iload hx hb dX4_isQuiet_48 (lv_at hl 0 rfl) ?_
              refine lv_if_eq (tgt := 75) hx hb dX4_isQuiet_50 (by decide) (fun _ => ?_) (fun c9 => absurd (by decide) c9)
              obtain ⟨v_11, e_v_11⟩ : ∃ q9 : Int32, q9 = x4 + Int32.ofInt 1 := ⟨_, rfl⟩
              obtain ⟨t_v_11, r_v_11⟩ := tq_add (lo := 1) (hi := 3) r_x4 (show RI (Int32.ofInt 1) 1 1 by unfold RI; decide +kernel) (by decide +kernel) e_v_11
              have t_v_11 : v_11.toInt = x4.toInt + 1 := t_v_11
              refine lv_iinc (v := v_11) (lv' := [(4, .int v_11), (5, .int 0), (0, .ref p0), (1, .ref p1), (2, .int p2), (3, .int p3)]) hx hb dX4_isQuiet_75 hl (k := 5) rfl e_v_11.symm (by decide) rfl (fun ls hl => ?_)
              refine lv_goto (tgt := 3) hx hb dX4_isQuiet_78 (by decide) ?_
              exact ih3 v_11 _ _ ls (by have q0 := r_v_11.1; have u0 := r_v_11.2; have o0 := r_x4.1; have p0 := r_x4.2; omega) r_p2 r_p3 (r_v_11.to (by decide)) hw (lv_sub hl [2, 3, 4, 5, 0] rfl)
          · have r_v_7 : RI v_7 0 5 := rc_neL r_v_7 rl_m1 (ti_ne c_27) (by decide)
            refine lv_iconst (v := 1) hx hb dX4_isQuiet_30 (by decide) ?_
            refine lv_goto (tgt := 35) hx hb dX4_isQuiet_31 (by decide) ?_
            refine lv_istore (lv' := [(5, .int 1), (0, .ref p0), (1, .ref p1), (2, .int p2), (3, .int p3), (4, .int x4)]) hx hb dX4_isQuiet_35 hl (by decide) rfl (fun ls hl => ?_)
            refine lv_aload_n hx hb dX4_isQuiet_37 rfl (lv_at hl 1 rfl) ?_
            refine tg_get (ci := 4) (ts := ty_ROOMS) (C := RX4) (T := TX4) (N := 2) hx hb hts inX4 hown hK hw h_p0 rfl rfl 1 (by decide) (hts _ tw_170) (fun _ h9 => h9) (ft := vR 17) rfl dX4_isQuiet_38 (fun u_12 hv_u_12 m_u_12 => ?_)
            obtain ⟨vu_12, rfl, h_vu_12⟩ := hv_u_12
            refine lv_iload hx hb dX4_isQuiet_41 (lv_at hl 5 rfl) ?_
            refine tg_iald (lo := (-2147483648)) (hi := 2147483647) hx hb hK hw h_vu_12 rfl 0 2 r_x4 (by decide) (by exact fun _ _ _ => ⟨Int.le_refl _, Int.le_refl _⟩) dX4_isQuiet_43 (fun v_13 r_v_13 m_v_13 o_v_13 => ?_)
            refine lv_iload_n hx hb dX4_isQuiet_44 rfl (lv_at hl 4 rfl) ?_
            refine lv_icmp_ne (tgt := 75) hx hb dX4_isQuiet_45 (by decide) (fun c_45 => ?_) (fun c_45 => ?_)
            · obtain ⟨v_14, e_v_14⟩ : ∃ q9 : Int32, q9 = x4 + Int32.ofInt 1 := ⟨_, rfl⟩
              obtain ⟨t_v_14, r_v_14⟩ := tq_add (lo := 1) (hi := 3) r_x4 (show RI (Int32.ofInt 1) 1 1 by unfold RI; decide +kernel) (by decide +kernel) e_v_14
              have t_v_14 : v_14.toInt = x4.toInt + 1 := t_v_14
              refine lv_iinc (v := v_14) (lv' := [(4, .int v_14), (5, .int 1), (0, .ref p0), (1, .ref p1), (2, .int p2), (3, .int p3)]) hx hb dX4_isQuiet_75 hl (k := 5) rfl e_v_14.symm (by decide) rfl (fun ls hl => ?_)
              refine lv_goto (tgt := 3) hx hb dX4_isQuiet_78 (by decide) ?_
              exact ih3 v_14 _ _ ls (by have q0 := r_v_14.1; have u0 := r_v_14.2; have o0 := r_x4.1; have p0 := r_x4.2; omega) r_p2 r_p3 (r_v_14.to (by decide)) hw (lv_sub hl [2, 3, 4, 5, 0] rfl)
            · refine lv_iload hx hb dX4_isQuiet_48 (lv_at hl 0 rfl) ?_
              refine lv_if_eq (tgt := 75) hx hb dX4_isQuiet_50 (by decide) (fun c9 => absurd c9 (by decide)) (fun _ => ?_)
              refine lv_aload_n hx hb dX4_isQuiet_53 rfl (lv_at hl 2 rfl) ?_
              refine lv_aload_n hx hb dX4_isQuiet_54 rfl (lv_at hl 1 rfl) ?_
              refine tg_mem (ci := 4) (C := RX4) (T := TX4) (N := 2) hx hb hts inX4 hown hK hw 0 m_u_1 rfl (by decide) (hts _ tw_169) (fun _ h9 => h9) dX4_isQuiet_55 ?_
              refine lv_iload hx hb dX4_isQuiet_58 (lv_at hl 5 rfl) ?_
              refine tg_imem hx hb hK hw h_vu_1 rfl r_x4 (by decide) m_v_2 dX4_isQuiet_60 ?_
              refine lv_aload_n hx hb dX4_isQuiet_61 rfl (lv_at hl 1 rfl) ?_
              refine tg_mem (ci := 4) (C := RX4) (T := TX4) (N := 2) hx hb hts inX4 hown hK hw 0 m_u_1 rfl (by decide) (hts _ tw_169) (fun _ h9 => h9) dX4_isQuiet_62 ?_
              refine lv_iload_n hx hb dX4_isQuiet_65 rfl (lv_at hl 3 rfl) ?_
              refine tg_imem hx hb hK hw h_vu_1 rfl r_p2 (by decide) m_v_7 dX4_isQuiet_66 ?_
              refine tk_ir (va_runVN (As := [.int v_2, .int v_7]) (rest := []) ⟨hx, hb, hml, hown, hts⟩ (c_X3_quarrel l D cy z H.size Ps w0 hw.1 p1 v_2 v_7 h_p1 r_v_2 (r_v_7.to (by decide))) ⟨va_cnB 2 hts (gC tw_498) rfl rfl rfl (va_Nw.of rfl (hSD.nest (args := #[]) tn_802)) (hts _ tw_11) (by decide +kernel) ⟨Nat.le_of_ble_eq_true rfl, Nat.le_of_ble_eq_true rfl⟩, hts _ tw_497, hts _ ts_5⟩ (tg_preV hw hK hSD hA (ci := 3) (q := (RX3, TX3, 9)) rfl h_p1 rfl) rfl rfl hl.1 rfl (lv_room (Nat.le_of_ble_eq_true rfl)) dX4_isQuiet_67 ⟨Nat.le_of_ble_eq_true rfl, Nat.le_of_ble_eq_true rfl⟩) hw hA (fun v_17  H locs hp_v_17 hw => ?_)
              have r_v_17 : RI v_17 0 1 := hp_v_17.1
              refine lv_if_eq (tgt := 75) hx hb dX4_isQuiet_70 (by decide) (fun c_70 => ?_) (fun c_70 => ?_)
              · have r_v_17 : RI v_17 0 0 := rc_eq1 r_v_17 rl_0 (ti_eq c_70) (by decide)
                obtain ⟨v_18, e_v_18⟩ : ∃ q9 : Int32, q9 = x4 + Int32.ofInt 1 := ⟨_, rfl⟩
                obtain ⟨t_v_18, r_v_18⟩ := tq_add (lo := 1) (hi := 3) r_x4 (show RI (Int32.ofInt 1) 1 1 by unfold RI; decide +kernel) (by decide +kernel) e_v_18
                have t_v_18 : v_18.toInt = x4.toInt + 1 := t_v_18
                refine lv_iinc (v := v_18) (lv' := [(4, .int v_18), (5, .int 1), (0, .ref p0), (1, .ref p1), (2, .int p2), (3, .int p3)]) hx hb dX4_isQuiet_75 hl (k := 5) rfl e_v_18.symm (by decide) rfl (fun ls hl => ?_)
                refine lv_goto (tgt := 3) hx hb dX4_isQuiet_78 (by decide) ?_
                exact ih3 v_18 _ _ ls (by have q0 := r_v_18.1; have u0 := r_v_18.2; have o0 := r_x4.1; have p0 := r_x4.2; omega) r_p2 r_p3 (r_v_18.to (by decide)) hw (lv_sub hl [2, 3, 4, 5, 0] rfl)
              · have r_v_17 : RI v_17 1 1 := rc_neL r_v_17 rl_0 (ti_ne c_70) (by decide)
                refine lv_iconst (v := 0) hx hb dX4_isQuiet_73 (by decide) ?_
                subst hQ
                exact W.zret (v := 0) hx hb hr (rfl) (fun t ht hW => ⟨⟨0, (), rfl, ⟨rl_0.to (by decide), (fun h0 => trivial), (fun _ => trivial)⟩, by rw [ht]; exact hw.2.1, va_K.moved hW.alike hK, hw.2.2.1⟩, hw.2.2.2.1.F ht⟩) hw.2.2.2.1.2.2 dX4_isQuiet_74
  refine lv_iconst (v := 0) hx hb dX4_isQuiet_0 (by decide) ?_
  refine lv_istore (lv' := [(4, .int 0), (0, .ref p0), (1, .ref p1), (2, .int p2), (3, .int p3)]) hx hb dX4_isQuiet_1 hl (by decide) rfl (fun ls hl => ?_)
  exact B3 4294967298 0 _ _ ls (by have q0 := rl_0.1; have u0 := rl_0.2; omega) r_p2 r_p3 (rl_0.to (by decide)) hw (lv_sub hl [1, 2, 3, 4, 0] rfl)
abbrev wr_X4_isQuiet__4 : List (Nat × Nat) := []
abbrev wa_X4_isQuiet__4 : List Nat := []
set_option maxHeartbeats 4000000 in
set_option maxRecDepth 100000 in
theorem c_X4_isQuiet__4 (l : Launch) (D : va_G) (cy : Nat → ClassId) (z : Nat → Nat) (sz : Nat) (Ps : PSI) (w0 : va_W) (hT : HT cy GG Ps w0) (p0 : Nat) (p1 : Nat) (p2 : Int32) (p3 : Int32) (h_p0 : (p0, 29) ∈ Ps) (h_p1 : (p1, 25) ∈ Ps) (r_p2 : RI p2 4 4) (r_p3 : RI p3 (-2147483648) 2147483647) : Met l yX4_isQuiet (Cond.code yX4_isQuiet cX4_isQuiet 6 (some .boolean) :: gT) ({ frames := 2, cells := 0, slots := 0, locals := 400 } : Room) (va_Pc [.ref p0, .ref p1, .int p2, .int p3] (PRE D cy z w0 sz)) (va_Qi (fun (r : Int32) (u : Unit) => RI r 0 1 ∧ (r = 0 → True) ∧ (¬ r = 0 → True)) (BB D cy (va_A w0 sz) (fun (u : Unit) => w0)) (va_A w0 sz)) 0 0 (va_A w0 sz) := by
  refine Met.ofW (cc := cX4_isQuiet) (maxL := 6) (ret := (some .boolean)) (by decide) rfl ?_
  intro p e s m args below meth c s₁ B hml hv
  obtain ⟨rfl, hsz, hP, hK, hD0, hSD⟩ := hv
  have hx := B.exec
  have hb := B.bytes
  have hr := B.returns
  have hlocks := B.notSynchronized
  have hts : ∀ w ∈ gT, w.before _ s = true := fun w h => atoms_spec (ws := Cond.code yX4_isQuiet cX4_isQuiet 6 (some .boolean) :: gT) B.pre w (List.mem_cons_of_mem _ h)
  have hown : s.vm.findClass RX4 = some m.cls := findClass_of_methodNamed B.named
  subst hsz
  have hD := hD0.self (sz := s.heap.size)
  generalize hAe : va_A w0 s.heap.size = A at hD hSD ⊢
  have hA : ∀ q : Nat, s.heap.size ≤ q → A q := fun q h => by rw [← hAe]; exact Or.inr h
  have hl := lv_entry ([.ref p0, .ref p1, .int p2, .int p3]) (n := 6) (Nat.le_of_ble_eq_true rfl)
  rw [lg_entry_eq]
  generalize (lg_sl ([.ref p0, .ref p1, .int p2, .int p3]) ++ List.replicate (6 - (lg_sl ([.ref p0, .ref p1, .int p2, .int p3])).length) Slot.unset).toArray = ls at hl ⊢
  have hl : lv_has ls 6 [(0, .ref p0), (1, .ref p1), (2, .int p2), (3, .int p3)] := hl
  refine nameQ (fun Q hQ => ?_)
  have hw : WD D cy GG A s wr_X4_isQuiet__4 wa_X4_isQuiet__4 Ps w0 Ps w0 s.heap [] := ⟨hT, hP, hD, va_S.rf, FR.rf, hT.1, [], (List.append_nil _).symm⟩
  have B3 : ∀ (nf : Nat) (x4 : Int32) (H : Heap) (locs : List Loc) (ls : Array Slot), 4 - x4.toInt < (nf : Int) → RI p2 4 4 → RI p3 (-2147483648) 2147483647 → RI x4 0 4 → WD D cy GG A s wr_X4_isQuiet__4 wa_X4_isQuiet__4 Ps w0 Ps w0 H locs → lv_has ls 6 [(0, .ref p0), (1, .ref p1), (2, .int p2), (3, .int p3), (4, .int x4)] → W p l e (headSpec (Cond.code yX4_isQuiet cX4_isQuiet 6 (some .boolean) :: gT) ({ frames := 2, cells := 0, slots := 0, locals := 400 } : Room)).room s m ([.ref p0, .ref p1, .int p2, .int p3] : List Value).toArray below meth c H locs 0 0 Q (F0 m 3 ls []) := by
    intro nf3
    induction nf3 with
    | zero =>
      intro x4 H locs ls hn3 r_p2 r_p3 r_x4 hw hl
      exact absurd hn3 (by have q0 := r_x4.1; have u0 := r_x4.2; omega)
    | succ nf3 ih3 =>
      intro x4 H locs ls hn3 r_p2 r_p3 r_x4 hw hl
      refine lv_iload hx hb dX4_isQuiet_3 (lv_at hl 4 rfl) ?_
      refine lv_iload_n hx hb dX4_isQuiet_5 rfl (lv_at hl 2 rfl) ?_
      refine lv_icmp_ge (tgt := 81) hx hb dX4_isQuiet_6 (by decide) (fun c_6 => ?_) (fun c_6 => ?_)
      · have r_x4 : RI x4 4 4 := rc_le2 r_p2 r_x4 (ti_le c_6) (by decide)
        refine lv_iconst (v := 1) hx hb dX4_isQuiet_81 (by decide) ?_
        subst hQ
        exact W.zret (v := 1) hx hb hr (rfl) (fun t ht hW => ⟨⟨1, (), rfl, ⟨rl_1.to (by decide), (fun _ => trivial), (fun h0 => trivial)⟩, by rw [ht]; exact hw.2.1, va_K.moved hW.alike hK, hw.2.2.1⟩, hw.2.2.2.1.F ht⟩) hw.2.2.2.1.2.2 dX4_isQuiet_82
      · have r_x4 : RI x4 0 3 := rc_lt1 r_x4 r_p2 (ti_nle c_6) (by decide)
        refine lv_aload_n hx hb dX4_isQuiet_9 rfl (lv_at hl 0 rfl) ?_
        refine tg_get (ci := 4) (ts := ty_ROOMS) (C := RX4) (T := TX4) (N := 2) hx hb hts inX4 hown hK hw h_p0 rfl rfl 0 (by decide) (hts _ tw_169) (fun _ h9 => h9) (ft := vR 16) rfl dX4_isQuiet_10 (fun u_1 hv_u_1 m_u_1 => ?_)
        obtain ⟨vu_1, rfl, h_vu_1⟩ := hv_u_1
        refine lv_iload hx hb dX4_isQuiet_13 (lv_at hl 4 rfl) ?_
        refine tg_iald (lo := (-1)) (hi := 5) hx hb hK hw h_vu_1 rfl 0 3 r_x4 (by decide) (by exact fun _ _ _ => ⟨Int.le_refl _, Int.le_refl _⟩) dX4_isQuiet_15 (fun v_2 r_v_2 m_v_2 o_v_2 => ?_)
        refine lv_iconst (v := (-1)) hx hb dX4_isQuiet_16 (by decide) ?_
        refine lv_icmp_eq (tgt := 34) hx hb dX4_isQuiet_17 (by decide) (fun c_17 => ?_) (fun c_17 => ?_)
        · have r_v_2 : RI v_2 (-1) (-1) := rc_eq1 r_v_2 rl_m1 (ti_eq c_17) (by decide)
          refine lv_iconst (v := 0) hx hb dX4_isQuiet_34 (by decide) ?_
          refine lv_istore (lv' := [(5, .int 0), (0, .ref p0), (1, .ref p1), (2, .int p2), (3, .int p3), (4, .int x4)]) hx hb dX4_isQuiet_35 hl (by decide) rfl (fun ls hl => ?_)
          refine lv_aload_n hx hb dX4_isQuiet_37 rfl (lv_at hl 1 rfl) ?_
          refine tg_get (ci := 4) (ts := ty_ROOMS) (C := RX4) (T := TX4) (N := 2) hx hb hts inX4 hown hK hw h_p0 rfl rfl 1 (by decide) (hts _ tw_170) (fun _ h9 => h9) (ft := vR 17) rfl dX4_isQuiet_38 (fun u_3 hv_u_3 m_u_3 => ?_)
          obtain ⟨vu_3, rfl, h_vu_3⟩ := hv_u_3
          refine lv_iload hx hb dX4_isQuiet_41 (lv_at hl 5 rfl) ?_
          refine tg_iald (lo := (-2147483648)) (hi := 2147483647) hx hb hK hw h_vu_3 rfl 0 3 r_x4 (by decide) (by exact fun _ _ _ => ⟨Int.le_refl _, Int.le_refl _⟩) dX4_isQuiet_43 (fun v_4 r_v_4 m_v_4 o_v_4 => ?_)
          refine lv_iload_n hx hb dX4_isQuiet_44 rfl (lv_at hl 4 rfl) ?_
          refine lv_icmp_ne (tgt := 75) hx hb dX4_isQuiet_45 (by decide) (fun c_45 => ?_) (fun c_45 => ?_)
          · obtain ⟨v_5, e_v_5⟩ : ∃ q9 : Int32, q9 = x4 + Int32.ofInt 1 := ⟨_, rfl⟩
            obtain ⟨t_v_5, r_v_5⟩ := tq_add (lo := 1) (hi := 4) r_x4 (show RI (Int32.ofInt 1) 1 1 by unfold RI; decide +kernel) (by decide +kernel) e_v_5
            have t_v_5 : v_5.toInt = x4.toInt + 1 := t_v_5
            refine lv_iinc (v := v_5) (lv' := [(4, .int v_5), (5, .int 0), (0, .ref p0), (1, .ref p1), (2, .int p2), (3, .int p3)]) hx hb dX4_isQuiet_75 hl (k := 5) rfl e_v_5.symm (by decide) rfl (fun ls hl => ?_)
            refine lv_goto (tgt := 3) hx hb dX4_isQuiet_78 (by decide) ?_
            exact ih3 v_5 _ _ ls (by have q0 := r_v_5.1; have u0 := r_v_5.2; have o0 := r_x4.1; have p0 := r_x4.2; omega) r_p2 r_p3 (r_v_5.to (by decide)) hw (lv_sub hl [2, 3, 4, 5, 0] rfl)
          · refine lv_iload hx hb dX4_isQuiet_48 (lv_at hl 0 rfl) ?_
            refine lv_if_eq (tgt := 75) hx hb dX4_isQuiet_50 (by decide) (fun _ => ?_) (fun c9 => absurd (by decide) c9)
            obtain ⟨v_6, e_v_6⟩ : ∃ q9 : Int32, q9 = x4 + Int32.ofInt 1 := ⟨_, rfl⟩
            obtain ⟨t_v_6, r_v_6⟩ := tq_add (lo := 1) (hi := 4) r_x4 (show RI (Int32.ofInt 1) 1 1 by unfold RI; decide +kernel) (by decide +kernel) e_v_6
            have t_v_6 : v_6.toInt = x4.toInt + 1 := t_v_6
            refine lv_iinc (v := v_6) (lv' := [(4, .int v_6), (5, .int 0), (0, .ref p0), (1, .ref p1), (2, .int p2), (3, .int p3)]) hx hb dX4_isQuiet_75 hl (k := 5) rfl e_v_6.symm (by decide) rfl (fun ls hl => ?_)
            refine lv_goto (tgt := 3) hx hb dX4_isQuiet_78 (by decide) ?_
            exact ih3 v_6 _ _ ls (by have q0 := r_v_6.1; have u0 := r_v_6.2; have o0 := r_x4.1; have p0 := r_x4.2; omega) r_p2 r_p3 (r_v_6.to (by decide)) hw (lv_sub hl [2, 3, 4, 5, 0] rfl)
        · have r_v_2 : RI v_2 0 5 := rc_neL r_v_2 rl_m1 (ti_ne c_17) (by decide)
          refine lv_aload_n hx hb dX4_isQuiet_20 rfl (lv_at hl 0 rfl) ?_
          refine tg_mem (ci := 4) (C := RX4) (T := TX4) (N := 2) hx hb hts inX4 hown hK hw 0 m_u_1 rfl (by decide) (hts _ tw_169) (fun _ h9 => h9) dX4_isQuiet_21 ?_
          refine lv_iload_n hx hb dX4_isQuiet_24 rfl (lv_at hl 2 rfl) ?_
          refine tg_iald (lo := (-1)) (hi := 5) hx hb hK hw h_vu_1 rfl 4 4 r_p2 (by decide) (by exact fun _ _ _ => ⟨Int.le_refl _, Int.le_refl _⟩) dX4_isQuiet_25 (fun v_7 r_v_7 m_v_7 o_v_7 => ?_)
          refine lv_iconst (v := (-1)) hx hb dX4_isQuiet_26 (by decide) ?_
          refine lv_icmp_eq (tgt := 34) hx hb dX4_isQuiet_27 (by decide) (fun c_27 => ?_) (fun c_27 => ?_)
          · have r_v_7 : RI v_7 (-1) (-1) := rc_eq1 r_v_7 rl_m1 (ti_eq c_27) (by decide)
            refine lv_iconst (v := 0) hx hb dX4_isQuiet_34 (by decide) ?_
            refine lv_istore (lv' := [(5, .int 0), (0, .ref p0), (1, .ref p1), (2, .int p2), (3, .int p3), (4, .int x4)]) hx hb dX4_isQuiet_35 hl (by decide) rfl (fun ls hl => ?_)
            refine lv_aload_n hx hb dX4_isQuiet_37 rfl (lv_at hl 1 rfl) ?_
            refine tg_get (ci := 4) (ts := ty_ROOMS) (C := RX4) (T := TX4) (N := 2) hx hb hts inX4 hown hK hw h_p0 rfl rfl 1 (by decide) (hts _ tw_170) (fun _ h9 => h9) (ft := vR 17) rfl dX4_isQuiet_38 (fun u_8 hv_u_8 m_u_8 => ?_)
            obtain ⟨vu_8, rfl, h_vu_8⟩ := hv_u_8
            refine lv_iload hx hb dX4_isQuiet_41 (lv_at hl 5 rfl) ?_
            refine tg_iald (lo := (-2147483648)) (hi := 2147483647) hx hb hK hw h_vu_8 rfl 0 3 r_x4 (by decide) (by exact fun _ _ _ => ⟨Int.le_refl _, Int.le_refl _⟩) dX4_isQuiet_43 (fun v_9 r_v_9 m_v_9 o_v_9 => ?_)
            refine lv_iload_n hx hb dX4_isQuiet_44 rfl (lv_at hl 4 rfl) ?_
            refine lv_icmp_ne (tgt := 75) hx hb dX4_isQuiet_45 (by decide) (fun c_45 => ?_) (fun c_45 => ?_)
            · obtain ⟨v_10, e_v_10⟩ : ∃ q9 : Int32, q9 = x4 + Int32.ofInt 1 := ⟨_, rfl⟩
              obtain ⟨t_v_10, r_v_10⟩ := tq_add (lo := 1) (hi := 4) r_x4 (show RI (Int32.ofInt 1) 1 1 by unfold RI; decide +kernel) (by decide +kernel) e_v_10
              have t_v_10 : v_10.toInt = x4.toInt + 1 := t_v_10
              refine lv_iinc (v := v_10) (lv' := [(4, .int v_10), (5, .int 0), (0, .ref p0), (1, .ref p1), (2, .int p2), (3, .int p3)]) hx hb dX4_isQuiet_75 hl (k := 5) rfl e_v_10.symm (by decide) rfl (fun ls hl => ?_)
              refine lv_goto (tgt := 3) hx hb dX4_isQuiet_78 (by decide) ?_
              exact ih3 v_10 _ _ ls (by have q0 := r_v_10.1; have u0 := r_v_10.2; have o0 := r_x4.1; have p0 := r_x4.2; omega) r_p2 r_p3 (r_v_10.to (by decide)) hw (lv_sub hl [2, 3, 4, 5, 0] rfl)
            · refine lv_iload hx hb dX4_isQuiet_48 (lv_at hl 0 rfl) ?_
              refine lv_if_eq (tgt := 75) hx hb dX4_isQuiet_50 (by decide) (fun _ => ?_) (fun c9 => absurd (by decide) c9)
              obtain ⟨v_11, e_v_11⟩ : ∃ q9 : Int32, q9 = x4 + Int32.ofInt 1 := ⟨_, rfl⟩
              obtain ⟨t_v_11, r_v_11⟩ := tq_add (lo := 1) (hi := 4) r_x4 (show RI (Int32.ofInt 1) 1 1 by unfold RI; decide +kernel) (by decide +kernel) e_v_11
              have t_v_11 : v_11.toInt = x4.toInt + 1 := t_v_11
              refine lv_iinc (v := v_11) (lv' := [(4, .int v_11), (5, .int 0), (0, .ref p0), (1, .ref p1), (2, .int p2), (3, .int p3)]) hx hb dX4_isQuiet_75 hl (k := 5) rfl e_v_11.symm (by decide) rfl (fun ls hl => ?_)
              refine lv_goto (tgt := 3) hx hb dX4_isQuiet_78 (by decide) ?_
              exact ih3 v_11 _ _ ls (by have q0 := r_v_11.1; have u0 := r_v_11.2; have o0 := r_x4.1; have p0 := r_x4.2; omega) r_p2 r_p3 (r_v_11.to (by decide)) hw (lv_sub hl [2, 3, 4, 5, 0] rfl)
          · have r_v_7 : RI v_7 0 5 := rc_neL r_v_7 rl_m1 (ti_ne c_27) (by decide)
            refine lv_iconst (v := 1) hx hb dX4_isQuiet_30 (by decide) ?_
            refine lv_goto (tgt := 35) hx hb dX4_isQuiet_31 (by decide) ?_
            refine lv_istore (lv' := [(5, .int 1), (0, .ref p0), (1, .ref p1), (2, .int p2), (3, .int p3), (4, .int x4)]) hx hb dX4_isQuiet_35 hl (by decide) rfl (fun ls hl => ?_)
            refine lv_aload_n hx hb dX4_isQuiet_37 rfl (lv_at hl 1 rfl) ?_
            refine tg_get (ci := 4) (ts := ty_ROOMS) (C := RX4) (T := TX4) (N := 2) hx hb hts inX4 hown hK hw h_p0 rfl rfl 1 (by decide) (hts _ tw_170) (fun _ h9 => h9) (ft := vR 17) rfl dX4_isQuiet_38 (fun u_12 hv_u_12 m_u_12 => ?_)
            obtain ⟨vu_12, rfl, h_vu_12⟩ := hv_u_12
            refine lv_iload hx hb dX4_isQuiet_41 (lv_at hl 5 rfl) ?_
            refine tg_iald (lo := (-2147483648)) (hi := 2147483647) hx hb hK hw h_vu_12 rfl 0 3 r_x4 (by decide) (by exact fun _ _ _ => ⟨Int.le_refl _, Int.le_refl _⟩) dX4_isQuiet_43 (fun v_13 r_v_13 m_v_13 o_v_13 => ?_)
            refine lv_iload_n hx hb dX4_isQuiet_44 rfl (lv_at hl 4 rfl) ?_
            refine lv_icmp_ne (tgt := 75) hx hb dX4_isQuiet_45 (by decide) (fun c_45 => ?_) (fun c_45 => ?_)
            · obtain ⟨v_14, e_v_14⟩ : ∃ q9 : Int32, q9 = x4 + Int32.ofInt 1 := ⟨_, rfl⟩
              obtain ⟨t_v_14, r_v_14⟩ := tq_add (lo := 1) (hi := 4) r_x4 (show RI (Int32.ofInt 1) 1 1 by unfold RI; decide +kernel) (by decide +kernel) e_v_14
              have t_v_14 : v_14.toInt = x4.toInt + 1 := t_v_14
              refine lv_iinc (v := v_14) (lv' := [(4, .int v_14), (5, .int 1), (0, .ref p0), (1, .ref p1), (2, .int p2), (3, .int p3)]) hx hb dX4_isQuiet_75 hl (k := 5) rfl e_v_14.symm (by decide) rfl (fun ls hl => ?_)
              refine lv_goto (tgt := 3) hx hb dX4_isQuiet_78 (by decide) ?_
              exact ih3 v_14 _ _ ls (by have q0 := r_v_14.1; have u0 := r_v_14.2; have o0 := r_x4.1; have p0 := r_x4.2; omega) r_p2 r_p3 (r_v_14.to (by decide)) hw (lv_sub hl [2, 3, 4, 5, 0] rfl)
            · refine lv_iload hx hb dX4_isQuiet_48 (lv_at hl 0 rfl) ?_
              refine lv_if_eq (tgt := 75) hx hb dX4_isQuiet_50 (by decide) (fun c9 => absurd c9 (by decide)) (fun _ => ?_)
              refine lv_aload_n hx hb dX4_isQuiet_53 rfl (lv_at hl 2 rfl) ?_
              refine lv_aload_n hx hb dX4_isQuiet_54 rfl (lv_at hl 1 rfl) ?_
              refine tg_mem (ci := 4) (C := RX4) (T := TX4) (N := 2) hx hb hts inX4 hown hK hw 0 m_u_1 rfl (by decide) (hts _ tw_169) (fun _ h9 => h9) dX4_isQuiet_55 ?_
              refine lv_iload hx hb dX4_isQuiet_58 (lv_at hl 5 rfl) ?_
              refine tg_imem hx hb hK hw h_vu_1 rfl r_x4 (by decide) m_v_2 dX4_isQuiet_60 ?_
              refine lv_aload_n hx hb dX4_isQuiet_61 rfl (lv_at hl 1 rfl) ?_
              refine tg_mem (ci := 4) (C := RX4) (T := TX4) (N := 2) hx hb hts inX4 hown hK hw 0 m_u_1 rfl (by decide) (hts _ tw_169) (fun _ h9 => h9) dX4_isQuiet_62 ?_
              refine lv_iload_n hx hb dX4_isQuiet_65 rfl (lv_at hl 3 rfl) ?_
              refine tg_imem hx hb hK hw h_vu_1 rfl r_p2 (by decide) m_v_7 dX4_isQuiet_66 ?_
              refine tk_ir (va_runVN (As := [.int v_2, .int v_7]) (rest := []) ⟨hx, hb, hml, hown, hts⟩ (c_X3_quarrel l D cy z H.size Ps w0 hw.1 p1 v_2 v_7 h_p1 r_v_2 (r_v_7.to (by decide))) ⟨va_cnB 2 hts (gC tw_498) rfl rfl rfl (va_Nw.of rfl (hSD.nest (args := #[]) tn_802)) (hts _ tw_11) (by decide +kernel) ⟨Nat.le_of_ble_eq_true rfl, Nat.le_of_ble_eq_true rfl⟩, hts _ tw_497, hts _ ts_5⟩ (tg_preV hw hK hSD hA (ci := 3) (q := (RX3, TX3, 9)) rfl h_p1 rfl) rfl rfl hl.1 rfl (lv_room (Nat.le_of_ble_eq_true rfl)) dX4_isQuiet_67 ⟨Nat.le_of_ble_eq_true rfl, Nat.le_of_ble_eq_true rfl⟩) hw hA (fun v_17  H locs hp_v_17 hw => ?_)
              have r_v_17 : RI v_17 0 1 := hp_v_17.1
              refine lv_if_eq (tgt := 75) hx hb dX4_isQuiet_70 (by decide) (fun c_70 => ?_) (fun c_70 => ?_)
              · have r_v_17 : RI v_17 0 0 := rc_eq1 r_v_17 rl_0 (ti_eq c_70) (by decide)
                obtain ⟨v_18, e_v_18⟩ : ∃ q9 : Int32, q9 = x4 + Int32.ofInt 1 := ⟨_, rfl⟩
                obtain ⟨t_v_18, r_v_18⟩ := tq_add (lo := 1) (hi := 4) r_x4 (show RI (Int32.ofInt 1) 1 1 by unfold RI; decide +kernel) (by decide +kernel) e_v_18
                have t_v_18 : v_18.toInt = x4.toInt + 1 := t_v_18
                refine lv_iinc (v := v_18) (lv' := [(4, .int v_18), (5, .int 1), (0, .ref p0), (1, .ref p1), (2, .int p2), (3, .int p3)]) hx hb dX4_isQuiet_75 hl (k := 5) rfl e_v_18.symm (by decide) rfl (fun ls hl => ?_)
                refine lv_goto (tgt := 3) hx hb dX4_isQuiet_78 (by decide) ?_
                exact ih3 v_18 _ _ ls (by have q0 := r_v_18.1; have u0 := r_v_18.2; have o0 := r_x4.1; have p0 := r_x4.2; omega) r_p2 r_p3 (r_v_18.to (by decide)) hw (lv_sub hl [2, 3, 4, 5, 0] rfl)
              · have r_v_17 : RI v_17 1 1 := rc_neL r_v_17 rl_0 (ti_ne c_70) (by decide)
                refine lv_iconst (v := 0) hx hb dX4_isQuiet_73 (by decide) ?_
                subst hQ
                exact W.zret (v := 0) hx hb hr (rfl) (fun t ht hW => ⟨⟨0, (), rfl, ⟨rl_0.to (by decide), (fun h0 => trivial), (fun _ => trivial)⟩, by rw [ht]; exact hw.2.1, va_K.moved hW.alike hK, hw.2.2.1⟩, hw.2.2.2.1.F ht⟩) hw.2.2.2.1.2.2 dX4_isQuiet_74
  refine lv_iconst (v := 0) hx hb dX4_isQuiet_0 (by decide) ?_
  refine lv_istore (lv' := [(4, .int 0), (0, .ref p0), (1, .ref p1), (2, .int p2), (3, .int p3)]) hx hb dX4_isQuiet_1 hl (by decide) rfl (fun ls hl => ?_)
  exact B3 4294967298 0 _ _ ls (by have q0 := rl_0.1; have u0 := rl_0.2; omega) r_p2 r_p3 (rl_0.to (by decide)) hw (lv_sub hl [1, 2, 3, 4, 0] rfl)
abbrev wr_X4_isQuiet__5 : List (Nat × Nat) := []
abbrev wa_X4_isQuiet__5 : List Nat := []
set_option maxHeartbeats 4000000 in
set_option maxRecDepth 100000 in
theorem c_X4_isQuiet__5 (l : Launch) (D : va_G) (cy : Nat → ClassId) (z : Nat → Nat) (sz : Nat) (Ps : PSI) (w0 : va_W) (hT : HT cy GG Ps w0) (p0 : Nat) (p1 : Nat) (p2 : Int32) (p3 : Int32) (h_p0 : (p0, 29) ∈ Ps) (h_p1 : (p1, 25) ∈ Ps) (r_p2 : RI p2 5 5) (r_p3 : RI p3 (-2147483648) 2147483647) : Met l yX4_isQuiet (Cond.code yX4_isQuiet cX4_isQuiet 6 (some .boolean) :: gT) ({ frames := 2, cells := 0, slots := 0, locals := 400 } : Room) (va_Pc [.ref p0, .ref p1, .int p2, .int p3] (PRE D cy z w0 sz)) (va_Qi (fun (r : Int32) (u : Unit) => RI r 0 1 ∧ (r = 0 → True) ∧ (¬ r = 0 → True)) (BB D cy (va_A w0 sz) (fun (u : Unit) => w0)) (va_A w0 sz)) 0 0 (va_A w0 sz) := by
  refine Met.ofW (cc := cX4_isQuiet) (maxL := 6) (ret := (some .boolean)) (by decide) rfl ?_
  intro p e s m args below meth c s₁ B hml hv
  obtain ⟨rfl, hsz, hP, hK, hD0, hSD⟩ := hv
  have hx := B.exec
  have hb := B.bytes
  have hr := B.returns
  have hlocks := B.notSynchronized
  have hts : ∀ w ∈ gT, w.before _ s = true := fun w h => atoms_spec (ws := Cond.code yX4_isQuiet cX4_isQuiet 6 (some .boolean) :: gT) B.pre w (List.mem_cons_of_mem _ h)
  have hown : s.vm.findClass RX4 = some m.cls := findClass_of_methodNamed B.named
  subst hsz
  have hD := hD0.self (sz := s.heap.size)
  generalize hAe : va_A w0 s.heap.size = A at hD hSD ⊢
  have hA : ∀ q : Nat, s.heap.size ≤ q → A q := fun q h => by rw [← hAe]; exact Or.inr h
  have hl := lv_entry ([.ref p0, .ref p1, .int p2, .int p3]) (n := 6) (Nat.le_of_ble_eq_true rfl)
  rw [lg_entry_eq]
  generalize (lg_sl ([.ref p0, .ref p1, .int p2, .int p3]) ++ List.replicate (6 - (lg_sl ([.ref p0, .ref p1, .int p2, .int p3])).length) Slot.unset).toArray = ls at hl ⊢
  have hl : lv_has ls 6 [(0, .ref p0), (1, .ref p1), (2, .int p2), (3, .int p3)] := hl
  refine nameQ (fun Q hQ => ?_)
  have hw : WD D cy GG A s wr_X4_isQuiet__5 wa_X4_isQuiet__5 Ps w0 Ps w0 s.heap [] := ⟨hT, hP, hD, va_S.rf, FR.rf, hT.1, [], (List.append_nil _).symm⟩
  have B3 : ∀ (nf : Nat) (x4 : Int32) (H : Heap) (locs : List Loc) (ls : Array Slot), 5 - x4.toInt < (nf : Int) → RI p2 5 5 → RI p3 (-2147483648) 2147483647 → RI x4 0 5 → WD D cy GG A s wr_X4_isQuiet__5 wa_X4_isQuiet__5 Ps w0 Ps w0 H locs → lv_has ls 6 [(0, .ref p0), (1, .ref p1), (2, .int p2), (3, .int p3), (4, .int x4)] → W p l e (headSpec (Cond.code yX4_isQuiet cX4_isQuiet 6 (some .boolean) :: gT) ({ frames := 2, cells := 0, slots := 0, locals := 400 } : Room)).room s m ([.ref p0, .ref p1, .int p2, .int p3] : List Value).toArray below meth c H locs 0 0 Q (F0 m 3 ls []) := by
    intro nf3
    induction nf3 with
    | zero =>
      intro x4 H locs ls hn3 r_p2 r_p3 r_x4 hw hl
      exact absurd hn3 (by have q0 := r_x4.1; have u0 := r_x4.2; omega)
    | succ nf3 ih3 =>
      intro x4 H locs ls hn3 r_p2 r_p3 r_x4 hw hl
      refine lv_iload hx hb dX4_isQuiet_3 (lv_at hl 4 rfl) ?_
      refine lv_iload_n hx hb dX4_isQuiet_5 rfl (lv_at hl 2 rfl) ?_
      refine lv_icmp_ge (tgt := 81) hx hb dX4_isQuiet_6 (by decide) (fun c_6 => ?_) (fun c_6 => ?_)
      · have r_x4 : RI x4 5 5 := rc_le2 r_p2 r_x4 (ti_le c_6) (by decide)
        refine lv_iconst (v := 1) hx hb dX4_isQuiet_81 (by decide) ?_
        subst hQ
        exact W.zret (v := 1) hx hb hr (rfl) (fun t ht hW => ⟨⟨1, (), rfl, ⟨rl_1.to (by decide), (fun _ => trivial), (fun h0 => trivial)⟩, by rw [ht]; exact hw.2.1, va_K.moved hW.alike hK, hw.2.2.1⟩, hw.2.2.2.1.F ht⟩) hw.2.2.2.1.2.2 dX4_isQuiet_82
      · have r_x4 : RI x4 0 4 := rc_lt1 r_x4 r_p2 (ti_nle c_6) (by decide)
        refine lv_aload_n hx hb dX4_isQuiet_9 rfl (lv_at hl 0 rfl) ?_
        refine tg_get (ci := 4) (ts := ty_ROOMS) (C := RX4) (T := TX4) (N := 2) hx hb hts inX4 hown hK hw h_p0 rfl rfl 0 (by decide) (hts _ tw_169) (fun _ h9 => h9) (ft := vR 16) rfl dX4_isQuiet_10 (fun u_1 hv_u_1 m_u_1 => ?_)
        obtain ⟨vu_1, rfl, h_vu_1⟩ := hv_u_1
        refine lv_iload hx hb dX4_isQuiet_13 (lv_at hl 4 rfl) ?_
        refine tg_iald (lo := (-1)) (hi := 5) hx hb hK hw h_vu_1 rfl 0 4 r_x4 (by decide) (by exact fun _ _ _ => ⟨Int.le_refl _, Int.le_refl _⟩) dX4_isQuiet_15 (fun v_2 r_v_2 m_v_2 o_v_2 => ?_)
        refine lv_iconst (v := (-1)) hx hb dX4_isQuiet_16 (by decide) ?_
        refine lv_icmp_eq (tgt := 34) hx hb dX4_isQuiet_17 (by decide) (fun c_17 => ?_) (fun c_17 => ?_)
        · have r_v_2 : RI v_2 (-1) (-1) := rc_eq1 r_v_2 rl_m1 (ti_eq c_17) (by decide)
          refine lv_iconst (v := 0) hx hb dX4_isQuiet_34 (by decide) ?_
          refine lv_istore (lv' := [(5, .int 0), (0, .ref p0), (1, .ref p1), (2, .int p2), (3, .int p3), (4, .int x4)]) hx hb dX4_isQuiet_35 hl (by decide) rfl (fun ls hl => ?_)
          refine lv_aload_n hx hb dX4_isQuiet_37 rfl (lv_at hl 1 rfl) ?_
          refine tg_get (ci := 4) (ts := ty_ROOMS) (C := RX4) (T := TX4) (N := 2) hx hb hts inX4 hown hK hw h_p0 rfl rfl 1 (by decide) (hts _ tw_170) (fun _ h9 => h9) (ft := vR 17) rfl dX4_isQuiet_38 (fun u_3 hv_u_3 m_u_3 => ?_)
          obtain ⟨vu_3, rfl, h_vu_3⟩ := hv_u_3
          refine lv_iload hx hb dX4_isQuiet_41 (lv_at hl 5 rfl) ?_
          refine tg_iald (lo := (-2147483648)) (hi := 2147483647) hx hb hK hw h_vu_3 rfl 0 4 r_x4 (by decide) (by exact fun _ _ _ => ⟨Int.le_refl _, Int.le_refl _⟩) dX4_isQuiet_43 (fun v_4 r_v_4 m_v_4 o_v_4 => ?_)
          refine lv_iload_n hx hb dX4_isQuiet_44 rfl (lv_at hl 4 rfl) ?_
          refine lv_icmp_ne (tgt := 75) hx hb dX4_isQuiet_45 (by decide) (fun c_45 => ?_) (fun c_45 => ?_)
          · obtain ⟨v_5, e_v_5⟩ : ∃ q9 : Int32, q9 = x4 + Int32.ofInt 1 := ⟨_, rfl⟩
            obtain ⟨t_v_5, r_v_5⟩ := tq_add (lo := 1) (hi := 5) r_x4 (show RI (Int32.ofInt 1) 1 1 by unfold RI; decide +kernel) (by decide +kernel) e_v_5
            have t_v_5 : v_5.toInt = x4.toInt + 1 := t_v_5
            refine lv_iinc (v := v_5) (lv' := [(4, .int v_5), (5, .int 0), (0, .ref p0), (1, .ref p1), (2, .int p2), (3, .int p3)]) hx hb dX4_isQuiet_75 hl (k := 5) rfl e_v_5.symm (by decide) rfl (fun ls hl => ?_)
            refine lv_goto (tgt := 3) hx hb dX4_isQuiet_78 (by decide) ?_
            exact ih3 v_5 _ _ ls (by have q0 := r_v_5.1; have u0 := r_v_5.2; have o0 := r_x4.1; have p0 := r_x4.2; omega) r_p2 r_p3 (r_v_5.to (by decide)) hw (lv_sub hl [2, 3, 4, 5, 0] rfl)
          · refine lv_iload hx hb dX4_isQuiet_48 (lv_at hl 0 rfl) ?_
            refine lv_if_eq (tgt := 75) hx hb dX4_isQuiet_50 (by decide) (fun _ => ?_) (fun c9 => absurd (by decide) c9)
            obtain ⟨v_6, e_v_6⟩ : ∃ q9 : Int32, q9 = x4 + Int32.ofInt 1 := ⟨_, rfl⟩
            obtain ⟨t_v_6, r_v_6⟩ := tq_add (lo := 1) (hi := 5) r_x4 (show RI (Int32.ofInt 1) 1 1 by unfold RI; decide +kernel) (by decide +kernel) e_v_6
            have t_v_6 : v_6.toInt = x4.toInt + 1 := t_v_6
            refine lv_iinc (v := v_6) (lv' := [(4, .int v_6), (5, .int 0), (0, .ref p0), (1, .ref p1), (2, .int p2), (3, .int p3)]) hx hb dX4_isQuiet_75 hl (k := 5) rfl e_v_6.symm (by decide) rfl (fun ls hl => ?_)
            refine lv_goto (tgt := 3) hx hb dX4_isQuiet_78 (by decide) ?_
            exact ih3 v_6 _ _ ls (by have q0 := r_v_6.1; have u0 := r_v_6.2; have o0 := r_x4.1; have p0 := r_x4.2; omega) r_p2 r_p3 (r_v_6.to (by decide)) hw (lv_sub hl [2, 3, 4, 5, 0] rfl)
        · have r_v_2 : RI v_2 0 5 := rc_neL r_v_2 rl_m1 (ti_ne c_17) (by decide)
          refine lv_aload_n hx hb dX4_isQuiet_20 rfl (lv_at hl 0 rfl) ?_
          refine tg_mem (ci := 4) (C := RX4) (T := TX4) (N := 2) hx hb hts inX4 hown hK hw 0 m_u_1 rfl (by decide) (hts _ tw_169) (fun _ h9 => h9) dX4_isQuiet_21 ?_
          refine lv_iload_n hx hb dX4_isQuiet_24 rfl (lv_at hl 2 rfl) ?_
          refine tg_iald (lo := (-1)) (hi := 5) hx hb hK hw h_vu_1 rfl 5 5 r_p2 (by decide) (by exact fun _ _ _ => ⟨Int.le_refl _, Int.le_refl _⟩) dX4_isQuiet_25 (fun v_7 r_v_7 m_v_7 o_v_7 => ?_)
          refine lv_iconst (v := (-1)) hx hb dX4_isQuiet_26 (by decide) ?_
          refine lv_icmp_eq (tgt := 34) hx hb dX4_isQuiet_27 (by decide) (fun c_27 => ?_) (fun c_27 => ?_)
          · have r_v_7 : RI v_7 (-1) (-1) := rc_eq1 r_v_7 rl_m1 (ti_eq c_27) (by decide)
            refine lv_iconst (v := 0) hx hb dX4_isQuiet_34 (by decide) ?_
            refine lv_istore (lv' := [(5, .int 0), (0, .ref p0), (1, .ref p1), (2, .int p2), (3, .int p3), (4, .int x4)]) hx hb dX4_isQuiet_35 hl (by decide) rfl (fun ls hl => ?_)
            refine lv_aload_n hx hb dX4_isQuiet_37 rfl (lv_at hl 1 rfl) ?_
            refine tg_get (ci := 4) (ts := ty_ROOMS) (C := RX4) (T := TX4) (N := 2) hx hb hts inX4 hown hK hw h_p0 rfl rfl 1 (by decide) (hts _ tw_170) (fun _ h9 => h9) (ft := vR 17) rfl dX4_isQuiet_38 (fun u_8 hv_u_8 m_u_8 => ?_)
            obtain ⟨vu_8, rfl, h_vu_8⟩ := hv_u_8
            refine lv_iload hx hb dX4_isQuiet_41 (lv_at hl 5 rfl) ?_
            refine tg_iald (lo := (-2147483648)) (hi := 2147483647) hx hb hK hw h_vu_8 rfl 0 4 r_x4 (by decide) (by exact fun _ _ _ => ⟨Int.le_refl _, Int.le_refl _⟩) dX4_isQuiet_43 (fun v_9 r_v_9 m_v_9 o_v_9 => ?_)
            refine lv_iload_n hx hb dX4_isQuiet_44 rfl (lv_at hl 4 rfl) ?_
            refine lv_icmp_ne (tgt := 75) hx hb dX4_isQuiet_45 (by decide) (fun c_45 => ?_) (fun c_45 => ?_)
            · obtain ⟨v_10, e_v_10⟩ : ∃ q9 : Int32, q9 = x4 + Int32.ofInt 1 := ⟨_, rfl⟩
              obtain ⟨t_v_10, r_v_10⟩ := tq_add (lo := 1) (hi := 5) r_x4 (show RI (Int32.ofInt 1) 1 1 by unfold RI; decide +kernel) (by decide +kernel) e_v_10
              have t_v_10 : v_10.toInt = x4.toInt + 1 := t_v_10
              refine lv_iinc (v := v_10) (lv' := [(4, .int v_10), (5, .int 0), (0, .ref p0), (1, .ref p1), (2, .int p2), (3, .int p3)]) hx hb dX4_isQuiet_75 hl (k := 5) rfl e_v_10.symm (by decide) rfl (fun ls hl => ?_)
              refine lv_goto (tgt := 3) hx hb dX4_isQuiet_78 (by decide) ?_
              exact ih3 v_10 _ _ ls (by have q0 := r_v_10.1; have u0 := r_v_10.2; have o0 := r_x4.1; have p0 := r_x4.2; omega) r_p2 r_p3 (r_v_10.to (by decide)) hw (lv_sub hl [2, 3, 4, 5, 0] rfl)
            · refine lv_iload hx hb dX4_isQuiet_48 (lv_at hl 0 rfl) ?_
              refine lv_if_eq (tgt := 75) hx hb dX4_isQuiet_50 (by decide) (fun _ => ?_) (fun c9 => absurd (by decide) c9)
              obtain ⟨v_11, e_v_11⟩ : ∃ q9 : Int32, q9 = x4 + Int32.ofInt 1 := ⟨_, rfl⟩
              obtain ⟨t_v_11, r_v_11⟩ := tq_add (lo := 1) (hi := 5) r_x4 (show RI (Int32.ofInt 1) 1 1 by unfold RI; decide +kernel) (by decide +kernel) e_v_11
              have t_v_11 : v_11.toInt = x4.toInt + 1 := t_v_11
              refine lv_iinc (v := v_11) (lv' := [(4, .int v_11), (5, .int 0), (0, .ref p0), (1, .ref p1), (2, .int p2), (3, .int p3)]) hx hb dX4_isQuiet_75 hl (k := 5) rfl e_v_11.symm (by decide) rfl (fun ls hl => ?_)
              refine lv_goto (tgt := 3) hx hb dX4_isQuiet_78 (by decide) ?_
              exact ih3 v_11 _ _ ls (by have q0 := r_v_11.1; have u0 := r_v_11.2; have o0 := r_x4.1; have p0 := r_x4.2; omega) r_p2 r_p3 (r_v_11.to (by decide)) hw (lv_sub hl [2, 3, 4, 5, 0] rfl)
          · have r_v_7 : RI v_7 0 5 := rc_neL r_v_7 rl_m1 (ti_ne c_27) (by decide)
            refine lv_iconst (v := 1) hx hb dX4_isQuiet_30 (by decide) ?_
            refine lv_goto (tgt := 35) hx hb dX4_isQuiet_31 (by decide) ?_
            refine lv_istore (lv' := [(5, .int 1), (0, .ref p0), (1, .ref p1), (2, .int p2), (3, .int p3), (4, .int x4)]) hx hb dX4_isQuiet_35 hl (by decide) rfl (fun ls hl => ?_)
            refine lv_aload_n hx hb dX4_isQuiet_37 rfl (lv_at hl 1 rfl) ?_
            refine tg_get (ci := 4) (ts := ty_ROOMS) (C := RX4) (T := TX4) (N := 2) hx hb hts inX4 hown hK hw h_p0 rfl rfl 1 (by decide) (hts _ tw_170) (fun _ h9 => h9) (ft := vR 17) rfl dX4_isQuiet_38 (fun u_12 hv_u_12 m_u_12 => ?_)
            obtain ⟨vu_12, rfl, h_vu_12⟩ := hv_u_12
            refine lv_iload hx hb dX4_isQuiet_41 (lv_at hl 5 rfl) ?_
            refine tg_iald (lo := (-2147483648)) (hi := 2147483647) hx hb hK hw h_vu_12 rfl 0 4 r_x4 (by decide) (by exact fun _ _ _ => ⟨Int.le_refl _, Int.le_refl _⟩) dX4_isQuiet_43 (fun v_13 r_v_13 m_v_13 o_v_13 => ?_)
            refine lv_iload_n hx hb dX4_isQuiet_44 rfl (lv_at hl 4 rfl) ?_
            refine lv_icmp_ne (tgt := 75) hx hb dX4_isQuiet_45 (by decide) (fun c_45 => ?_) (fun c_45 => ?_)
            · obtain ⟨v_14, e_v_14⟩ : ∃ q9 : Int32, q9 = x4 + Int32.ofInt 1 := ⟨_, rfl⟩
              obtain ⟨t_v_14, r_v_14⟩ := tq_add (lo := 1) (hi := 5) r_x4 (show RI (Int32.ofInt 1) 1 1 by unfold RI; decide +kernel) (by decide +kernel) e_v_14
              have t_v_14 : v_14.toInt = x4.toInt + 1 := t_v_14
              refine lv_iinc (v := v_14) (lv' := [(4, .int v_14), (5, .int 1), (0, .ref p0), (1, .ref p1), (2, .int p2), (3, .int p3)]) hx hb dX4_isQuiet_75 hl (k := 5) rfl e_v_14.symm (by decide) rfl (fun ls hl => ?_)
              refine lv_goto (tgt := 3) hx hb dX4_isQuiet_78 (by decide) ?_
              exact ih3 v_14 _ _ ls (by have q0 := r_v_14.1; have u0 := r_v_14.2; have o0 := r_x4.1; have p0 := r_x4.2; omega) r_p2 r_p3 (r_v_14.to (by decide)) hw (lv_sub hl [2, 3, 4, 5, 0] rfl)
            · refine lv_iload hx hb dX4_isQuiet_48 (lv_at hl 0 rfl) ?_
              refine lv_if_eq (tgt := 75) hx hb dX4_isQuiet_50 (by decide) (fun c9 => absurd c9 (by decide)) (fun _ => ?_)
              refine lv_aload_n hx hb dX4_isQuiet_53 rfl (lv_at hl 2 rfl) ?_
              refine lv_aload_n hx hb dX4_isQuiet_54 rfl (lv_at hl 1 rfl) ?_
              refine tg_mem (ci := 4) (C := RX4) (T := TX4) (N := 2) hx hb hts inX4 hown hK hw 0 m_u_1 rfl (by decide) (hts _ tw_169) (fun _ h9 => h9) dX4_isQuiet_55 ?_
              refine lv_iload hx hb dX4_isQuiet_58 (lv_at hl 5 rfl) ?_
              refine tg_imem hx hb hK hw h_vu_1 rfl r_x4 (by decide) m_v_2 dX4_isQuiet_60 ?_
              refine lv_aload_n hx hb dX4_isQuiet_61 rfl (lv_at hl 1 rfl) ?_
              refine tg_mem (ci := 4) (C := RX4) (T := TX4) (N := 2) hx hb hts inX4 hown hK hw 0 m_u_1 rfl (by decide) (hts _ tw_169) (fun _ h9 => h9) dX4_isQuiet_62 ?_
              refine lv_iload_n hx hb dX4_isQuiet_65 rfl (lv_at hl 3 rfl) ?_
              refine tg_imem hx hb hK hw h_vu_1 rfl r_p2 (by decide) m_v_7 dX4_isQuiet_66 ?_
              refine tk_ir (va_runVN (As := [.int v_2, .int v_7]) (rest := []) ⟨hx, hb, hml, hown, hts⟩ (c_X3_quarrel l D cy z H.size Ps w0 hw.1 p1 v_2 v_7 h_p1 r_v_2 (r_v_7.to (by decide))) ⟨va_cnB 2 hts (gC tw_498) rfl rfl rfl (va_Nw.of rfl (hSD.nest (args := #[]) tn_802)) (hts _ tw_11) (by decide +kernel) ⟨Nat.le_of_ble_eq_true rfl, Nat.le_of_ble_eq_true rfl⟩, hts _ tw_497, hts _ ts_5⟩ (tg_preV hw hK hSD hA (ci := 3) (q := (RX3, TX3, 9)) rfl h_p1 rfl) rfl rfl hl.1 rfl (lv_room (Nat.le_of_ble_eq_true rfl)) dX4_isQuiet_67 ⟨Nat.le_of_ble_eq_true rfl, Nat.le_of_ble_eq_true rfl⟩) hw hA (fun v_17  H locs hp_v_17 hw => ?_)
              have r_v_17 : RI v_17 0 1 := hp_v_17.1
              refine lv_if_eq (tgt := 75) hx hb dX4_isQuiet_70 (by decide) (fun c_70 => ?_) (fun c_70 => ?_)
              · have r_v_17 : RI v_17 0 0 := rc_eq1 r_v_17 rl_0 (ti_eq c_70) (by decide)
                obtain ⟨v_18, e_v_18⟩ : ∃ q9 : Int32, q9 = x4 + Int32.ofInt 1 := ⟨_, rfl⟩
                obtain ⟨t_v_18, r_v_18⟩ := tq_add (lo := 1) (hi := 5) r_x4 (show RI (Int32.ofInt 1) 1 1 by unfold RI; decide +kernel) (by decide +kernel) e_v_18
                have t_v_18 : v_18.toInt = x4.toInt + 1 := t_v_18
                refine lv_iinc (v := v_18) (lv' := [(4, .int v_18), (5, .int 1), (0, .ref p0), (1, .ref p1), (2, .int p2), (3, .int p3)]) hx hb dX4_isQuiet_75 hl (k := 5) rfl e_v_18.symm (by decide) rfl (fun ls hl => ?_)
                refine lv_goto (tgt := 3) hx hb dX4_isQuiet_78 (by decide) ?_
                exact ih3 v_18 _ _ ls (by have q0 := r_v_18.1; have u0 := r_v_18.2; have o0 := r_x4.1; have p0 := r_x4.2; omega) r_p2 r_p3 (r_v_18.to (by decide)) hw (lv_sub hl [2, 3, 4, 5, 0] rfl)
              · have r_v_17 : RI v_17 1 1 := rc_neL r_v_17 rl_0 (ti_ne c_70) (by decide)
                refine lv_iconst (v := 0) hx hb dX4_isQuiet_73 (by decide) ?_
                subst hQ
                exact W.zret (v := 0) hx hb hr (rfl) (fun t ht hW => ⟨⟨0, (), rfl, ⟨rl_0.to (by decide), (fun h0 => trivial), (fun _ => trivial)⟩, by rw [ht]; exact hw.2.1, va_K.moved hW.alike hK, hw.2.2.1⟩, hw.2.2.2.1.F ht⟩) hw.2.2.2.1.2.2 dX4_isQuiet_74
  refine lv_iconst (v := 0) hx hb dX4_isQuiet_0 (by decide) ?_
  refine lv_istore (lv' := [(4, .int 0), (0, .ref p0), (1, .ref p1), (2, .int p2), (3, .int p3)]) hx hb dX4_isQuiet_1 hl (by decide) rfl (fun ls hl => ?_)
  exact B3 4294967298 0 _ _ ls (by have q0 := rl_0.1; have u0 := rl_0.2; omega) r_p2 r_p3 (rl_0.to (by decide)) hw (lv_sub hl [1, 2, 3, 4, 0] rfl)
abbrev wr_X4_canPlace__6 : List (Nat × Nat) := []
abbrev wa_X4_canPlace__6 : List Nat := []
set_option maxHeartbeats 4000000 in
set_option maxRecDepth 100000 in
theorem c_X4_canPlace__6 (l : Launch) (D : va_G) (cy : Nat → ClassId) (z : Nat → Nat) (sz : Nat) (Ps : PSI) (w0 : va_W) (hT : HT cy GG Ps w0) (p0 : Nat) (p1 : Nat) (p2 : Int32) (p3 : Int32) (h_p0 : (p0, 29) ∈ Ps) (h_p1 : (p1, 25) ∈ Ps) (r_p2 : RI p2 6 6) (r_p3 : RI p3 (-2147483648) 2147483647) : Met l yX4_canPlace (Cond.code yX4_canPlace cX4_canPlace 5 (some .boolean) :: gT) ({ frames := 0, cells := 0, slots := 0, locals := 200 } : Room) (va_Pc [.ref p0, .ref p1, .int p2, .int p3] (PRE D cy z w0 sz)) (va_Qi (fun (r : Int32) (u : Unit) => RI r 1 1 ∧ (r = 0 → True) ∧ (¬ r = 0 → True)) (BB D cy (va_A w0 sz) (fun (u : Unit) => w0)) (va_A w0 sz)) 0 0 (va_A w0 sz) := by
  refine Met.ofW (cc := cX4_canPlace) (maxL := 5) (ret := (some .boolean)) (by decide) rfl ?_
  intro p e s m args below meth c s₁ B hml hv
  obtain ⟨rfl, hsz, hP, hK, hD0, hSD⟩ := hv
  have hx := B.exec
  have hb := B.bytes
  have hr := B.returns
  have hlocks := B.notSynchronized
  have hts : ∀ w ∈ gT, w.before _ s = true := fun w h => atoms_spec (ws := Cond.code yX4_canPlace cX4_canPlace 5 (some .boolean) :: gT) B.pre w (List.mem_cons_of_mem _ h)
  have hown : s.vm.findClass RX4 = some m.cls := findClass_of_methodNamed B.named
  subst hsz
  have hD := hD0.self (sz := s.heap.size)
  generalize hAe : va_A w0 s.heap.size = A at hD hSD ⊢
  have hA : ∀ q : Nat, s.heap.size ≤ q → A q := fun q h => by rw [← hAe]; exact Or.inr h
  have hl := lv_entry ([.ref p0, .ref p1, .int p2, .int p3]) (n := 5) (Nat.le_of_ble_eq_true rfl)
  rw [lg_entry_eq]
  generalize (lg_sl ([.ref p0, .ref p1, .int p2, .int p3]) ++ List.replicate (5 - (lg_sl ([.ref p0, .ref p1, .int p2, .int p3])).length) Slot.unset).toArray = ls at hl ⊢
  have hl : lv_has ls 5 [(0, .ref p0), (1, .ref p1), (2, .int p2), (3, .int p3)] := hl
  refine nameQ (fun Q hQ => ?_)
  have hw : WD D cy GG A s wr_X4_canPlace__6 wa_X4_canPlace__6 Ps w0 Ps w0 s.heap [] := ⟨hT, hP, hD, va_S.rf, FR.rf, hT.1, [], (List.append_nil _).symm⟩
  refine lv_iload_n hx hb dX4_canPlace_0 rfl (lv_at hl 2 rfl) ?_
  refine lv_aload_n hx hb dX4_canPlace_1 rfl (lv_at hl 1 rfl) ?_
  refine tg_getN (ci := 3) (ts := ty_POST) (C := RX3) (T := TX3) (N := 9) hx hb hts inX3 hown hK hw h_p1 rfl rfl 1 (by decide) (hSD.nest tn_202) (fun _ h9 => h9) (ft := vR 4) rfl dX4_canPlace_2 (fun u_1 hv_u_1 m_u_1 => ?_)
  obtain ⟨vu_1, rfl, h_vu_1⟩ := hv_u_1
  refine lv_iconst (v := 2) hx hb dX4_canPlace_5 (by decide) ?_
  refine tg_iald (lo := 0) (hi := 6) hx hb hK hw h_vu_1 rfl 2 2 rl_2 (by decide) (by decide +kernel) dX4_canPlace_6 (fun v_2 r_v_2 m_v_2 o_v_2 => ?_)
  refine lv_icmp_ge (tgt := 19) hx hb dX4_canPlace_7 (by decide) (fun c_7 => ?_) (fun c_7 => ?_)
  · refine lv_iconst (v := 1) hx hb dX4_canPlace_19 (by decide) ?_
    subst hQ
    exact W.zret (v := 1) hx hb hr (rfl) (fun t ht hW => ⟨⟨1, (), rfl, ⟨rl_1.to (by decide), (fun _ => trivial), (fun h0 => trivial)⟩, by rw [ht]; exact hw.2.1, va_K.moved hW.alike hK, hw.2.2.1⟩, hw.2.2.2.1.F ht⟩) hw.2.2.2.1.2.2 dX4_canPlace_20
  · have r_p2 : RI p2 6 5 := rc_lt1 r_p2 r_v_2 (ti_nle c_7) (by decide)
    have r_v_2 : RI v_2 7 6 := rc_lt2 r_p2 r_v_2 (ti_nle c_7) (by decide)
    exact (r_p2.no (by decide)).elim
abbrev wr_X4_canPlace__5 : List (Nat × Nat) := []
abbrev wa_X4_canPlace__5 : List Nat := [17]
set_option maxHeartbeats 4000000 in
set_option maxRecDepth 100000 in
theorem c_X4_canPlace__5 (l : Launch) (D : va_G) (cy : Nat → ClassId) (z : Nat → Nat) (sz : Nat) (Ps : PSI) (w0 : va_W) (hT : HT cy GG Ps w0) (p0 : Nat) (p1 : Nat) (p2 : Int32) (p3 : Int32) (h_p0 : (p0, 29) ∈ Ps) (h_p1 : (p1, 25) ∈ Ps) (r_p2 : RI p2 5 5) (r_p3 : RI p3 (-2147483648) 2147483647) : Met l yX4_canPlace (Cond.code yX4_canPlace cX4_canPlace 5 (some .boolean) :: gT) ({ frames := 3, cells := 0, slots := 0, locals := 600 } : Room) (va_Pc [.ref p0, .ref p1, .int p2, .int p3] (PRE D cy z w0 sz)) (va_Qi (fun (r : Int32) (u : va_W) => (RI r 0 1 ∧ (r = 0 → True) ∧ (¬ r = 0 → True)) ∧ HT cy GG Ps u ∧ FR wr_X4_canPlace__5 wa_X4_canPlace__5 Ps w0 u) (BB D cy (va_A w0 sz) (fun (u : va_W) => u)) (va_A w0 sz)) 0 0 (va_A w0 sz) := by
  refine Met.ofW (cc := cX4_canPlace) (maxL := 5) (ret := (some .boolean)) (by decide) rfl ?_
  intro p e s m args below meth c s₁ B hml hv
  obtain ⟨rfl, hsz, hP, hK, hD0, hSD⟩ := hv
  have hx := B.exec
  have hb := B.bytes
  have hr := B.returns
  have hlocks := B.notSynchronized
  have hts : ∀ w ∈ gT, w.before _ s = true := fun w h => atoms_spec (ws := Cond.code yX4_canPlace cX4_canPlace 5 (some .boolean) :: gT) B.pre w (List.mem_cons_of_mem _ h)
  have hown : s.vm.findClass RX4 = some m.cls := findClass_of_methodNamed B.named
  subst hsz
  have hD := hD0.self (sz := s.heap.size)
  generalize hAe : va_A w0 s.heap.size = A at hD hSD ⊢
  have hA : ∀ q : Nat, s.heap.size ≤ q → A q := fun q h => by rw [← hAe]; exact Or.inr h
  have hl := lv_entry ([.ref p0, .ref p1, .int p2, .int p3]) (n := 5) (Nat.le_of_ble_eq_true rfl)
  rw [lg_entry_eq]
  generalize (lg_sl ([.ref p0, .ref p1, .int p2, .int p3]) ++ List.replicate (5 - (lg_sl ([.ref p0, .ref p1, .int p2, .int p3])).length) Slot.unset).toArray = ls at hl ⊢
  have hl : lv_has ls 5 [(0, .ref p0), (1, .ref p1), (2, .int p2), (3, .int p3)] := hl
  refine nameQ (fun Q hQ => ?_)
  have hw : WD D cy GG A s wr_X4_canPlace__5 wa_X4_canPlace__5 Ps w0 Ps w0 s.heap [] := ⟨hT, hP, hD, va_S.rf, FR.rf, hT.1, [], (List.append_nil _).symm⟩
  have B24 : ∀ (nf : Nat) (x4 : Int32) (ws : va_W) (H : Heap) (locs : List Loc) (ls : Array Slot), 2147483647 - x4.toInt < (nf : Int) → RI p2 5 5 → RI p3 (-2147483648) 2147483647 → RI x4 0 2147483647 → WD D cy GG A s wr_X4_canPlace__5 wa_X4_canPlace__5 Ps w0 Ps ws H locs → lv_has ls 5 [(0, .ref p0), (1, .ref p1), (2, .int p2), (3, .int p3), (4, .int x4)] → W p l e (headSpec (Cond.code yX4_canPlace cX4_canPlace 5 (some .boolean) :: gT) ({ frames := 3, cells := 0, slots := 0, locals := 600 } : Room)).room s m ([.ref p0, .ref p1, .int p2, .int p3] : List Value).toArray below meth c H locs 0 0 Q (F0 m 24 ls []) := by
    intro nf24
    induction nf24 with
    | zero =>
      intro x4 ws H locs ls hn24 r_p2 r_p3 r_x4 hw hl
      exact absurd hn24 (by have q0 := r_x4.1; have u0 := r_x4.2; omega)
    | succ nf24 ih24 =>
      intro x4 ws H locs ls hn24 r_p2 r_p3 r_x4 hw hl
      refine lv_iload hx hb dX4_canPlace_24 (lv_at hl 4 rfl) ?_
      refine lv_iload_n hx hb dX4_canPlace_26 rfl (lv_at hl 3 rfl) ?_
      refine lv_icmp_ge (tgt := 69) hx hb dX4_canPlace_27 (by decide) (fun c_27 => ?_) (fun c_27 => ?_)
      · refine lv_iconst (v := 0) hx hb dX4_canPlace_69 (by decide) ?_
        subst hQ
        exact W.zret (v := 0) hx hb hr (rfl) (fun t ht hW => ⟨⟨0, ws, rfl, ⟨⟨rl_0.to (by decide), (fun h0 => trivial), (fun _ => trivial)⟩, hw.1, hw.2.2.2.2.1⟩, by rw [ht]; exact hw.2.1, va_K.moved hW.alike hK, hw.2.2.1⟩, hw.2.2.2.1.F ht⟩) hw.2.2.2.1.2.2 dX4_canPlace_70
      · have r_x4 : RI x4 0 2147483646 := rc_lt1 r_x4 r_p3 (ti_nle c_27) (by decide)
        have r_p3 : RI p3 1 2147483647 := rc_lt2 r_x4 r_p3 (ti_nle c_27) (by decide)
        refine lv_aload_n hx hb dX4_canPlace_30 rfl (lv_at hl 0 rfl) ?_
        refine lv_aload_n hx hb dX4_canPlace_31 rfl (lv_at hl 1 rfl) ?_
        refine lv_iload_n hx hb dX4_canPlace_32 rfl (lv_at hl 2 rfl) ?_
        refine lv_iload hx hb dX4_canPlace_33 (lv_at hl 4 rfl) ?_
        refine tk_ir (va_runV (As := [.ref p1, .int p2, .int x4]) (rest := []) ⟨hx, hb, hml, hown, hts⟩ (c_X4_isQuiet__5 l D cy z H.size Ps ws hw.1 p0 p1 p2 x4 h_p0 h_p1 r_p2 (r_x4.to (by decide))) (cwV 3 hts (gV tw_798 tw_800 ts_21 tw_8 tw_801) rfl rfl rfl (by decide +kernel) ⟨Nat.le_of_ble_eq_true rfl, Nat.le_of_ble_eq_true rfl⟩) (tg_preV hw hK hSD hA (ci := 4) (q := (RX4, TX4, 2)) rfl h_p0 rfl) rfl rfl hl.1 rfl (lv_room (Nat.le_of_ble_eq_true rfl)) dX4_canPlace_35 ⟨Nat.le_of_ble_eq_true rfl, Nat.le_of_ble_eq_true rfl⟩) hw hA (fun v_1  H locs hp_v_1 hw => ?_)
        have r_v_1 : RI v_1 0 1 := hp_v_1.1
        refine lv_if_eq (tgt := 63) hx hb dX4_canPlace_38 (by decide) (fun c_38 => ?_) (fun c_38 => ?_)
        · have r_v_1 : RI v_1 0 0 := rc_eq1 r_v_1 rl_0 (ti_eq c_38) (by decide)
          obtain ⟨v_2, e_v_2⟩ : ∃ q9 : Int32, q9 = x4 + Int32.ofInt 1 := ⟨_, rfl⟩
          obtain ⟨t_v_2, r_v_2⟩ := tq_add (lo := 1) (hi := 2147483647) r_x4 (show RI (Int32.ofInt 1) 1 1 by unfold RI; decide +kernel) (by decide +kernel) e_v_2
          have t_v_2 : v_2.toInt = x4.toInt + 1 := t_v_2
          refine lv_iinc (v := v_2) (lv' := [(4, .int v_2), (0, .ref p0), (1, .ref p1), (2, .int p2), (3, .int p3)]) hx hb dX4_canPlace_63 hl (k := 4) rfl e_v_2.symm (by decide) rfl (fun ls hl => ?_)
          refine lv_goto (tgt := 24) hx hb dX4_canPlace_66 (by decide) ?_
          exact ih24 v_2 ws _ _ ls (by have q0 := r_v_2.1; have u0 := r_v_2.2; have o0 := r_x4.1; have p0 := r_x4.2; omega) r_p2 (r_p3.to (by decide)) (r_v_2.to (by decide)) hw (lv_sub hl [1, 2, 3, 4, 0] rfl)
        · have r_v_1 : RI v_1 1 1 := rc_neL r_v_1 rl_0 (ti_ne c_38) (by decide)
          refine lv_aload_n hx hb dX4_canPlace_41 rfl (lv_at hl 0 rfl) ?_
          refine tg_get (ci := 4) (ts := ty_ROOMS) (C := RX4) (T := TX4) (N := 2) hx hb hts inX4 hown hK hw h_p0 rfl rfl 1 (by decide) (hts _ tw_170) (fun _ h9 => h9) (ft := vR 17) rfl dX4_canPlace_42 (fun u_3 hv_u_3 m_u_3 => ?_)
          obtain ⟨vu_3, rfl, h_vu_3⟩ := hv_u_3
          refine lv_iload_n hx hb dX4_canPlace_45 rfl (lv_at hl 2 rfl) ?_
          refine lv_iload hx hb dX4_canPlace_46 (lv_at hl 4 rfl) ?_
          refine tg_iast hx hb hK hw h_vu_3 rfl 5 5 r_p2 (by decide) r_x4 (by exact fun _ _ _ => by decide) (fun _ _ _ _ _ => trivial) (by decide) dX4_canPlace_48 (fun ws H locs hw hF9 hU9 => ?_)
          refine lv_aload_n hx hb dX4_canPlace_49 rfl (lv_at hl 0 rfl) ?_
          refine lv_aload_n hx hb dX4_canPlace_50 rfl (lv_at hl 1 rfl) ?_
          refine lv_iload_n hx hb dX4_canPlace_51 rfl (lv_at hl 2 rfl) ?_
          refine lv_iconst (v := 1) hx hb dX4_canPlace_52 (by decide) ?_
          refine lv_iadd hx hb dX4_canPlace_53 (lv_topi (fun v_4 e_v_4 => ?_))
          obtain ⟨t_v_4, r_v_4⟩ := tq_add (lo := 6) (hi := 6) r_p2 rl_1 (by decide +kernel) e_v_4
          have t_v_4 : v_4.toInt = p2.toInt + 1 := t_v_4
          refine lv_iload_n hx hb dX4_canPlace_54 rfl (lv_at hl 3 rfl) ?_
          refine tk_ir (va_runV (As := [.ref p1, .int v_4, .int p3]) (rest := []) ⟨hx, hb, hml, hown, hts⟩ (c_X4_canPlace__6 l D cy z H.size Ps ws hw.1 p0 p1 v_4 p3 h_p0 h_p1 r_v_4 (r_p3.to (by decide))) (cwV 3 hts (gV tw_794 tw_796 ts_20 tw_8 tw_797) rfl rfl rfl (by decide +kernel) ⟨Nat.le_of_ble_eq_true rfl, Nat.le_of_ble_eq_true rfl⟩) (tg_preV hw hK hSD hA (ci := 4) (q := (RX4, TX4, 2)) rfl h_p0 rfl) rfl rfl hl.1 rfl (lv_room (Nat.le_of_ble_eq_true rfl)) dX4_canPlace_55 ⟨Nat.le_of_ble_eq_true rfl, Nat.le_of_ble_eq_true rfl⟩) hw hA (fun v_5  H locs hp_v_5 hw => ?_)
          have r_v_5 : RI v_5 1 1 := hp_v_5.1
          refine lv_if_eq (tgt := 63) hx hb dX4_canPlace_58 (by decide) (fun c_58 => ?_) (fun c_58 => ?_)
          · have r_v_5 : RI v_5 1 0 := rc_eq1 r_v_5 rl_0 (ti_eq c_58) (by decide)
            exact (r_v_5.no (by decide)).elim
          · refine lv_iconst (v := 1) hx hb dX4_canPlace_61 (by decide) ?_
            subst hQ
            exact W.zret (v := 1) hx hb hr (rfl) (fun t ht hW => ⟨⟨1, ws, rfl, ⟨⟨rl_1.to (by decide), (fun _ => trivial), (fun h0 => trivial)⟩, hw.1, hw.2.2.2.2.1⟩, by rw [ht]; exact hw.2.1, va_K.moved hW.alike hK, hw.2.2.1⟩, hw.2.2.2.1.F ht⟩) hw.2.2.2.1.2.2 dX4_canPlace_62
  refine lv_iload_n hx hb dX4_canPlace_0 rfl (lv_at hl 2 rfl) ?_
  refine lv_aload_n hx hb dX4_canPlace_1 rfl (lv_at hl 1 rfl) ?_
  refine tg_getN (ci := 3) (ts := ty_POST) (C := RX3) (T := TX3) (N := 9) hx hb hts inX3 hown hK hw h_p1 rfl rfl 1 (by decide) (hSD.nest tn_202) (fun _ h9 => h9) (ft := vR 4) rfl dX4_canPlace_2 (fun u_6 hv_u_6 m_u_6 => ?_)
  obtain ⟨vu_6, rfl, h_vu_6⟩ := hv_u_6
  refine lv_iconst (v := 2) hx hb dX4_canPlace_5 (by decide) ?_
  refine tg_iald (lo := 0) (hi := 6) hx hb hK hw h_vu_6 rfl 2 2 rl_2 (by decide) (by decide +kernel) dX4_canPlace_6 (fun v_7 r_v_7 m_v_7 o_v_7 => ?_)
  refine lv_icmp_ge (tgt := 19) hx hb dX4_canPlace_7 (by decide) (fun c_7 => ?_) (fun c_7 => ?_)
  · have r_v_7 : RI v_7 0 5 := rc_le1 r_v_7 r_p2 (ti_le c_7) (by decide)
    refine lv_iconst (v := 1) hx hb dX4_canPlace_19 (by decide) ?_
    subst hQ
    exact W.zret (v := 1) hx hb hr (rfl) (fun t ht hW => ⟨⟨1, w0, rfl, ⟨⟨rl_1.to (by decide), (fun _ => trivial), (fun h0 => trivial)⟩, hw.1, hw.2.2.2.2.1⟩, by rw [ht]; exact hw.2.1, va_K.moved hW.alike hK, hw.2.2.1⟩, hw.2.2.2.1.F ht⟩) hw.2.2.2.1.2.2 dX4_canPlace_20
  · have r_v_7 : RI v_7 6 6 := rc_lt2 r_p2 r_v_7 (ti_nle c_7) (by decide)
    refine lv_iload_n hx hb dX4_canPlace_10 rfl (lv_at hl 2 rfl) ?_
    refine lv_aload_n hx hb dX4_canPlace_11 rfl (lv_at hl 0 rfl) ?_
    refine tg_get (ci := 4) (ts := ty_ROOMS) (C := RX4) (T := TX4) (N := 2) hx hb hts inX4 hown hK hw h_p0 rfl rfl 1 (by decide) (hts _ tw_170) (fun _ h9 => h9) (ft := vR 17) rfl dX4_canPlace_12 (fun u_8 hv_u_8 m_u_8 => ?_)
    obtain ⟨vu_8, rfl, h_vu_8⟩ := hv_u_8
    refine tg_alenI (t0 := 1) (v := 6) hx hb hK hw h_vu_8 rfl rfl rfl dX4_canPlace_15 ?_
    refine lv_icmp_lt (tgt := 21) hx hb dX4_canPlace_16 (by decide) (fun c_16 => ?_) (fun c_16 => ?_)
    · refine lv_iconst (v := 0) hx hb dX4_canPlace_21 (by decide) ?_
      refine lv_istore (lv' := [(4, .int 0), (0, .ref p0), (1, .ref p1), (2, .int p2), (3, .int p3)]) hx hb dX4_canPlace_22 hl (by decide) rfl (fun ls hl => ?_)
      exact B24 4294967298 0 w0 _ _ ls (by have q0 := rl_0.1; have u0 := rl_0.2; omega) r_p2 r_p3 (rl_0.to (by decide)) hw (lv_sub hl [1, 2, 3, 4, 0] rfl)
    · have r_p2 : RI p2 6 5 := rc_le2 rl_6 r_p2 (ti_nlt c_16) (by decide)
      exact (r_p2.no (by decide)).elim
abbrev wr_X4_canPlace__4 : List (Nat × Nat) := []
abbrev wa_X4_canPlace__4 : List Nat := [17]
set_option maxHeartbeats 4000000 in
set_option maxRecDepth 100000 in
theorem c_X4_canPlace__4 (l : Launch) (D : va_G) (cy : Nat → ClassId) (z : Nat → Nat) (sz : Nat) (Ps : PSI) (w0 : va_W) (hT : HT cy GG Ps w0) (p0 : Nat) (p1 : Nat) (p2 : Int32) (p3 : Int32) (h_p0 : (p0, 29) ∈ Ps) (h_p1 : (p1, 25) ∈ Ps) (r_p2 : RI p2 4 4) (r_p3 : RI p3 (-2147483648) 2147483647) : Met l yX4_canPlace (Cond.code yX4_canPlace cX4_canPlace 5 (some .boolean) :: gT) ({ frames := 4, cells := 0, slots := 0, locals := 800 } : Room) (va_Pc [.ref p0, .ref p1, .int p2, .int p3] (PRE D cy z w0 sz)) (va_Qi (fun (r : Int32) (u : va_W) => (RI r 0 1 ∧ (r = 0 → True) ∧ (¬ r = 0 → True)) ∧ HT cy GG Ps u ∧ FR wr_X4_canPlace__4 wa_X4_canPlace__4 Ps w0 u) (BB D cy (va_A w0 sz) (fun (u : va_W) => u)) (va_A w0 sz)) 0 0 (va_A w0 sz) := by
  refine Met.ofW (cc := cX4_canPlace) (maxL := 5) (ret := (some .boolean)) (by decide) rfl ?_
  intro p e s m args below meth c s₁ B hml hv
  obtain ⟨rfl, hsz, hP, hK, hD0, hSD⟩ := hv
  have hx := B.exec
  have hb := B.bytes
  have hr := B.returns
  have hlocks := B.notSynchronized
  have hts : ∀ w ∈ gT, w.before _ s = true := fun w h => atoms_spec (ws := Cond.code yX4_canPlace cX4_canPlace 5 (some .boolean) :: gT) B.pre w (List.mem_cons_of_mem _ h)
  have hown : s.vm.findClass RX4 = some m.cls := findClass_of_methodNamed B.named
  subst hsz
  have hD := hD0.self (sz := s.heap.size)
  generalize hAe : va_A w0 s.heap.size = A at hD hSD ⊢
  have hA : ∀ q : Nat, s.heap.size ≤ q → A q := fun q h => by rw [← hAe]; exact Or.inr h
  have hl := lv_entry ([.ref p0, .ref p1, .int p2, .int p3]) (n := 5) (Nat.le_of_ble_eq_true rfl)
  rw [lg_entry_eq]
  generalize (lg_sl ([.ref p0, .ref p1, .int p2, .int p3]) ++ List.replicate (5 - (lg_sl ([.ref p0, .ref p1, .int p2, .int p3])).length) Slot.unset).toArray = ls at hl ⊢
  have hl : lv_has ls 5 [(0, .ref p0), (1, .ref p1), (2, .int p2), (3, .int p3)] := hl
  refine nameQ (fun Q hQ => ?_)
  have hw : WD D cy GG A s wr_X4_canPlace__4 wa_X4_canPlace__4 Ps w0 Ps w0 s.heap [] := ⟨hT, hP, hD, va_S.rf, FR.rf, hT.1, [], (List.append_nil _).symm⟩
  have B24 : ∀ (nf : Nat) (x4 : Int32) (ws : va_W) (H : Heap) (locs : List Loc) (ls : Array Slot), 2147483647 - x4.toInt < (nf : Int) → RI p2 4 4 → RI p3 (-2147483648) 2147483647 → RI x4 0 2147483647 → WD D cy GG A s wr_X4_canPlace__4 wa_X4_canPlace__4 Ps w0 Ps ws H locs → lv_has ls 5 [(0, .ref p0), (1, .ref p1), (2, .int p2), (3, .int p3), (4, .int x4)] → W p l e (headSpec (Cond.code yX4_canPlace cX4_canPlace 5 (some .boolean) :: gT) ({ frames := 4, cells := 0, slots := 0, locals := 800 } : Room)).room s m ([.ref p0, .ref p1, .int p2, .int p3] : List Value).toArray below meth c H locs 0 0 Q (F0 m 24 ls []) := by
    intro nf24
    induction nf24 with
    | zero =>
      intro x4 ws H locs ls hn24 r_p2 r_p3 r_x4 hw hl
      exact absurd hn24 (by have q0 := r_x4.1; have u0 := r_x4.2; omega)
    | succ nf24 ih24 =>
      intro x4 ws H locs ls hn24 r_p2 r_p3 r_x4 hw hl
      refine lv_iload hx hb dX4_canPlace_24 (lv_at hl 4 rfl) ?_
      refine lv_iload_n hx hb dX4_canPlace_26 rfl (lv_at hl 3 rfl) ?_
      refine lv_icmp_ge (tgt := 69) hx hb dX4_canPlace_27 (by decide) (fun c_27 => ?_) (fun c_27 => ?_)
      · refine lv_iconst (v := 0) hx hb dX4_canPlace_69 (by decide) ?_
        subst hQ
        exact W.zret (v := 0) hx hb hr (rfl) (fun t ht hW => ⟨⟨0, ws, rfl, ⟨⟨rl_0.to (by decide), (fun h0 => trivial), (fun _ => trivial)⟩, hw.1, hw.2.2.2.2.1⟩, by rw [ht]; exact hw.2.1, va_K.moved hW.alike hK, hw.2.2.1⟩, hw.2.2.2.1.F ht⟩) hw.2.2.2.1.2.2 dX4_canPlace_70
      · have r_x4 : RI x4 0 2147483646 := rc_lt1 r_x4 r_p3 (ti_nle c_27) (by decide)
        have r_p3 : RI p3 1 2147483647 := rc_lt2 r_x4 r_p3 (ti_nle c_27) (by decide)
        refine lv_aload_n hx hb dX4_canPlace_30 rfl (lv_at hl 0 rfl) ?_
        refine lv_aload_n hx hb dX4_canPlace_31 rfl (lv_at hl 1 rfl) ?_
        refine lv_iload_n hx hb dX4_canPlace_32 rfl (lv_at hl 2 rfl) ?_
        refine lv_iload hx hb dX4_canPlace_33 (lv_at hl 4 rfl) ?_
        refine tk_ir (va_runV (As := [.ref p1, .int p2, .int x4]) (rest := []) ⟨hx, hb, hml, hown, hts⟩ (c_X4_isQuiet__4 l D cy z H.size Ps ws hw.1 p0 p1 p2 x4 h_p0 h_p1 r_p2 (r_x4.to (by decide))) (cwV 3 hts (gV tw_798 tw_800 ts_21 tw_8 tw_801) rfl rfl rfl (by decide +kernel) ⟨Nat.le_of_ble_eq_true rfl, Nat.le_of_ble_eq_true rfl⟩) (tg_preV hw hK hSD hA (ci := 4) (q := (RX4, TX4, 2)) rfl h_p0 rfl) rfl rfl hl.1 rfl (lv_room (Nat.le_of_ble_eq_true rfl)) dX4_canPlace_35 ⟨Nat.le_of_ble_eq_true rfl, Nat.le_of_ble_eq_true rfl⟩) hw hA (fun v_1  H locs hp_v_1 hw => ?_)
        have r_v_1 : RI v_1 0 1 := hp_v_1.1
        refine lv_if_eq (tgt := 63) hx hb dX4_canPlace_38 (by decide) (fun c_38 => ?_) (fun c_38 => ?_)
        · have r_v_1 : RI v_1 0 0 := rc_eq1 r_v_1 rl_0 (ti_eq c_38) (by decide)
          obtain ⟨v_2, e_v_2⟩ : ∃ q9 : Int32, q9 = x4 + Int32.ofInt 1 := ⟨_, rfl⟩
          obtain ⟨t_v_2, r_v_2⟩ := tq_add (lo := 1) (hi := 2147483647) r_x4 (show RI (Int32.ofInt 1) 1 1 by unfold RI; decide +kernel) (by decide +kernel) e_v_2
          have t_v_2 : v_2.toInt = x4.toInt + 1 := t_v_2
          refine lv_iinc (v := v_2) (lv' := [(4, .int v_2), (0, .ref p0), (1, .ref p1), (2, .int p2), (3, .int p3)]) hx hb dX4_canPlace_63 hl (k := 4) rfl e_v_2.symm (by decide) rfl (fun ls hl => ?_)
          refine lv_goto (tgt := 24) hx hb dX4_canPlace_66 (by decide) ?_
          exact ih24 v_2 ws _ _ ls (by have q0 := r_v_2.1; have u0 := r_v_2.2; have o0 := r_x4.1; have p0 := r_x4.2; omega) r_p2 (r_p3.to (by decide)) (r_v_2.to (by decide)) hw (lv_sub hl [1, 2, 3, 4, 0] rfl)
        · have r_v_1 : RI v_1 1 1 := rc_neL r_v_1 rl_0 (ti_ne c_38) (by decide)
          refine lv_aload_n hx hb dX4_canPlace_41 rfl (lv_at hl 0 rfl) ?_
          refine tg_get (ci := 4) (ts := ty_ROOMS) (C := RX4) (T := TX4) (N := 2) hx hb hts inX4 hown hK hw h_p0 rfl rfl 1 (by decide) (hts _ tw_170) (fun _ h9 => h9) (ft := vR 17) rfl dX4_canPlace_42 (fun u_3 hv_u_3 m_u_3 => ?_)
          obtain ⟨vu_3, rfl, h_vu_3⟩ := hv_u_3
          refine lv_iload_n hx hb dX4_canPlace_45 rfl (lv_at hl 2 rfl) ?_
          refine lv_iload hx hb dX4_canPlace_46 (lv_at hl 4 rfl) ?_
          refine tg_iast hx hb hK hw h_vu_3 rfl 4 4 r_p2 (by decide) r_x4 (by exact fun _ _ _ => by decide) (fun _ _ _ _ _ => trivial) (by decide) dX4_canPlace_48 (fun ws H locs hw hF9 hU9 => ?_)
          refine lv_aload_n hx hb dX4_canPlace_49 rfl (lv_at hl 0 rfl) ?_
          refine lv_aload_n hx hb dX4_canPlace_50 rfl (lv_at hl 1 rfl) ?_
          refine lv_iload_n hx hb dX4_canPlace_51 rfl (lv_at hl 2 rfl) ?_
          refine lv_iconst (v := 1) hx hb dX4_canPlace_52 (by decide) ?_
          refine lv_iadd hx hb dX4_canPlace_53 (lv_topi (fun v_4 e_v_4 => ?_))
          obtain ⟨t_v_4, r_v_4⟩ := tq_add (lo := 5) (hi := 5) r_p2 rl_1 (by decide +kernel) e_v_4
          have t_v_4 : v_4.toInt = p2.toInt + 1 := t_v_4
          refine lv_iload_n hx hb dX4_canPlace_54 rfl (lv_at hl 3 rfl) ?_
          refine tk_i (va_runV (As := [.ref p1, .int v_4, .int p3]) (rest := []) ⟨hx, hb, hml, hown, hts⟩ (c_X4_canPlace__5 l D cy z H.size Ps ws hw.1 p0 p1 v_4 p3 h_p0 h_p1 r_v_4 (r_p3.to (by decide))) (cwV 3 hts (gV tw_794 tw_796 ts_20 tw_8 tw_797) rfl rfl rfl (by decide +kernel) ⟨Nat.le_of_ble_eq_true rfl, Nat.le_of_ble_eq_true rfl⟩) (tg_preV hw hK hSD hA (ci := 4) (q := (RX4, TX4, 2)) rfl h_p0 rfl) rfl rfl hl.1 rfl (lv_room (Nat.le_of_ble_eq_true rfl)) dX4_canPlace_55 ⟨Nat.le_of_ble_eq_true rfl, Nat.le_of_ble_eq_true rfl⟩) hw hA ⟨by decide, by decide⟩ (fun v_5 ws H locs hp_v_5 hw hF9 => ?_)
          have r_v_5 : RI v_5 0 1 := hp_v_5.1
          refine lv_if_eq (tgt := 63) hx hb dX4_canPlace_58 (by decide) (fun c_58 => ?_) (fun c_58 => ?_)
          · have r_v_5 : RI v_5 0 0 := rc_eq1 r_v_5 rl_0 (ti_eq c_58) (by decide)
            obtain ⟨v_6, e_v_6⟩ : ∃ q9 : Int32, q9 = x4 + Int32.ofInt 1 := ⟨_, rfl⟩
            obtain ⟨t_v_6, r_v_6⟩ := tq_add (lo := 1) (hi := 2147483647) r_x4 (show RI (Int32.ofInt 1) 1 1 by unfold RI; decide +kernel) (by decide +kernel) e_v_6
            have t_v_6 : v_6.toInt = x4.toInt + 1 := t_v_6
            refine lv_iinc (v := v_6) (lv' := [(4, .int v_6), (0, .ref p0), (1, .ref p1), (2, .int p2), (3, .int p3)]) hx hb dX4_canPlace_63 hl (k := 4) rfl e_v_6.symm (by decide) rfl (fun ls hl => ?_)
            refine lv_goto (tgt := 24) hx hb dX4_canPlace_66 (by decide) ?_
            exact ih24 v_6 ws _ _ ls (by have q0 := r_v_6.1; have u0 := r_v_6.2; have o0 := r_x4.1; have p0 := r_x4.2; omega) r_p2 (r_p3.to (by decide)) (r_v_6.to (by decide)) hw (lv_sub hl [1, 2, 3, 4, 0] rfl)
          · have r_v_5 : RI v_5 1 1 := rc_neL r_v_5 rl_0 (ti_ne c_58) (by decide)
            refine lv_iconst (v := 1) hx hb dX4_canPlace_61 (by decide) ?_
            subst hQ
            exact W.zret (v := 1) hx hb hr (rfl) (fun t ht hW => ⟨⟨1, ws, rfl, ⟨⟨rl_1.to (by decide), (fun _ => trivial), (fun h0 => trivial)⟩, hw.1, hw.2.2.2.2.1⟩, by rw [ht]; exact hw.2.1, va_K.moved hW.alike hK, hw.2.2.1⟩, hw.2.2.2.1.F ht⟩) hw.2.2.2.1.2.2 dX4_canPlace_62
  refine lv_iload_n hx hb dX4_canPlace_0 rfl (lv_at hl 2 rfl) ?_
  refine lv_aload_n hx hb dX4_canPlace_1 rfl (lv_at hl 1 rfl) ?_
  refine tg_getN (ci := 3) (ts := ty_POST) (C := RX3) (T := TX3) (N := 9) hx hb hts inX3 hown hK hw h_p1 rfl rfl 1 (by decide) (hSD.nest tn_202) (fun _ h9 => h9) (ft := vR 4) rfl dX4_canPlace_2 (fun u_7 hv_u_7 m_u_7 => ?_)
  obtain ⟨vu_7, rfl, h_vu_7⟩ := hv_u_7
  refine lv_iconst (v := 2) hx hb dX4_canPlace_5 (by decide) ?_
  refine tg_iald (lo := 0) (hi := 6) hx hb hK hw h_vu_7 rfl 2 2 rl_2 (by decide) (by decide +kernel) dX4_canPlace_6 (fun v_8 r_v_8 m_v_8 o_v_8 => ?_)
  refine lv_icmp_ge (tgt := 19) hx hb dX4_canPlace_7 (by decide) (fun c_7 => ?_) (fun c_7 => ?_)
  · have r_v_8 : RI v_8 0 4 := rc_le1 r_v_8 r_p2 (ti_le c_7) (by decide)
    refine lv_iconst (v := 1) hx hb dX4_canPlace_19 (by decide) ?_
    subst hQ
    exact W.zret (v := 1) hx hb hr (rfl) (fun t ht hW => ⟨⟨1, w0, rfl, ⟨⟨rl_1.to (by decide), (fun _ => trivial), (fun h0 => trivial)⟩, hw.1, hw.2.2.2.2.1⟩, by rw [ht]; exact hw.2.1, va_K.moved hW.alike hK, hw.2.2.1⟩, hw.2.2.2.1.F ht⟩) hw.2.2.2.1.2.2 dX4_canPlace_20
  · have r_v_8 : RI v_8 5 6 := rc_lt2 r_p2 r_v_8 (ti_nle c_7) (by decide)
    refine lv_iload_n hx hb dX4_canPlace_10 rfl (lv_at hl 2 rfl) ?_
    refine lv_aload_n hx hb dX4_canPlace_11 rfl (lv_at hl 0 rfl) ?_
    refine tg_get (ci := 4) (ts := ty_ROOMS) (C := RX4) (T := TX4) (N := 2) hx hb hts inX4 hown hK hw h_p0 rfl rfl 1 (by decide) (hts _ tw_170) (fun _ h9 => h9) (ft := vR 17) rfl dX4_canPlace_12 (fun u_9 hv_u_9 m_u_9 => ?_)
    obtain ⟨vu_9, rfl, h_vu_9⟩ := hv_u_9
    refine tg_alenI (t0 := 1) (v := 6) hx hb hK hw h_vu_9 rfl rfl rfl dX4_canPlace_15 ?_
    refine lv_icmp_lt (tgt := 21) hx hb dX4_canPlace_16 (by decide) (fun c_16 => ?_) (fun c_16 => ?_)
    · refine lv_iconst (v := 0) hx hb dX4_canPlace_21 (by decide) ?_
      refine lv_istore (lv' := [(4, .int 0), (0, .ref p0), (1, .ref p1), (2, .int p2), (3, .int p3)]) hx hb dX4_canPlace_22 hl (by decide) rfl (fun ls hl => ?_)
      exact B24 4294967298 0 w0 _ _ ls (by have q0 := rl_0.1; have u0 := rl_0.2; omega) r_p2 r_p3 (rl_0.to (by decide)) hw (lv_sub hl [1, 2, 3, 4, 0] rfl)
    · have r_p2 : RI p2 6 4 := rc_le2 rl_6 r_p2 (ti_nlt c_16) (by decide)
      exact (r_p2.no (by decide)).elim
abbrev wr_X4_canPlace__3 : List (Nat × Nat) := []
abbrev wa_X4_canPlace__3 : List Nat := [17]
set_option maxHeartbeats 4000000 in
set_option maxRecDepth 100000 in
theorem c_X4_canPlace__3 (l : Launch) (D : va_G) (cy : Nat → ClassId) (z : Nat → Nat) (sz : Nat) (Ps : PSI) (w0 : va_W) (hT : HT cy GG Ps w0) (p0 : Nat) (p1 : Nat) (p2 : Int32) (p3 : Int32) (h_p0 : (p0, 29) ∈ Ps) (h_p1 : (p1, 25) ∈ Ps) (r_p2 : RI p2 3 3) (r_p3 : RI p3 (-2147483648) 2147483647) : Met l yX4_canPlace (Cond.code yX4_canPlace cX4_canPlace 5 (some .boolean) :: gT) ({ frames := 5, cells := 0, slots := 0, locals := 1000 } : Room) (va_Pc [.ref p0, .ref p1, .int p2, .int p3] (PRE D cy z w0 sz)) (va_Qi (fun (r : Int32) (u : va_W) => (RI r 0 1 ∧ (r = 0 → True) ∧ (¬ r = 0 → True)) ∧ HT cy GG Ps u ∧ FR wr_X4_canPlace__3 wa_X4_canPlace__3 Ps w0 u) (BB D cy (va_A w0 sz) (fun (u : va_W) => u)) (va_A w0 sz)) 0 0 (va_A w0 sz) := by
  refine Met.ofW (cc := cX4_canPlace) (maxL := 5) (ret := (some .boolean)) (by decide) rfl ?_
  intro p e s m args below meth c s₁ B hml hv
  obtain ⟨rfl, hsz, hP, hK, hD0, hSD⟩ := hv
  have hx := B.exec
  have hb := B.bytes
  have hr := B.returns
  have hlocks := B.notSynchronized
  have hts : ∀ w ∈ gT, w.before _ s = true := fun w h => atoms_spec (ws := Cond.code yX4_canPlace cX4_canPlace 5 (some .boolean) :: gT) B.pre w (List.mem_cons_of_mem _ h)
  have hown : s.vm.findClass RX4 = some m.cls := findClass_of_methodNamed B.named
  subst hsz
  have hD := hD0.self (sz := s.heap.size)
  generalize hAe : va_A w0 s.heap.size = A at hD hSD ⊢
  have hA : ∀ q : Nat, s.heap.size ≤ q → A q := fun q h => by rw [← hAe]; exact Or.inr h
  have hl := lv_entry ([.ref p0, .ref p1, .int p2, .int p3]) (n := 5) (Nat.le_of_ble_eq_true rfl)
  rw [lg_entry_eq]
  generalize (lg_sl ([.ref p0, .ref p1, .int p2, .int p3]) ++ List.replicate (5 - (lg_sl ([.ref p0, .ref p1, .int p2, .int p3])).length) Slot.unset).toArray = ls at hl ⊢
  have hl : lv_has ls 5 [(0, .ref p0), (1, .ref p1), (2, .int p2), (3, .int p3)] := hl
  refine nameQ (fun Q hQ => ?_)
  have hw : WD D cy GG A s wr_X4_canPlace__3 wa_X4_canPlace__3 Ps w0 Ps w0 s.heap [] := ⟨hT, hP, hD, va_S.rf, FR.rf, hT.1, [], (List.append_nil _).symm⟩
  have B24 : ∀ (nf : Nat) (x4 : Int32) (ws : va_W) (H : Heap) (locs : List Loc) (ls : Array Slot), 2147483647 - x4.toInt < (nf : Int) → RI p2 3 3 → RI p3 (-2147483648) 2147483647 → RI x4 0 2147483647 → WD D cy GG A s wr_X4_canPlace__3 wa_X4_canPlace__3 Ps w0 Ps ws H locs → lv_has ls 5 [(0, .ref p0), (1, .ref p1), (2, .int p2), (3, .int p3), (4, .int x4)] → W p l e (headSpec (Cond.code yX4_canPlace cX4_canPlace 5 (some .boolean) :: gT) ({ frames := 5, cells := 0, slots := 0, locals := 1000 } : Room)).room s m ([.ref p0, .ref p1, .int p2, .int p3] : List Value).toArray below meth c H locs 0 0 Q (F0 m 24 ls []) := by
    intro nf24
    induction nf24 with
    | zero =>
      intro x4 ws H locs ls hn24 r_p2 r_p3 r_x4 hw hl
      exact absurd hn24 (by have q0 := r_x4.1; have u0 := r_x4.2; omega)
    | succ nf24 ih24 =>
      intro x4 ws H locs ls hn24 r_p2 r_p3 r_x4 hw hl
      refine lv_iload hx hb dX4_canPlace_24 (lv_at hl 4 rfl) ?_
      refine lv_iload_n hx hb dX4_canPlace_26 rfl (lv_at hl 3 rfl) ?_
      refine lv_icmp_ge (tgt := 69) hx hb dX4_canPlace_27 (by decide) (fun c_27 => ?_) (fun c_27 => ?_)
      · refine lv_iconst (v := 0) hx hb dX4_canPlace_69 (by decide) ?_
        subst hQ
        exact W.zret (v := 0) hx hb hr (rfl) (fun t ht hW => ⟨⟨0, ws, rfl, ⟨⟨rl_0.to (by decide), (fun h0 => trivial), (fun _ => trivial)⟩, hw.1, hw.2.2.2.2.1⟩, by rw [ht]; exact hw.2.1, va_K.moved hW.alike hK, hw.2.2.1⟩, hw.2.2.2.1.F ht⟩) hw.2.2.2.1.2.2 dX4_canPlace_70
      · have r_x4 : RI x4 0 2147483646 := rc_lt1 r_x4 r_p3 (ti_nle c_27) (by decide)
        have r_p3 : RI p3 1 2147483647 := rc_lt2 r_x4 r_p3 (ti_nle c_27) (by decide)
        refine lv_aload_n hx hb dX4_canPlace_30 rfl (lv_at hl 0 rfl) ?_
        refine lv_aload_n hx hb dX4_canPlace_31 rfl (lv_at hl 1 rfl) ?_
        refine lv_iload_n hx hb dX4_canPlace_32 rfl (lv_at hl 2 rfl) ?_
        refine lv_iload hx hb dX4_canPlace_33 (lv_at hl 4 rfl) ?_
        refine tk_ir (va_runV (As := [.ref p1, .int p2, .int x4]) (rest := []) ⟨hx, hb, hml, hown, hts⟩ (c_X4_isQuiet__3 l D cy z H.size Ps ws hw.1 p0 p1 p2 x4 h_p0 h_p1 r_p2 (r_x4.to (by decide))) (cwV 3 hts (gV tw_798 tw_800 ts_21 tw_8 tw_801) rfl rfl rfl (by decide +kernel) ⟨Nat.le_of_ble_eq_true rfl, Nat.le_of_ble_eq_true rfl⟩) (tg_preV hw hK hSD hA (ci := 4) (q := (RX4, TX4, 2)) rfl h_p0 rfl) rfl rfl hl.1 rfl (lv_room (Nat.le_of_ble_eq_true rfl)) dX4_canPlace_35 ⟨Nat.le_of_ble_eq_true rfl, Nat.le_of_ble_eq_true rfl⟩) hw hA (fun v_1  H locs hp_v_1 hw => ?_)
        have r_v_1 : RI v_1 0 1 := hp_v_1.1
        refine lv_if_eq (tgt := 63) hx hb dX4_canPlace_38 (by decide) (fun c_38 => ?_) (fun c_38 => ?_)
        · have r_v_1 : RI v_1 0 0 := rc_eq1 r_v_1 rl_0 (ti_eq c_38) (by decide)
          obtain ⟨v_2, e_v_2⟩ : ∃ q9 : Int32, q9 = x4 + Int32.ofInt 1 := ⟨_, rfl⟩
          obtain ⟨t_v_2, r_v_2⟩ := tq_add (lo := 1) (hi := 2147483647) r_x4 (show RI (Int32.ofInt 1) 1 1 by unfold RI; decide +kernel) (by decide +kernel) e_v_2
          have t_v_2 : v_2.toInt = x4.toInt + 1 := t_v_2
          refine lv_iinc (v := v_2) (lv' := [(4, .int v_2), (0, .ref p0), (1, .ref p1), (2, .int p2), (3, .int p3)]) hx hb dX4_canPlace_63 hl (k := 4) rfl e_v_2.symm (by decide) rfl (fun ls hl => ?_)
          refine lv_goto (tgt := 24) hx hb dX4_canPlace_66 (by decide) ?_
          exact ih24 v_2 ws _ _ ls (by have q0 := r_v_2.1; have u0 := r_v_2.2; have o0 := r_x4.1; have p0 := r_x4.2; omega) r_p2 (r_p3.to (by decide)) (r_v_2.to (by decide)) hw (lv_sub hl [1, 2, 3, 4, 0] rfl)
        · have r_v_1 : RI v_1 1 1 := rc_neL r_v_1 rl_0 (ti_ne c_38) (by decide)
          refine lv_aload_n hx hb dX4_canPlace_41 rfl (lv_at hl 0 rfl) ?_
          refine tg_get (ci := 4) (ts := ty_ROOMS) (C := RX4) (T := TX4) (N := 2) hx hb hts inX4 hown hK hw h_p0 rfl rfl 1 (by decide) (hts _ tw_170) (fun _ h9 => h9) (ft := vR 17) rfl dX4_canPlace_42 (fun u_3 hv_u_3 m_u_3 => ?_)
          obtain ⟨vu_3, rfl, h_vu_3⟩ := hv_u_3
          refine lv_iload_n hx hb dX4_canPlace_45 rfl (lv_at hl 2 rfl) ?_
          refine lv_iload hx hb dX4_canPlace_46 (lv_at hl 4 rfl) ?_
          refine tg_iast hx hb hK hw h_vu_3 rfl 3 3 r_p2 (by decide) r_x4 (by exact fun _ _ _ => by decide) (fun _ _ _ _ _ => trivial) (by decide) dX4_canPlace_48 (fun ws H locs hw hF9 hU9 => ?_)
          refine lv_aload_n hx hb dX4_canPlace_49 rfl (lv_at hl 0 rfl) ?_
          refine lv_aload_n hx hb dX4_canPlace_50 rfl (lv_at hl 1 rfl) ?_
          refine lv_iload_n hx hb dX4_canPlace_51 rfl (lv_at hl 2 rfl) ?_
          refine lv_iconst (v := 1) hx hb dX4_canPlace_52 (by decide) ?_
          refine lv_iadd hx hb dX4_canPlace_53 (lv_topi (fun v_4 e_v_4 => ?_))
          obtain ⟨t_v_4, r_v_4⟩ := tq_add (lo := 4) (hi := 4) r_p2 rl_1 (by decide +kernel) e_v_4
          have t_v_4 : v_4.toInt = p2.toInt + 1 := t_v_4
          refine lv_iload_n hx hb dX4_canPlace_54 rfl (lv_at hl 3 rfl) ?_
          refine tk_i (va_runV (As := [.ref p1, .int v_4, .int p3]) (rest := []) ⟨hx, hb, hml, hown, hts⟩ (c_X4_canPlace__4 l D cy z H.size Ps ws hw.1 p0 p1 v_4 p3 h_p0 h_p1 r_v_4 (r_p3.to (by decide))) (cwV 3 hts (gV tw_794 tw_796 ts_20 tw_8 tw_797) rfl rfl rfl (by decide +kernel) ⟨Nat.le_of_ble_eq_true rfl, Nat.le_of_ble_eq_true rfl⟩) (tg_preV hw hK hSD hA (ci := 4) (q := (RX4, TX4, 2)) rfl h_p0 rfl) rfl rfl hl.1 rfl (lv_room (Nat.le_of_ble_eq_true rfl)) dX4_canPlace_55 ⟨Nat.le_of_ble_eq_true rfl, Nat.le_of_ble_eq_true rfl⟩) hw hA ⟨by decide, by decide⟩ (fun v_5 ws H locs hp_v_5 hw hF9 => ?_)
          have r_v_5 : RI v_5 0 1 := hp_v_5.1
          refine lv_if_eq (tgt := 63) hx hb dX4_canPlace_58 (by decide) (fun c_58 => ?_) (fun c_58 => ?_)
          · have r_v_5 : RI v_5 0 0 := rc_eq1 r_v_5 rl_0 (ti_eq c_58) (by decide)
            obtain ⟨v_6, e_v_6⟩ : ∃ q9 : Int32, q9 = x4 + Int32.ofInt 1 := ⟨_, rfl⟩
            obtain ⟨t_v_6, r_v_6⟩ := tq_add (lo := 1) (hi := 2147483647) r_x4 (show RI (Int32.ofInt 1) 1 1 by unfold RI; decide +kernel) (by decide +kernel) e_v_6
            have t_v_6 : v_6.toInt = x4.toInt + 1 := t_v_6
            refine lv_iinc (v := v_6) (lv' := [(4, .int v_6), (0, .ref p0), (1, .ref p1), (2, .int p2), (3, .int p3)]) hx hb dX4_canPlace_63 hl (k := 4) rfl e_v_6.symm (by decide) rfl (fun ls hl => ?_)
            refine lv_goto (tgt := 24) hx hb dX4_canPlace_66 (by decide) ?_
            exact ih24 v_6 ws _ _ ls (by have q0 := r_v_6.1; have u0 := r_v_6.2; have o0 := r_x4.1; have p0 := r_x4.2; omega) r_p2 (r_p3.to (by decide)) (r_v_6.to (by decide)) hw (lv_sub hl [1, 2, 3, 4, 0] rfl)
          · have r_v_5 : RI v_5 1 1 := rc_neL r_v_5 rl_0 (ti_ne c_58) (by decide)
            refine lv_iconst (v := 1) hx hb dX4_canPlace_61 (by decide) ?_
            subst hQ
            exact W.zret (v := 1) hx hb hr (rfl) (fun t ht hW => ⟨⟨1, ws, rfl, ⟨⟨rl_1.to (by decide), (fun _ => trivial), (fun h0 => trivial)⟩, hw.1, hw.2.2.2.2.1⟩, by rw [ht]; exact hw.2.1, va_K.moved hW.alike hK, hw.2.2.1⟩, hw.2.2.2.1.F ht⟩) hw.2.2.2.1.2.2 dX4_canPlace_62
  refine lv_iload_n hx hb dX4_canPlace_0 rfl (lv_at hl 2 rfl) ?_
  refine lv_aload_n hx hb dX4_canPlace_1 rfl (lv_at hl 1 rfl) ?_
  refine tg_getN (ci := 3) (ts := ty_POST) (C := RX3) (T := TX3) (N := 9) hx hb hts inX3 hown hK hw h_p1 rfl rfl 1 (by decide) (hSD.nest tn_202) (fun _ h9 => h9) (ft := vR 4) rfl dX4_canPlace_2 (fun u_7 hv_u_7 m_u_7 => ?_)
  obtain ⟨vu_7, rfl, h_vu_7⟩ := hv_u_7
  refine lv_iconst (v := 2) hx hb dX4_canPlace_5 (by decide) ?_
  refine tg_iald (lo := 0) (hi := 6) hx hb hK hw h_vu_7 rfl 2 2 rl_2 (by decide) (by decide +kernel) dX4_canPlace_6 (fun v_8 r_v_8 m_v_8 o_v_8 => ?_)
  refine lv_icmp_ge (tgt := 19) hx hb dX4_canPlace_7 (by decide) (fun c_7 => ?_) (fun c_7 => ?_)
  · have r_v_8 : RI v_8 0 3 := rc_le1 r_v_8 r_p2 (ti_le c_7) (by decide)
    refine lv_iconst (v := 1) hx hb dX4_canPlace_19 (by decide) ?_
    subst hQ
    exact W.zret (v := 1) hx hb hr (rfl) (fun t ht hW => ⟨⟨1, w0, rfl, ⟨⟨rl_1.to (by decide), (fun _ => trivial), (fun h0 => trivial)⟩, hw.1, hw.2.2.2.2.1⟩, by rw [ht]; exact hw.2.1, va_K.moved hW.alike hK, hw.2.2.1⟩, hw.2.2.2.1.F ht⟩) hw.2.2.2.1.2.2 dX4_canPlace_20
  · have r_v_8 : RI v_8 4 6 := rc_lt2 r_p2 r_v_8 (ti_nle c_7) (by decide)
    refine lv_iload_n hx hb dX4_canPlace_10 rfl (lv_at hl 2 rfl) ?_
    refine lv_aload_n hx hb dX4_canPlace_11 rfl (lv_at hl 0 rfl) ?_
    refine tg_get (ci := 4) (ts := ty_ROOMS) (C := RX4) (T := TX4) (N := 2) hx hb hts inX4 hown hK hw h_p0 rfl rfl 1 (by decide) (hts _ tw_170) (fun _ h9 => h9) (ft := vR 17) rfl dX4_canPlace_12 (fun u_9 hv_u_9 m_u_9 => ?_)
    obtain ⟨vu_9, rfl, h_vu_9⟩ := hv_u_9
    refine tg_alenI (t0 := 1) (v := 6) hx hb hK hw h_vu_9 rfl rfl rfl dX4_canPlace_15 ?_
    refine lv_icmp_lt (tgt := 21) hx hb dX4_canPlace_16 (by decide) (fun c_16 => ?_) (fun c_16 => ?_)
    · refine lv_iconst (v := 0) hx hb dX4_canPlace_21 (by decide) ?_
      refine lv_istore (lv' := [(4, .int 0), (0, .ref p0), (1, .ref p1), (2, .int p2), (3, .int p3)]) hx hb dX4_canPlace_22 hl (by decide) rfl (fun ls hl => ?_)
      exact B24 4294967298 0 w0 _ _ ls (by have q0 := rl_0.1; have u0 := rl_0.2; omega) r_p2 r_p3 (rl_0.to (by decide)) hw (lv_sub hl [1, 2, 3, 4, 0] rfl)
    · have r_p2 : RI p2 6 3 := rc_le2 rl_6 r_p2 (ti_nlt c_16) (by decide)
      exact (r_p2.no (by decide)).elim
abbrev wr_X4_canPlace__2 : List (Nat × Nat) := []
abbrev wa_X4_canPlace__2 : List Nat := [17]
set_option maxHeartbeats 4000000 in
set_option maxRecDepth 100000 in
theorem c_X4_canPlace__2 (l : Launch) (D : va_G) (cy : Nat → ClassId) (z : Nat → Nat) (sz : Nat) (Ps : PSI) (w0 : va_W) (hT : HT cy GG Ps w0) (p0 : Nat) (p1 : Nat) (p2 : Int32) (p3 : Int32) (h_p0 : (p0, 29) ∈ Ps) (h_p1 : (p1, 25) ∈ Ps) (r_p2 : RI p2 2 2) (r_p3 : RI p3 (-2147483648) 2147483647) : Met l yX4_canPlace (Cond.code yX4_canPlace cX4_canPlace 5 (some .boolean) :: gT) ({ frames := 6, cells := 0, slots := 0, locals := 1200 } : Room) (va_Pc [.ref p0, .ref p1, .int p2, .int p3] (PRE D cy z w0 sz)) (va_Qi (fun (r : Int32) (u : va_W) => (RI r 0 1 ∧ (r = 0 → True) ∧ (¬ r = 0 → True)) ∧ HT cy GG Ps u ∧ FR wr_X4_canPlace__2 wa_X4_canPlace__2 Ps w0 u) (BB D cy (va_A w0 sz) (fun (u : va_W) => u)) (va_A w0 sz)) 0 0 (va_A w0 sz) := by
  refine Met.ofW (cc := cX4_canPlace) (maxL := 5) (ret := (some .boolean)) (by decide) rfl ?_
  intro p e s m args below meth c s₁ B hml hv
  obtain ⟨rfl, hsz, hP, hK, hD0, hSD⟩ := hv
  have hx := B.exec
  have hb := B.bytes
  have hr := B.returns
  have hlocks := B.notSynchronized
  have hts : ∀ w ∈ gT, w.before _ s = true := fun w h => atoms_spec (ws := Cond.code yX4_canPlace cX4_canPlace 5 (some .boolean) :: gT) B.pre w (List.mem_cons_of_mem _ h)
  have hown : s.vm.findClass RX4 = some m.cls := findClass_of_methodNamed B.named
  subst hsz
  have hD := hD0.self (sz := s.heap.size)
  generalize hAe : va_A w0 s.heap.size = A at hD hSD ⊢
  have hA : ∀ q : Nat, s.heap.size ≤ q → A q := fun q h => by rw [← hAe]; exact Or.inr h
  have hl := lv_entry ([.ref p0, .ref p1, .int p2, .int p3]) (n := 5) (Nat.le_of_ble_eq_true rfl)
  rw [lg_entry_eq]
  generalize (lg_sl ([.ref p0, .ref p1, .int p2, .int p3]) ++ List.replicate (5 - (lg_sl ([.ref p0, .ref p1, .int p2, .int p3])).length) Slot.unset).toArray = ls at hl ⊢
  have hl : lv_has ls 5 [(0, .ref p0), (1, .ref p1), (2, .int p2), (3, .int p3)] := hl
  refine nameQ (fun Q hQ => ?_)
  have hw : WD D cy GG A s wr_X4_canPlace__2 wa_X4_canPlace__2 Ps w0 Ps w0 s.heap [] := ⟨hT, hP, hD, va_S.rf, FR.rf, hT.1, [], (List.append_nil _).symm⟩
  have B24 : ∀ (nf : Nat) (x4 : Int32) (ws : va_W) (H : Heap) (locs : List Loc) (ls : Array Slot), 2147483647 - x4.toInt < (nf : Int) → RI p2 2 2 → RI p3 (-2147483648) 2147483647 → RI x4 0 2147483647 → WD D cy GG A s wr_X4_canPlace__2 wa_X4_canPlace__2 Ps w0 Ps ws H locs → lv_has ls 5 [(0, .ref p0), (1, .ref p1), (2, .int p2), (3, .int p3), (4, .int x4)] → W p l e (headSpec (Cond.code yX4_canPlace cX4_canPlace 5 (some .boolean) :: gT) ({ frames := 6, cells := 0, slots := 0, locals := 1200 } : Room)).room s m ([.ref p0, .ref p1, .int p2, .int p3] : List Value).toArray below meth c H locs 0 0 Q (F0 m 24 ls []) := by
    intro nf24
    induction nf24 with
    | zero =>
      intro x4 ws H locs ls hn24 r_p2 r_p3 r_x4 hw hl
      exact absurd hn24 (by have q0 := r_x4.1; have u0 := r_x4.2; omega)
    | succ nf24 ih24 =>
      intro x4 ws H locs ls hn24 r_p2 r_p3 r_x4 hw hl
      refine lv_iload hx hb dX4_canPlace_24 (lv_at hl 4 rfl) ?_
      refine lv_iload_n hx hb dX4_canPlace_26 rfl (lv_at hl 3 rfl) ?_
      refine lv_icmp_ge (tgt := 69) hx hb dX4_canPlace_27 (by decide) (fun c_27 => ?_) (fun c_27 => ?_)
      · refine lv_iconst (v := 0) hx hb dX4_canPlace_69 (by decide) ?_
        subst hQ
        exact W.zret (v := 0) hx hb hr (rfl) (fun t ht hW => ⟨⟨0, ws, rfl, ⟨⟨rl_0.to (by decide), (fun h0 => trivial), (fun _ => trivial)⟩, hw.1, hw.2.2.2.2.1⟩, by rw [ht]; exact hw.2.1, va_K.moved hW.alike hK, hw.2.2.1⟩, hw.2.2.2.1.F ht⟩) hw.2.2.2.1.2.2 dX4_canPlace_70
      · have r_x4 : RI x4 0 2147483646 := rc_lt1 r_x4 r_p3 (ti_nle c_27) (by decide)
        have r_p3 : RI p3 1 2147483647 := rc_lt2 r_x4 r_p3 (ti_nle c_27) (by decide)
        refine lv_aload_n hx hb dX4_canPlace_30 rfl (lv_at hl 0 rfl) ?_
        refine lv_aload_n hx hb dX4_canPlace_31 rfl (lv_at hl 1 rfl) ?_
        refine lv_iload_n hx hb dX4_canPlace_32 rfl (lv_at hl 2 rfl) ?_
        refine lv_iload hx hb dX4_canPlace_33 (lv_at hl 4 rfl) ?_
        refine tk_ir (va_runV (As := [.ref p1, .int p2, .int x4]) (rest := []) ⟨hx, hb, hml, hown, hts⟩ (c_X4_isQuiet__2 l D cy z H.size Ps ws hw.1 p0 p1 p2 x4 h_p0 h_p1 r_p2 (r_x4.to (by decide))) (cwV 3 hts (gV tw_798 tw_800 ts_21 tw_8 tw_801) rfl rfl rfl (by decide +kernel) ⟨Nat.le_of_ble_eq_true rfl, Nat.le_of_ble_eq_true rfl⟩) (tg_preV hw hK hSD hA (ci := 4) (q := (RX4, TX4, 2)) rfl h_p0 rfl) rfl rfl hl.1 rfl (lv_room (Nat.le_of_ble_eq_true rfl)) dX4_canPlace_35 ⟨Nat.le_of_ble_eq_true rfl, Nat.le_of_ble_eq_true rfl⟩) hw hA (fun v_1  H locs hp_v_1 hw => ?_)
        have r_v_1 : RI v_1 0 1 := hp_v_1.1
        refine lv_if_eq (tgt := 63) hx hb dX4_canPlace_38 (by decide) (fun c_38 => ?_) (fun c_38 => ?_)
        · have r_v_1 : RI v_1 0 0 := rc_eq1 r_v_1 rl_0 (ti_eq c_38) (by decide)
          obtain ⟨v_2, e_v_2⟩ : ∃ q9 : Int32, q9 = x4 + Int32.ofInt 1 := ⟨_, rfl⟩
          obtain ⟨t_v_2, r_v_2⟩ := tq_add (lo := 1) (hi := 2147483647) r_x4 (show RI (Int32.ofInt 1) 1 1 by unfold RI; decide +kernel) (by decide +kernel) e_v_2
          have t_v_2 : v_2.toInt = x4.toInt + 1 := t_v_2
          refine lv_iinc (v := v_2) (lv' := [(4, .int v_2), (0, .ref p0), (1, .ref p1), (2, .int p2), (3, .int p3)]) hx hb dX4_canPlace_63 hl (k := 4) rfl e_v_2.symm (by decide) rfl (fun ls hl => ?_)
          refine lv_goto (tgt := 24) hx hb dX4_canPlace_66 (by decide) ?_
          exact ih24 v_2 ws _ _ ls (by have q0 := r_v_2.1; have u0 := r_v_2.2; have o0 := r_x4.1; have p0 := r_x4.2; omega) r_p2 (r_p3.to (by decide)) (r_v_2.to (by decide)) hw (lv_sub hl [1, 2, 3, 4, 0] rfl)
        · have r_v_1 : RI v_1 1 1 := rc_neL r_v_1 rl_0 (ti_ne c_38) (by decide)
          refine lv_aload_n hx hb dX4_canPlace_41 rfl (lv_at hl 0 rfl) ?_
          refine tg_get (ci := 4) (ts := ty_ROOMS) (C := RX4) (T := TX4) (N := 2) hx hb hts inX4 hown hK hw h_p0 rfl rfl 1 (by decide) (hts _ tw_170) (fun _ h9 => h9) (ft := vR 17) rfl dX4_canPlace_42 (fun u_3 hv_u_3 m_u_3 => ?_)
          obtain ⟨vu_3, rfl, h_vu_3⟩ := hv_u_3
          refine lv_iload_n hx hb dX4_canPlace_45 rfl (lv_at hl 2 rfl) ?_
          refine lv_iload hx hb dX4_canPlace_46 (lv_at hl 4 rfl) ?_
          refine tg_iast hx hb hK hw h_vu_3 rfl 2 2 r_p2 (by decide) r_x4 (by exact fun _ _ _ => by decide) (fun _ _ _ _ _ => trivial) (by decide) dX4_canPlace_48 (fun ws H locs hw hF9 hU9 => ?_)
          refine lv_aload_n hx hb dX4_canPlace_49 rfl (lv_at hl 0 rfl) ?_
          refine lv_aload_n hx hb dX4_canPlace_50 rfl (lv_at hl 1 rfl) ?_
          refine lv_iload_n hx hb dX4_canPlace_51 rfl (lv_at hl 2 rfl) ?_
          refine lv_iconst (v := 1) hx hb dX4_canPlace_52 (by decide) ?_
          refine lv_iadd hx hb dX4_canPlace_53 (lv_topi (fun v_4 e_v_4 => ?_))
          obtain ⟨t_v_4, r_v_4⟩ := tq_add (lo := 3) (hi := 3) r_p2 rl_1 (by decide +kernel) e_v_4
          have t_v_4 : v_4.toInt = p2.toInt + 1 := t_v_4
          refine lv_iload_n hx hb dX4_canPlace_54 rfl (lv_at hl 3 rfl) ?_
          refine tk_i (va_runV (As := [.ref p1, .int v_4, .int p3]) (rest := []) ⟨hx, hb, hml, hown, hts⟩ (c_X4_canPlace__3 l D cy z H.size Ps ws hw.1 p0 p1 v_4 p3 h_p0 h_p1 r_v_4 (r_p3.to (by decide))) (cwV 3 hts (gV tw_794 tw_796 ts_20 tw_8 tw_797) rfl rfl rfl (by decide +kernel) ⟨Nat.le_of_ble_eq_true rfl, Nat.le_of_ble_eq_true rfl⟩) (tg_preV hw hK hSD hA (ci := 4) (q := (RX4, TX4, 2)) rfl h_p0 rfl) rfl rfl hl.1 rfl (lv_room (Nat.le_of_ble_eq_true rfl)) dX4_canPlace_55 ⟨Nat.le_of_ble_eq_true rfl, Nat.le_of_ble_eq_true rfl⟩) hw hA ⟨by decide, by decide⟩ (fun v_5 ws H locs hp_v_5 hw hF9 => ?_)
          have r_v_5 : RI v_5 0 1 := hp_v_5.1
          refine lv_if_eq (tgt := 63) hx hb dX4_canPlace_58 (by decide) (fun c_58 => ?_) (fun c_58 => ?_)
          · have r_v_5 : RI v_5 0 0 := rc_eq1 r_v_5 rl_0 (ti_eq c_58) (by decide)
            obtain ⟨v_6, e_v_6⟩ : ∃ q9 : Int32, q9 = x4 + Int32.ofInt 1 := ⟨_, rfl⟩
            obtain ⟨t_v_6, r_v_6⟩ := tq_add (lo := 1) (hi := 2147483647) r_x4 (show RI (Int32.ofInt 1) 1 1 by unfold RI; decide +kernel) (by decide +kernel) e_v_6
            have t_v_6 : v_6.toInt = x4.toInt + 1 := t_v_6
            refine lv_iinc (v := v_6) (lv' := [(4, .int v_6), (0, .ref p0), (1, .ref p1), (2, .int p2), (3, .int p3)]) hx hb dX4_canPlace_63 hl (k := 4) rfl e_v_6.symm (by decide) rfl (fun ls hl => ?_)
            refine lv_goto (tgt := 24) hx hb dX4_canPlace_66 (by decide) ?_
            exact ih24 v_6 ws _ _ ls (by have q0 := r_v_6.1; have u0 := r_v_6.2; have o0 := r_x4.1; have p0 := r_x4.2; omega) r_p2 (r_p3.to (by decide)) (r_v_6.to (by decide)) hw (lv_sub hl [1, 2, 3, 4, 0] rfl)
          · have r_v_5 : RI v_5 1 1 := rc_neL r_v_5 rl_0 (ti_ne c_58) (by decide)
            refine lv_iconst (v := 1) hx hb dX4_canPlace_61 (by decide) ?_
            subst hQ
            exact W.zret (v := 1) hx hb hr (rfl) (fun t ht hW => ⟨⟨1, ws, rfl, ⟨⟨rl_1.to (by decide), (fun _ => trivial), (fun h0 => trivial)⟩, hw.1, hw.2.2.2.2.1⟩, by rw [ht]; exact hw.2.1, va_K.moved hW.alike hK, hw.2.2.1⟩, hw.2.2.2.1.F ht⟩) hw.2.2.2.1.2.2 dX4_canPlace_62
  refine lv_iload_n hx hb dX4_canPlace_0 rfl (lv_at hl 2 rfl) ?_
  refine lv_aload_n hx hb dX4_canPlace_1 rfl (lv_at hl 1 rfl) ?_
  refine tg_getN (ci := 3) (ts := ty_POST) (C := RX3) (T := TX3) (N := 9) hx hb hts inX3 hown hK hw h_p1 rfl rfl 1 (by decide) (hSD.nest tn_202) (fun _ h9 => h9) (ft := vR 4) rfl dX4_canPlace_2 (fun u_7 hv_u_7 m_u_7 => ?_)
  obtain ⟨vu_7, rfl, h_vu_7⟩ := hv_u_7
  refine lv_iconst (v := 2) hx hb dX4_canPlace_5 (by decide) ?_
  refine tg_iald (lo := 0) (hi := 6) hx hb hK hw h_vu_7 rfl 2 2 rl_2 (by decide) (by decide +kernel) dX4_canPlace_6 (fun v_8 r_v_8 m_v_8 o_v_8 => ?_)
  refine lv_icmp_ge (tgt := 19) hx hb dX4_canPlace_7 (by decide) (fun c_7 => ?_) (fun c_7 => ?_)
  · have r_v_8 : RI v_8 0 2 := rc_le1 r_v_8 r_p2 (ti_le c_7) (by decide)
    refine lv_iconst (v := 1) hx hb dX4_canPlace_19 (by decide) ?_
    subst hQ
    exact W.zret (v := 1) hx hb hr (rfl) (fun t ht hW => ⟨⟨1, w0, rfl, ⟨⟨rl_1.to (by decide), (fun _ => trivial), (fun h0 => trivial)⟩, hw.1, hw.2.2.2.2.1⟩, by rw [ht]; exact hw.2.1, va_K.moved hW.alike hK, hw.2.2.1⟩, hw.2.2.2.1.F ht⟩) hw.2.2.2.1.2.2 dX4_canPlace_20
  · have r_v_8 : RI v_8 3 6 := rc_lt2 r_p2 r_v_8 (ti_nle c_7) (by decide)
    refine lv_iload_n hx hb dX4_canPlace_10 rfl (lv_at hl 2 rfl) ?_
    refine lv_aload_n hx hb dX4_canPlace_11 rfl (lv_at hl 0 rfl) ?_
    refine tg_get (ci := 4) (ts := ty_ROOMS) (C := RX4) (T := TX4) (N := 2) hx hb hts inX4 hown hK hw h_p0 rfl rfl 1 (by decide) (hts _ tw_170) (fun _ h9 => h9) (ft := vR 17) rfl dX4_canPlace_12 (fun u_9 hv_u_9 m_u_9 => ?_)
    obtain ⟨vu_9, rfl, h_vu_9⟩ := hv_u_9
    refine tg_alenI (t0 := 1) (v := 6) hx hb hK hw h_vu_9 rfl rfl rfl dX4_canPlace_15 ?_
    refine lv_icmp_lt (tgt := 21) hx hb dX4_canPlace_16 (by decide) (fun c_16 => ?_) (fun c_16 => ?_)
    · refine lv_iconst (v := 0) hx hb dX4_canPlace_21 (by decide) ?_
      refine lv_istore (lv' := [(4, .int 0), (0, .ref p0), (1, .ref p1), (2, .int p2), (3, .int p3)]) hx hb dX4_canPlace_22 hl (by decide) rfl (fun ls hl => ?_)
      exact B24 4294967298 0 w0 _ _ ls (by have q0 := rl_0.1; have u0 := rl_0.2; omega) r_p2 r_p3 (rl_0.to (by decide)) hw (lv_sub hl [1, 2, 3, 4, 0] rfl)
    · have r_p2 : RI p2 6 2 := rc_le2 rl_6 r_p2 (ti_nlt c_16) (by decide)
      exact (r_p2.no (by decide)).elim
abbrev wr_X4_canPlace__1 : List (Nat × Nat) := []
abbrev wa_X4_canPlace__1 : List Nat := [17]
set_option maxHeartbeats 4000000 in
set_option maxRecDepth 100000 in
theorem c_X4_canPlace__1 (l : Launch) (D : va_G) (cy : Nat → ClassId) (z : Nat → Nat) (sz : Nat) (Ps : PSI) (w0 : va_W) (hT : HT cy GG Ps w0) (p0 : Nat) (p1 : Nat) (p2 : Int32) (p3 : Int32) (h_p0 : (p0, 29) ∈ Ps) (h_p1 : (p1, 25) ∈ Ps) (r_p2 : RI p2 1 1) (r_p3 : RI p3 (-2147483648) 2147483647) : Met l yX4_canPlace (Cond.code yX4_canPlace cX4_canPlace 5 (some .boolean) :: gT) ({ frames := 7, cells := 0, slots := 0, locals := 1400 } : Room) (va_Pc [.ref p0, .ref p1, .int p2, .int p3] (PRE D cy z w0 sz)) (va_Qi (fun (r : Int32) (u : va_W) => (RI r 0 1 ∧ (r = 0 → True) ∧ (¬ r = 0 → True)) ∧ HT cy GG Ps u ∧ FR wr_X4_canPlace__1 wa_X4_canPlace__1 Ps w0 u) (BB D cy (va_A w0 sz) (fun (u : va_W) => u)) (va_A w0 sz)) 0 0 (va_A w0 sz) := by
  refine Met.ofW (cc := cX4_canPlace) (maxL := 5) (ret := (some .boolean)) (by decide) rfl ?_
  intro p e s m args below meth c s₁ B hml hv
  obtain ⟨rfl, hsz, hP, hK, hD0, hSD⟩ := hv
  have hx := B.exec
  have hb := B.bytes
  have hr := B.returns
  have hlocks := B.notSynchronized
  have hts : ∀ w ∈ gT, w.before _ s = true := fun w h => atoms_spec (ws := Cond.code yX4_canPlace cX4_canPlace 5 (some .boolean) :: gT) B.pre w (List.mem_cons_of_mem _ h)
  have hown : s.vm.findClass RX4 = some m.cls := findClass_of_methodNamed B.named
  subst hsz
  have hD := hD0.self (sz := s.heap.size)
  generalize hAe : va_A w0 s.heap.size = A at hD hSD ⊢
  have hA : ∀ q : Nat, s.heap.size ≤ q → A q := fun q h => by rw [← hAe]; exact Or.inr h
  have hl := lv_entry ([.ref p0, .ref p1, .int p2, .int p3]) (n := 5) (Nat.le_of_ble_eq_true rfl)
  rw [lg_entry_eq]
  generalize (lg_sl ([.ref p0, .ref p1, .int p2, .int p3]) ++ List.replicate (5 - (lg_sl ([.ref p0, .ref p1, .int p2, .int p3])).length) Slot.unset).toArray = ls at hl ⊢
  have hl : lv_has ls 5 [(0, .ref p0), (1, .ref p1), (2, .int p2), (3, .int p3)] := hl
  refine nameQ (fun Q hQ => ?_)
  have hw : WD D cy GG A s wr_X4_canPlace__1 wa_X4_canPlace__1 Ps w0 Ps w0 s.heap [] := ⟨hT, hP, hD, va_S.rf, FR.rf, hT.1, [], (List.append_nil _).symm⟩
  have B24 : ∀ (nf : Nat) (x4 : Int32) (ws : va_W) (H : Heap) (locs : List Loc) (ls : Array Slot), 2147483647 - x4.toInt < (nf : Int) → RI p2 1 1 → RI p3 (-2147483648) 2147483647 → RI x4 0 2147483647 → WD D cy GG A s wr_X4_canPlace__1 wa_X4_canPlace__1 Ps w0 Ps ws H locs → lv_has ls 5 [(0, .ref p0), (1, .ref p1), (2, .int p2), (3, .int p3), (4, .int x4)] → W p l e (headSpec (Cond.code yX4_canPlace cX4_canPlace 5 (some .boolean) :: gT) ({ frames := 7, cells := 0, slots := 0, locals := 1400 } : Room)).room s m ([.ref p0, .ref p1, .int p2, .int p3] : List Value).toArray below meth c H locs 0 0 Q (F0 m 24 ls []) := by
    intro nf24
    induction nf24 with
    | zero =>
      intro x4 ws H locs ls hn24 r_p2 r_p3 r_x4 hw hl
      exact absurd hn24 (by have q0 := r_x4.1; have u0 := r_x4.2; omega)
    | succ nf24 ih24 =>
      intro x4 ws H locs ls hn24 r_p2 r_p3 r_x4 hw hl
      refine lv_iload hx hb dX4_canPlace_24 (lv_at hl 4 rfl) ?_
      refine lv_iload_n hx hb dX4_canPlace_26 rfl (lv_at hl 3 rfl) ?_
      refine lv_icmp_ge (tgt := 69) hx hb dX4_canPlace_27 (by decide) (fun c_27 => ?_) (fun c_27 => ?_)
      · refine lv_iconst (v := 0) hx hb dX4_canPlace_69 (by decide) ?_
        subst hQ
        exact W.zret (v := 0) hx hb hr (rfl) (fun t ht hW => ⟨⟨0, ws, rfl, ⟨⟨rl_0.to (by decide), (fun h0 => trivial), (fun _ => trivial)⟩, hw.1, hw.2.2.2.2.1⟩, by rw [ht]; exact hw.2.1, va_K.moved hW.alike hK, hw.2.2.1⟩, hw.2.2.2.1.F ht⟩) hw.2.2.2.1.2.2 dX4_canPlace_70
      · have r_x4 : RI x4 0 2147483646 := rc_lt1 r_x4 r_p3 (ti_nle c_27) (by decide)
        have r_p3 : RI p3 1 2147483647 := rc_lt2 r_x4 r_p3 (ti_nle c_27) (by decide)
        refine lv_aload_n hx hb dX4_canPlace_30 rfl (lv_at hl 0 rfl) ?_
        refine lv_aload_n hx hb dX4_canPlace_31 rfl (lv_at hl 1 rfl) ?_
        refine lv_iload_n hx hb dX4_canPlace_32 rfl (lv_at hl 2 rfl) ?_
        refine lv_iload hx hb dX4_canPlace_33 (lv_at hl 4 rfl) ?_
        refine tk_ir (va_runV (As := [.ref p1, .int p2, .int x4]) (rest := []) ⟨hx, hb, hml, hown, hts⟩ (c_X4_isQuiet__1 l D cy z H.size Ps ws hw.1 p0 p1 p2 x4 h_p0 h_p1 r_p2 (r_x4.to (by decide))) (cwV 3 hts (gV tw_798 tw_800 ts_21 tw_8 tw_801) rfl rfl rfl (by decide +kernel) ⟨Nat.le_of_ble_eq_true rfl, Nat.le_of_ble_eq_true rfl⟩) (tg_preV hw hK hSD hA (ci := 4) (q := (RX4, TX4, 2)) rfl h_p0 rfl) rfl rfl hl.1 rfl (lv_room (Nat.le_of_ble_eq_true rfl)) dX4_canPlace_35 ⟨Nat.le_of_ble_eq_true rfl, Nat.le_of_ble_eq_true rfl⟩) hw hA (fun v_1  H locs hp_v_1 hw => ?_)
        have r_v_1 : RI v_1 0 1 := hp_v_1.1
        refine lv_if_eq (tgt := 63) hx hb dX4_canPlace_38 (by decide) (fun c_38 => ?_) (fun c_38 => ?_)
        · have r_v_1 : RI v_1 0 0 := rc_eq1 r_v_1 rl_0 (ti_eq c_38) (by decide)
          obtain ⟨v_2, e_v_2⟩ : ∃ q9 : Int32, q9 = x4 + Int32.ofInt 1 := ⟨_, rfl⟩
          obtain ⟨t_v_2, r_v_2⟩ := tq_add (lo := 1) (hi := 2147483647) r_x4 (show RI (Int32.ofInt 1) 1 1 by unfold RI; decide +kernel) (by decide +kernel) e_v_2
          have t_v_2 : v_2.toInt = x4.toInt + 1 := t_v_2
          refine lv_iinc (v := v_2) (lv' := [(4, .int v_2), (0, .ref p0), (1, .ref p1), (2, .int p2), (3, .int p3)]) hx hb dX4_canPlace_63 hl (k := 4) rfl e_v_2.symm (by decide) rfl (fun ls hl => ?_)
          refine lv_goto (tgt := 24) hx hb dX4_canPlace_66 (by decide) ?_
          exact ih24 v_2 ws _ _ ls (by have q0 := r_v_2.1; have u0 := r_v_2.2; have o0 := r_x4.1; have p0 := r_x4.2; omega) r_p2 (r_p3.to (by decide)) (r_v_2.to (by decide)) hw (lv_sub hl [1, 2, 3, 4, 0] rfl)
        · have r_v_1 : RI v_1 1 1 := rc_neL r_v_1 rl_0 (ti_ne c_38) (by decide)
          refine lv_aload_n hx hb dX4_canPlace_41 rfl (lv_at hl 0 rfl) ?_
          refine tg_get (ci := 4) (ts := ty_ROOMS) (C := RX4) (T := TX4) (N := 2) hx hb hts inX4 hown hK hw h_p0 rfl rfl 1 (by decide) (hts _ tw_170) (fun _ h9 => h9) (ft := vR 17) rfl dX4_canPlace_42 (fun u_3 hv_u_3 m_u_3 => ?_)
          obtain ⟨vu_3, rfl, h_vu_3⟩ := hv_u_3
          refine lv_iload_n hx hb dX4_canPlace_45 rfl (lv_at hl 2 rfl) ?_
          refine lv_iload hx hb dX4_canPlace_46 (lv_at hl 4 rfl) ?_
          refine tg_iast hx hb hK hw h_vu_3 rfl 1 1 r_p2 (by decide) r_x4 (by exact fun _ _ _ => by decide) (fun _ _ _ _ _ => trivial) (by decide) dX4_canPlace_48 (fun ws H locs hw hF9 hU9 => ?_)
          refine lv_aload_n hx hb dX4_canPlace_49 rfl (lv_at hl 0 rfl) ?_
          refine lv_aload_n hx hb dX4_canPlace_50 rfl (lv_at hl 1 rfl) ?_
          refine lv_iload_n hx hb dX4_canPlace_51 rfl (lv_at hl 2 rfl) ?_
          refine lv_iconst (v := 1) hx hb dX4_canPlace_52 (by decide) ?_
          refine lv_iadd hx hb dX4_canPlace_53 (lv_topi (fun v_4 e_v_4 => ?_))
          obtain ⟨t_v_4, r_v_4⟩ := tq_add (lo := 2) (hi := 2) r_p2 rl_1 (by decide +kernel) e_v_4
          have t_v_4 : v_4.toInt = p2.toInt + 1 := t_v_4
          refine lv_iload_n hx hb dX4_canPlace_54 rfl (lv_at hl 3 rfl) ?_
          refine tk_i (va_runV (As := [.ref p1, .int v_4, .int p3]) (rest := []) ⟨hx, hb, hml, hown, hts⟩ (c_X4_canPlace__2 l D cy z H.size Ps ws hw.1 p0 p1 v_4 p3 h_p0 h_p1 r_v_4 (r_p3.to (by decide))) (cwV 3 hts (gV tw_794 tw_796 ts_20 tw_8 tw_797) rfl rfl rfl (by decide +kernel) ⟨Nat.le_of_ble_eq_true rfl, Nat.le_of_ble_eq_true rfl⟩) (tg_preV hw hK hSD hA (ci := 4) (q := (RX4, TX4, 2)) rfl h_p0 rfl) rfl rfl hl.1 rfl (lv_room (Nat.le_of_ble_eq_true rfl)) dX4_canPlace_55 ⟨Nat.le_of_ble_eq_true rfl, Nat.le_of_ble_eq_true rfl⟩) hw hA ⟨by decide, by decide⟩ (fun v_5 ws H locs hp_v_5 hw hF9 => ?_)
          have r_v_5 : RI v_5 0 1 := hp_v_5.1
          refine lv_if_eq (tgt := 63) hx hb dX4_canPlace_58 (by decide) (fun c_58 => ?_) (fun c_58 => ?_)
          · have r_v_5 : RI v_5 0 0 := rc_eq1 r_v_5 rl_0 (ti_eq c_58) (by decide)
            obtain ⟨v_6, e_v_6⟩ : ∃ q9 : Int32, q9 = x4 + Int32.ofInt 1 := ⟨_, rfl⟩
            obtain ⟨t_v_6, r_v_6⟩ := tq_add (lo := 1) (hi := 2147483647) r_x4 (show RI (Int32.ofInt 1) 1 1 by unfold RI; decide +kernel) (by decide +kernel) e_v_6
            have t_v_6 : v_6.toInt = x4.toInt + 1 := t_v_6
            refine lv_iinc (v := v_6) (lv' := [(4, .int v_6), (0, .ref p0), (1, .ref p1), (2, .int p2), (3, .int p3)]) hx hb dX4_canPlace_63 hl (k := 4) rfl e_v_6.symm (by decide) rfl (fun ls hl => ?_)
            refine lv_goto (tgt := 24) hx hb dX4_canPlace_66 (by decide) ?_
            exact ih24 v_6 ws _ _ ls (by have q0 := r_v_6.1; have u0 := r_v_6.2; have o0 := r_x4.1; have p0 := r_x4.2; omega) r_p2 (r_p3.to (by decide)) (r_v_6.to (by decide)) hw (lv_sub hl [1, 2, 3, 4, 0] rfl)
          · have r_v_5 : RI v_5 1 1 := rc_neL r_v_5 rl_0 (ti_ne c_58) (by decide)
            refine lv_iconst (v := 1) hx hb dX4_canPlace_61 (by decide) ?_
            subst hQ
            exact W.zret (v := 1) hx hb hr (rfl) (fun t ht hW => ⟨⟨1, ws, rfl, ⟨⟨rl_1.to (by decide), (fun _ => trivial), (fun h0 => trivial)⟩, hw.1, hw.2.2.2.2.1⟩, by rw [ht]; exact hw.2.1, va_K.moved hW.alike hK, hw.2.2.1⟩, hw.2.2.2.1.F ht⟩) hw.2.2.2.1.2.2 dX4_canPlace_62
  refine lv_iload_n hx hb dX4_canPlace_0 rfl (lv_at hl 2 rfl) ?_
  refine lv_aload_n hx hb dX4_canPlace_1 rfl (lv_at hl 1 rfl) ?_
  refine tg_getN (ci := 3) (ts := ty_POST) (C := RX3) (T := TX3) (N := 9) hx hb hts inX3 hown hK hw h_p1 rfl rfl 1 (by decide) (hSD.nest tn_202) (fun _ h9 => h9) (ft := vR 4) rfl dX4_canPlace_2 (fun u_7 hv_u_7 m_u_7 => ?_)
  obtain ⟨vu_7, rfl, h_vu_7⟩ := hv_u_7
  refine lv_iconst (v := 2) hx hb dX4_canPlace_5 (by decide) ?_
  refine tg_iald (lo := 0) (hi := 6) hx hb hK hw h_vu_7 rfl 2 2 rl_2 (by decide) (by decide +kernel) dX4_canPlace_6 (fun v_8 r_v_8 m_v_8 o_v_8 => ?_)
  refine lv_icmp_ge (tgt := 19) hx hb dX4_canPlace_7 (by decide) (fun c_7 => ?_) (fun c_7 => ?_)
  · have r_v_8 : RI v_8 0 1 := rc_le1 r_v_8 r_p2 (ti_le c_7) (by decide)
    refine lv_iconst (v := 1) hx hb dX4_canPlace_19 (by decide) ?_
    subst hQ
    exact W.zret (v := 1) hx hb hr (rfl) (fun t ht hW => ⟨⟨1, w0, rfl, ⟨⟨rl_1.to (by decide), (fun _ => trivial), (fun h0 => trivial)⟩, hw.1, hw.2.2.2.2.1⟩, by rw [ht]; exact hw.2.1, va_K.moved hW.alike hK, hw.2.2.1⟩, hw.2.2.2.1.F ht⟩) hw.2.2.2.1.2.2 dX4_canPlace_20
  · have r_v_8 : RI v_8 2 6 := rc_lt2 r_p2 r_v_8 (ti_nle c_7) (by decide)
    refine lv_iload_n hx hb dX4_canPlace_10 rfl (lv_at hl 2 rfl) ?_
    refine lv_aload_n hx hb dX4_canPlace_11 rfl (lv_at hl 0 rfl) ?_
    refine tg_get (ci := 4) (ts := ty_ROOMS) (C := RX4) (T := TX4) (N := 2) hx hb hts inX4 hown hK hw h_p0 rfl rfl 1 (by decide) (hts _ tw_170) (fun _ h9 => h9) (ft := vR 17) rfl dX4_canPlace_12 (fun u_9 hv_u_9 m_u_9 => ?_)
    obtain ⟨vu_9, rfl, h_vu_9⟩ := hv_u_9
    refine tg_alenI (t0 := 1) (v := 6) hx hb hK hw h_vu_9 rfl rfl rfl dX4_canPlace_15 ?_
    refine lv_icmp_lt (tgt := 21) hx hb dX4_canPlace_16 (by decide) (fun c_16 => ?_) (fun c_16 => ?_)
    · refine lv_iconst (v := 0) hx hb dX4_canPlace_21 (by decide) ?_
      refine lv_istore (lv' := [(4, .int 0), (0, .ref p0), (1, .ref p1), (2, .int p2), (3, .int p3)]) hx hb dX4_canPlace_22 hl (by decide) rfl (fun ls hl => ?_)
      exact B24 4294967298 0 w0 _ _ ls (by have q0 := rl_0.1; have u0 := rl_0.2; omega) r_p2 r_p3 (rl_0.to (by decide)) hw (lv_sub hl [1, 2, 3, 4, 0] rfl)
    · have r_p2 : RI p2 6 1 := rc_le2 rl_6 r_p2 (ti_nlt c_16) (by decide)
      exact (r_p2.no (by decide)).elim
abbrev wr_X4_canPlace : List (Nat × Nat) := []
abbrev wa_X4_canPlace : List Nat := [17]
set_option maxHeartbeats 4000000 in
set_option maxRecDepth 100000 in
theorem c_X4_canPlace (l : Launch) (D : va_G) (cy : Nat → ClassId) (z : Nat → Nat) (sz : Nat) (Ps : PSI) (w0 : va_W) (hT : HT cy GG Ps w0) (p0 : Nat) (p1 : Nat) (p2 : Int32) (p3 : Int32) (h_p0 : (p0, 29) ∈ Ps) (h_p1 : (p1, 25) ∈ Ps) (r_p2 : RI p2 0 0) (r_p3 : RI p3 (-2147483648) 2147483647) : Met l yX4_canPlace (Cond.code yX4_canPlace cX4_canPlace 5 (some .boolean) :: gT) ({ frames := 8, cells := 0, slots := 0, locals := 1600 } : Room) (va_Pc [.ref p0, .ref p1, .int p2, .int p3] (PRE D cy z w0 sz)) (va_Qi (fun (r : Int32) (u : va_W) => (RI r 0 1 ∧ (r = 0 → True) ∧ (¬ r = 0 → True)) ∧ HT cy GG Ps u ∧ FR wr_X4_canPlace wa_X4_canPlace Ps w0 u) (BB D cy (va_A w0 sz) (fun (u : va_W) => u)) (va_A w0 sz)) 0 0 (va_A w0 sz) := by
  refine Met.ofW (cc := cX4_canPlace) (maxL := 5) (ret := (some .boolean)) (by decide) rfl ?_
  intro p e s m args below meth c s₁ B hml hv
  obtain ⟨rfl, hsz, hP, hK, hD0, hSD⟩ := hv
  have hx := B.exec
  have hb := B.bytes
  have hr := B.returns
  have hlocks := B.notSynchronized
  have hts : ∀ w ∈ gT, w.before _ s = true := fun w h => atoms_spec (ws := Cond.code yX4_canPlace cX4_canPlace 5 (some .boolean) :: gT) B.pre w (List.mem_cons_of_mem _ h)
  have hown : s.vm.findClass RX4 = some m.cls := findClass_of_methodNamed B.named
  subst hsz
  have hD := hD0.self (sz := s.heap.size)
  generalize hAe : va_A w0 s.heap.size = A at hD hSD ⊢
  have hA : ∀ q : Nat, s.heap.size ≤ q → A q := fun q h => by rw [← hAe]; exact Or.inr h
  have hl := lv_entry ([.ref p0, .ref p1, .int p2, .int p3]) (n := 5) (Nat.le_of_ble_eq_true rfl)
  rw [lg_entry_eq]
  generalize (lg_sl ([.ref p0, .ref p1, .int p2, .int p3]) ++ List.replicate (5 - (lg_sl ([.ref p0, .ref p1, .int p2, .int p3])).length) Slot.unset).toArray = ls at hl ⊢
  have hl : lv_has ls 5 [(0, .ref p0), (1, .ref p1), (2, .int p2), (3, .int p3)] := hl
  refine nameQ (fun Q hQ => ?_)
  have hw : WD D cy GG A s wr_X4_canPlace wa_X4_canPlace Ps w0 Ps w0 s.heap [] := ⟨hT, hP, hD, va_S.rf, FR.rf, hT.1, [], (List.append_nil _).symm⟩
  have B24 : ∀ (nf : Nat) (x4 : Int32) (ws : va_W) (H : Heap) (locs : List Loc) (ls : Array Slot), 2147483647 - x4.toInt < (nf : Int) → RI p2 0 0 → RI p3 (-2147483648) 2147483647 → RI x4 0 2147483647 → WD D cy GG A s wr_X4_canPlace wa_X4_canPlace Ps w0 Ps ws H locs → lv_has ls 5 [(0, .ref p0), (1, .ref p1), (2, .int p2), (3, .int p3), (4, .int x4)] → W p l e (headSpec (Cond.code yX4_canPlace cX4_canPlace 5 (some .boolean) :: gT) ({ frames := 8, cells := 0, slots := 0, locals := 1600 } : Room)).room s m ([.ref p0, .ref p1, .int p2, .int p3] : List Value).toArray below meth c H locs 0 0 Q (F0 m 24 ls []) := by
    intro nf24
    induction nf24 with
    | zero =>
      intro x4 ws H locs ls hn24 r_p2 r_p3 r_x4 hw hl
      exact absurd hn24 (by have q0 := r_x4.1; have u0 := r_x4.2; omega)
    | succ nf24 ih24 =>
      intro x4 ws H locs ls hn24 r_p2 r_p3 r_x4 hw hl
      refine lv_iload hx hb dX4_canPlace_24 (lv_at hl 4 rfl) ?_
      refine lv_iload_n hx hb dX4_canPlace_26 rfl (lv_at hl 3 rfl) ?_
      refine lv_icmp_ge (tgt := 69) hx hb dX4_canPlace_27 (by decide) (fun c_27 => ?_) (fun c_27 => ?_)
      · refine lv_iconst (v := 0) hx hb dX4_canPlace_69 (by decide) ?_
        subst hQ
        exact W.zret (v := 0) hx hb hr (rfl) (fun t ht hW => ⟨⟨0, ws, rfl, ⟨⟨rl_0.to (by decide), (fun h0 => trivial), (fun _ => trivial)⟩, hw.1, hw.2.2.2.2.1⟩, by rw [ht]; exact hw.2.1, va_K.moved hW.alike hK, hw.2.2.1⟩, hw.2.2.2.1.F ht⟩) hw.2.2.2.1.2.2 dX4_canPlace_70
      · have r_x4 : RI x4 0 2147483646 := rc_lt1 r_x4 r_p3 (ti_nle c_27) (by decide)
        have r_p3 : RI p3 1 2147483647 := rc_lt2 r_x4 r_p3 (ti_nle c_27) (by decide)
        refine lv_aload_n hx hb dX4_canPlace_30 rfl (lv_at hl 0 rfl) ?_
        refine lv_aload_n hx hb dX4_canPlace_31 rfl (lv_at hl 1 rfl) ?_
        refine lv_iload_n hx hb dX4_canPlace_32 rfl (lv_at hl 2 rfl) ?_
        refine lv_iload hx hb dX4_canPlace_33 (lv_at hl 4 rfl) ?_
        refine tk_ir (va_runV (As := [.ref p1, .int p2, .int x4]) (rest := []) ⟨hx, hb, hml, hown, hts⟩ (c_X4_isQuiet l D cy z H.size Ps ws hw.1 p0 p1 p2 x4 h_p0 h_p1 r_p2 (r_x4.to (by decide))) (cwV 3 hts (gV tw_798 tw_800 ts_21 tw_8 tw_801) rfl rfl rfl (by decide +kernel) ⟨Nat.le_of_ble_eq_true rfl, Nat.le_of_ble_eq_true rfl⟩) (tg_preV hw hK hSD hA (ci := 4) (q := (RX4, TX4, 2)) rfl h_p0 rfl) rfl rfl hl.1 rfl (lv_room (Nat.le_of_ble_eq_true rfl)) dX4_canPlace_35 ⟨Nat.le_of_ble_eq_true rfl, Nat.le_of_ble_eq_true rfl⟩) hw hA (fun v_1  H locs hp_v_1 hw => ?_)
        have r_v_1 : RI v_1 1 1 := hp_v_1.1
        refine lv_if_eq (tgt := 63) hx hb dX4_canPlace_38 (by decide) (fun c_38 => ?_) (fun c_38 => ?_)
        · have r_v_1 : RI v_1 1 0 := rc_eq1 r_v_1 rl_0 (ti_eq c_38) (by decide)
          exact (r_v_1.no (by decide)).elim
        · refine lv_aload_n hx hb dX4_canPlace_41 rfl (lv_at hl 0 rfl) ?_
          refine tg_get (ci := 4) (ts := ty_ROOMS) (C := RX4) (T := TX4) (N := 2) hx hb hts inX4 hown hK hw h_p0 rfl rfl 1 (by decide) (hts _ tw_170) (fun _ h9 => h9) (ft := vR 17) rfl dX4_canPlace_42 (fun u_2 hv_u_2 m_u_2 => ?_)
          obtain ⟨vu_2, rfl, h_vu_2⟩ := hv_u_2
          refine lv_iload_n hx hb dX4_canPlace_45 rfl (lv_at hl 2 rfl) ?_
          refine lv_iload hx hb dX4_canPlace_46 (lv_at hl 4 rfl) ?_
          refine tg_iast hx hb hK hw h_vu_2 rfl 0 0 r_p2 (by decide) r_x4 (by exact fun _ _ _ => by decide) (fun _ _ _ _ _ => trivial) (by decide) dX4_canPlace_48 (fun ws H locs hw hF9 hU9 => ?_)
          refine lv_aload_n hx hb dX4_canPlace_49 rfl (lv_at hl 0 rfl) ?_
          refine lv_aload_n hx hb dX4_canPlace_50 rfl (lv_at hl 1 rfl) ?_
          refine lv_iload_n hx hb dX4_canPlace_51 rfl (lv_at hl 2 rfl) ?_
          refine lv_iconst (v := 1) hx hb dX4_canPlace_52 (by decide) ?_
          refine lv_iadd hx hb dX4_canPlace_53 (lv_topi (fun v_3 e_v_3 => ?_))
          obtain ⟨t_v_3, r_v_3⟩ := tq_add (lo := 1) (hi := 1) r_p2 rl_1 (by decide +kernel) e_v_3
          have t_v_3 : v_3.toInt = p2.toInt + 1 := t_v_3
          refine lv_iload_n hx hb dX4_canPlace_54 rfl (lv_at hl 3 rfl) ?_
          refine tk_i (va_runV (As := [.ref p1, .int v_3, .int p3]) (rest := []) ⟨hx, hb, hml, hown, hts⟩ (c_X4_canPlace__1 l D cy z H.size Ps ws hw.1 p0 p1 v_3 p3 h_p0 h_p1 r_v_3 (r_p3.to (by decide))) (cwV 3 hts (gV tw_794 tw_796 ts_20 tw_8 tw_797) rfl rfl rfl (by decide +kernel) ⟨Nat.le_of_ble_eq_true rfl, Nat.le_of_ble_eq_true rfl⟩) (tg_preV hw hK hSD hA (ci := 4) (q := (RX4, TX4, 2)) rfl h_p0 rfl) rfl rfl hl.1 rfl (lv_room (Nat.le_of_ble_eq_true rfl)) dX4_canPlace_55 ⟨Nat.le_of_ble_eq_true rfl, Nat.le_of_ble_eq_true rfl⟩) hw hA ⟨by decide, by decide⟩ (fun v_4 ws H locs hp_v_4 hw hF9 => ?_)
          have r_v_4 : RI v_4 0 1 := hp_v_4.1
          refine lv_if_eq (tgt := 63) hx hb dX4_canPlace_58 (by decide) (fun c_58 => ?_) (fun c_58 => ?_)
          · have r_v_4 : RI v_4 0 0 := rc_eq1 r_v_4 rl_0 (ti_eq c_58) (by decide)
            obtain ⟨v_5, e_v_5⟩ : ∃ q9 : Int32, q9 = x4 + Int32.ofInt 1 := ⟨_, rfl⟩
            obtain ⟨t_v_5, r_v_5⟩ := tq_add (lo := 1) (hi := 2147483647) r_x4 (show RI (Int32.ofInt 1) 1 1 by unfold RI; decide +kernel) (by decide +kernel) e_v_5
            have t_v_5 : v_5.toInt = x4.toInt + 1 := t_v_5
            refine lv_iinc (v := v_5) (lv' := [(4, .int v_5), (0, .ref p0), (1, .ref p1), (2, .int p2), (3, .int p3)]) hx hb dX4_canPlace_63 hl (k := 4) rfl e_v_5.symm (by decide) rfl (fun ls hl => ?_)
            refine lv_goto (tgt := 24) hx hb dX4_canPlace_66 (by decide) ?_
            exact ih24 v_5 ws _ _ ls (by have q0 := r_v_5.1; have u0 := r_v_5.2; have o0 := r_x4.1; have p0 := r_x4.2; omega) r_p2 (r_p3.to (by decide)) (r_v_5.to (by decide)) hw (lv_sub hl [1, 2, 3, 4, 0] rfl)
          · have r_v_4 : RI v_4 1 1 := rc_neL r_v_4 rl_0 (ti_ne c_58) (by decide)
            refine lv_iconst (v := 1) hx hb dX4_canPlace_61 (by decide) ?_
            subst hQ
            exact W.zret (v := 1) hx hb hr (rfl) (fun t ht hW => ⟨⟨1, ws, rfl, ⟨⟨rl_1.to (by decide), (fun _ => trivial), (fun h0 => trivial)⟩, hw.1, hw.2.2.2.2.1⟩, by rw [ht]; exact hw.2.1, va_K.moved hW.alike hK, hw.2.2.1⟩, hw.2.2.2.1.F ht⟩) hw.2.2.2.1.2.2 dX4_canPlace_62
  refine lv_iload_n hx hb dX4_canPlace_0 rfl (lv_at hl 2 rfl) ?_
  refine lv_aload_n hx hb dX4_canPlace_1 rfl (lv_at hl 1 rfl) ?_
  refine tg_getN (ci := 3) (ts := ty_POST) (C := RX3) (T := TX3) (N := 9) hx hb hts inX3 hown hK hw h_p1 rfl rfl 1 (by decide) (hSD.nest tn_202) (fun _ h9 => h9) (ft := vR 4) rfl dX4_canPlace_2 (fun u_6 hv_u_6 m_u_6 => ?_)
  obtain ⟨vu_6, rfl, h_vu_6⟩ := hv_u_6
  refine lv_iconst (v := 2) hx hb dX4_canPlace_5 (by decide) ?_
  refine tg_iald (lo := 0) (hi := 6) hx hb hK hw h_vu_6 rfl 2 2 rl_2 (by decide) (by decide +kernel) dX4_canPlace_6 (fun v_7 r_v_7 m_v_7 o_v_7 => ?_)
  refine lv_icmp_ge (tgt := 19) hx hb dX4_canPlace_7 (by decide) (fun c_7 => ?_) (fun c_7 => ?_)
  · have r_v_7 : RI v_7 0 0 := rc_le1 r_v_7 r_p2 (ti_le c_7) (by decide)
    refine lv_iconst (v := 1) hx hb dX4_canPlace_19 (by decide) ?_
    subst hQ
    exact W.zret (v := 1) hx hb hr (rfl) (fun t ht hW => ⟨⟨1, w0, rfl, ⟨⟨rl_1.to (by decide), (fun _ => trivial), (fun h0 => trivial)⟩, hw.1, hw.2.2.2.2.1⟩, by rw [ht]; exact hw.2.1, va_K.moved hW.alike hK, hw.2.2.1⟩, hw.2.2.2.1.F ht⟩) hw.2.2.2.1.2.2 dX4_canPlace_20
  · have r_v_7 : RI v_7 1 6 := rc_lt2 r_p2 r_v_7 (ti_nle c_7) (by decide)
    refine lv_iload_n hx hb dX4_canPlace_10 rfl (lv_at hl 2 rfl) ?_
    refine lv_aload_n hx hb dX4_canPlace_11 rfl (lv_at hl 0 rfl) ?_
    refine tg_get (ci := 4) (ts := ty_ROOMS) (C := RX4) (T := TX4) (N := 2) hx hb hts inX4 hown hK hw h_p0 rfl rfl 1 (by decide) (hts _ tw_170) (fun _ h9 => h9) (ft := vR 17) rfl dX4_canPlace_12 (fun u_8 hv_u_8 m_u_8 => ?_)
    obtain ⟨vu_8, rfl, h_vu_8⟩ := hv_u_8
    refine tg_alenI (t0 := 1) (v := 6) hx hb hK hw h_vu_8 rfl rfl rfl dX4_canPlace_15 ?_
    refine lv_icmp_lt (tgt := 21) hx hb dX4_canPlace_16 (by decide) (fun c_16 => ?_) (fun c_16 => ?_)
    · refine lv_iconst (v := 0) hx hb dX4_canPlace_21 (by decide) ?_
      refine lv_istore (lv' := [(4, .int 0), (0, .ref p0), (1, .ref p1), (2, .int p2), (3, .int p3)]) hx hb dX4_canPlace_22 hl (by decide) rfl (fun ls hl => ?_)
      exact B24 4294967298 0 w0 _ _ ls (by have q0 := rl_0.1; have u0 := rl_0.2; omega) r_p2 r_p3 (rl_0.to (by decide)) hw (lv_sub hl [1, 2, 3, 4, 0] rfl)
    · have r_p2 : RI p2 6 0 := rc_le2 rl_6 r_p2 (ti_nlt c_16) (by decide)
      exact (r_p2.no (by decide)).elim
abbrev wr_J7_fill_53178__7 : List (Nat × Nat) := []
abbrev wa_J7_fill_53178__7 : List Nat := [17]
set_option maxHeartbeats 4000000 in
set_option maxRecDepth 100000 in
theorem c_J7_fill_53178__7 (l : Launch) (D : va_G) (cy : Nat → ClassId) (z : Nat → Nat) (sz : Nat) (Ps : PSI) (w0 : va_W) (hT : HT cy GG Ps w0) (p0 : Nat) (p1 : Int32) (h_p0 : (p0, 17) ∈ Ps) (r_p1 : RI p1 (-1) (-1)) : Met l yJ7_fill_53178 (Cond.code yJ7_fill_53178 cJ7_fill_53178 4 none :: gT) ({ frames := 0, cells := 0, slots := 0, locals := 200 } : Room) (va_Pc [.ref p0, .int p1] (PRE D cy z w0 sz)) (va_Qv (fun (u : va_W) => (True) ∧ HT cy GG Ps u ∧ FR wr_J7_fill_53178__7 wa_J7_fill_53178__7 Ps w0 u) (BB D cy (va_A w0 sz) (fun (u : va_W) => u)) (va_A w0 sz)) 0 0 (va_A w0 sz) := by
  refine Met.ofW (cc := cJ7_fill_53178) (maxL := 4) (ret := none) (by decide) rfl ?_
  intro p e s m args below meth c s₁ B hml hv
  obtain ⟨rfl, hsz, hP, hK, hD0, hSD⟩ := hv
  have hx := B.exec
  have hb := B.bytes
  have hr := B.returns
  have hlocks := B.notSynchronized
  have hts : ∀ w ∈ gT, w.before _ s = true := fun w h => atoms_spec (ws := Cond.code yJ7_fill_53178 cJ7_fill_53178 4 none :: gT) B.pre w (List.mem_cons_of_mem _ h)
  have hown : s.vm.findClass RJ7 = some m.cls := findClass_of_methodNamed B.named
  subst hsz
  have hD := hD0.self (sz := s.heap.size)
  generalize hAe : va_A w0 s.heap.size = A at hD hSD ⊢
  have hA : ∀ q : Nat, s.heap.size ≤ q → A q := fun q h => by rw [← hAe]; exact Or.inr h
  have hl := lv_entry ([.ref p0, .int p1]) (n := 4) (Nat.le_of_ble_eq_true rfl)
  rw [lg_entry_eq]
  generalize (lg_sl ([.ref p0, .int p1]) ++ List.replicate (4 - (lg_sl ([.ref p0, .int p1])).length) Slot.unset).toArray = ls at hl ⊢
  have hl : lv_has ls 4 [(0, .ref p0), (1, .int p1)] := hl
  refine nameQ (fun Q hQ => ?_)
  have hw : WD D cy GG A s wr_J7_fill_53178__7 wa_J7_fill_53178__7 Ps w0 Ps w0 s.heap [] := ⟨hT, hP, hD, va_S.rf, FR.rf, hT.1, [], (List.append_nil _).symm⟩
  have B5 : ∀ (nf : Nat) (x2 : Int32) (x3 : Int32) (ws : va_W) (H : Heap) (locs : List Loc) (ls : Array Slot), 6 - x2.toInt < (nf : Int) → RI p1 (-1) (-1) → RI x2 0 6 → RI x3 6 6 → WD D cy GG A s wr_J7_fill_53178__7 wa_J7_fill_53178__7 Ps w0 Ps ws H locs → lv_has ls 4 [(0, .ref p0), (1, .int p1), (2, .int x2), (3, .int x3)] → W p l e (headSpec (Cond.code yJ7_fill_53178 cJ7_fill_53178 4 none :: gT) ({ frames := 0, cells := 0, slots := 0, locals := 200 } : Room)).room s m ([.ref p0, .int p1] : List Value).toArray below meth c H locs 0 0 Q (F0 m 5 ls []) := by
    intro nf5
    induction nf5 with
    | zero =>
      intro x2 x3 ws H locs ls hn5 r_p1 r_x2 r_x3 hw hl
      exact absurd hn5 (by have q0 := r_x2.1; have u0 := r_x2.2; omega)
    | succ nf5 ih5 =>
      intro x2 x3 ws H locs ls hn5 r_p1 r_x2 r_x3 hw hl
      refine lv_iload_n hx hb dJ7_fill_53178_5 rfl (lv_at hl 2 rfl) ?_
      refine lv_iload_n hx hb dJ7_fill_53178_6 rfl (lv_at hl 3 rfl) ?_
      refine lv_icmp_ge (tgt := 20) hx hb dJ7_fill_53178_7 (by decide) (fun c_7 => ?_) (fun c_7 => ?_)
      · have r_x2 : RI x2 6 6 := rc_le2 r_x3 r_x2 (ti_le c_7) (by decide)
        subst hQ
        exact W.vret hx hb hr (fun t ht hW => ⟨⟨ws, rfl, ⟨trivial, hw.1, hw.2.2.2.2.1⟩, by rw [ht]; exact hw.2.1, va_K.moved hW.alike hK, hw.2.2.1⟩, hw.2.2.2.1.F ht⟩) hw.2.2.2.1.2.2 dJ7_fill_53178_20
      · have r_x2 : RI x2 0 5 := rc_lt1 r_x2 r_x3 (ti_nle c_7) (by decide)
        refine lv_aload_n hx hb dJ7_fill_53178_10 rfl (lv_at hl 0 rfl) ?_
        refine lv_iload_n hx hb dJ7_fill_53178_11 rfl (lv_at hl 2 rfl) ?_
        refine lv_iload_n hx hb dJ7_fill_53178_12 rfl (lv_at hl 1 rfl) ?_
        refine tg_iast hx hb hK hw h_p0 rfl 0 5 r_x2 (by decide) r_p1 (by exact fun _ _ _ => by decide) (fun _ _ _ _ _ => trivial) (by decide) dJ7_fill_53178_13 (fun ws H locs hw hF9 hU9 => ?_)
        obtain ⟨v_1, e_v_1⟩ : ∃ q9 : Int32, q9 = x2 + Int32.ofInt 1 := ⟨_, rfl⟩
        obtain ⟨t_v_1, r_v_1⟩ := tq_add (lo := 1) (hi := 6) r_x2 (show RI (Int32.ofInt 1) 1 1 by unfold RI; decide +kernel) (by decide +kernel) e_v_1
        have t_v_1 : v_1.toInt = x2.toInt + 1 := t_v_1
        refine lv_iinc (v := v_1) (lv' := [(2, .int v_1), (0, .ref p0), (1, .int p1), (3, .int x3)]) hx hb dJ7_fill_53178_14 hl (k := 2) rfl e_v_1.symm (by decide) rfl (fun ls hl => ?_)
        refine lv_goto (tgt := 5) hx hb dJ7_fill_53178_17 (by decide) ?_
        exact ih5 v_1 x3 ws _ _ ls (by have q0 := r_v_1.1; have u0 := r_v_1.2; have o0 := r_x2.1; have p0 := r_x2.2; omega) r_p1 (r_v_1.to (by decide)) r_x3 hw (lv_sub hl [1, 2, 0, 3] rfl)
  refine lv_iconst (v := 0) hx hb dJ7_fill_53178_0 (by decide) ?_
  refine lv_istore_n (lv' := [(2, .int 0), (0, .ref p0), (1, .int p1)]) hx hb dJ7_fill_53178_1 rfl hl (by decide) rfl (fun ls hl => ?_)
  refine lv_aload_n hx hb dJ7_fill_53178_2 rfl (lv_at hl 1 rfl) ?_
  refine tg_alenI (t0 := 1) (v := 6) hx hb hK hw h_p0 rfl rfl rfl dJ7_fill_53178_3 ?_
  refine lv_istore_n (lv' := [(3, .int 6), (2, .int 0), (0, .ref p0), (1, .int p1)]) hx hb dJ7_fill_53178_4 rfl hl (by decide) rfl (fun ls hl => ?_)
  exact B5 4294967298 0 6 w0 _ _ ls (by have q0 := rl_0.1; have u0 := rl_0.2; omega) r_p1 (rl_0.to (by decide)) rl_6 hw (lv_sub hl [2, 3, 1, 0] rfl)
abbrev wr_X4_fewestFor : List (Nat × Nat) := []
abbrev wa_X4_fewestFor : List Nat := [16, 17]
set_option maxHeartbeats 4000000 in
set_option maxRecDepth 100000 in
theorem c_X4_fewestFor (l : Launch) (D : va_G) (cy : Nat → ClassId) (z : Nat → Nat) (sz : Nat) (Ps : PSI) (w0 : va_W) (hT : HT cy GG Ps w0) (p0 : Nat) (p1 : Nat) (h_p0 : (p0, 29) ∈ Ps) (h_p1 : (p1, 24) ∈ Ps) : Met l yX4_fewestFor (Cond.code yX4_fewestFor cX4_fewestFor 4 (some .int) :: gT) ({ frames := 9, cells := 0, slots := 0, locals := 1800 } : Room) (va_Pc [.ref p0, .ref p1] (PRE D cy z w0 sz)) (va_Qi (fun (r : Int32) (u : va_W) => (RI r 0 6 ∧ (r = 0 → True) ∧ (¬ r = 0 → True)) ∧ HT cy GG Ps u ∧ FR wr_X4_fewestFor wa_X4_fewestFor Ps w0 u) (BB D cy (va_A w0 sz) (fun (u : va_W) => u)) (va_A w0 sz)) 0 0 (va_A w0 sz) := by
  refine Met.ofW (cc := cX4_fewestFor) (maxL := 4) (ret := (some .int)) (by decide) rfl ?_
  intro p e s m args below meth c s₁ B hml hv
  obtain ⟨rfl, hsz, hP, hK, hD0, hSD⟩ := hv
  have hx := B.exec
  have hb := B.bytes
  have hr := B.returns
  have hlocks := B.notSynchronized
  have hts : ∀ w ∈ gT, w.before _ s = true := fun w h => atoms_spec (ws := Cond.code yX4_fewestFor cX4_fewestFor 4 (some .int) :: gT) B.pre w (List.mem_cons_of_mem _ h)
  have hown : s.vm.findClass RX4 = some m.cls := findClass_of_methodNamed B.named
  subst hsz
  have hD := hD0.self (sz := s.heap.size)
  generalize hAe : va_A w0 s.heap.size = A at hD hSD ⊢
  have hA : ∀ q : Nat, s.heap.size ≤ q → A q := fun q h => by rw [← hAe]; exact Or.inr h
  have hl := lv_entry ([.ref p0, .ref p1]) (n := 4) (Nat.le_of_ble_eq_true rfl)
  rw [lg_entry_eq]
  generalize (lg_sl ([.ref p0, .ref p1]) ++ List.replicate (4 - (lg_sl ([.ref p0, .ref p1])).length) Slot.unset).toArray = ls at hl ⊢
  have hl : lv_has ls 4 [(0, .ref p0), (1, .ref p1)] := hl
  refine nameQ (fun Q hQ => ?_)
  have hw : WD D cy GG A s wr_X4_fewestFor wa_X4_fewestFor Ps w0 Ps w0 s.heap [] := ⟨hT, hP, hD, va_S.rf, FR.rf, hT.1, [], (List.append_nil _).symm⟩
  have B44 : ∀ (nf : Nat) (x2 : Int32) (x3 : Int32) (ws : va_W) (H : Heap) (locs : List Loc) (ls : Array Slot), 6 - x3.toInt < (nf : Int) → RI x2 0 6 → RI x3 0 6 → WD D cy GG A s wr_X4_fewestFor wa_X4_fewestFor Ps w0 Ps ws H locs → lv_has ls 4 [(0, .ref p0), (1, .ref p1), (2, .int x2), (3, .int x3)] → W p l e (headSpec (Cond.code yX4_fewestFor cX4_fewestFor 4 (some .int) :: gT) ({ frames := 9, cells := 0, slots := 0, locals := 1800 } : Room)).room s m ([.ref p0, .ref p1] : List Value).toArray below meth c H locs 0 0 Q (F0 m 44 ls []) := by
    intro nf44
    induction nf44 with
    | zero =>
      intro x2 x3 ws H locs ls hn44 r_x2 r_x3 hw hl
      exact absurd hn44 (by have q0 := r_x3.1; have u0 := r_x3.2; omega)
    | succ nf44 ih44 =>
      intro x2 x3 ws H locs ls hn44 r_x2 r_x3 hw hl
      refine lv_aload_n hx hb dX4_fewestFor_44 rfl (lv_at hl 0 rfl) ?_
      refine lv_aload_n hx hb dX4_fewestFor_45 rfl (lv_at hl 1 rfl) ?_
      refine tg_getN (ci := 8) (ts := ty_WORLD) (C := RX8) (T := TX8) (N := 13) hx hb hts inX8 hown hK hw h_p1 rfl rfl 0 (by decide) (hSD.nest tn_248) (fun _ h9 => h9) (ft := vR 25) rfl dX4_fewestFor_46 (fun u_1 hv_u_1 m_u_1 => ?_)
      obtain ⟨vu_1, rfl, h_vu_1⟩ := hv_u_1
      refine lv_iconst (v := 0) hx hb dX4_fewestFor_49 (by decide) ?_
      refine lv_iload_n hx hb dX4_fewestFor_50 rfl (lv_at hl 3 rfl) ?_
      refine tk_i (va_runV (As := [.ref vu_1, .int 0, .int x3]) (rest := []) ⟨hx, hb, hml, hown, hts⟩ (c_X4_canPlace l D cy z H.size Ps ws hw.1 p0 vu_1 0 x3 h_p0 h_vu_1 rl_0 (r_x3.to (by decide))) (cwV 3 hts (gV tw_794 tw_796 ts_20 tw_8 tw_797) rfl rfl rfl (by decide +kernel) ⟨Nat.le_of_ble_eq_true rfl, Nat.le_of_ble_eq_true rfl⟩) (tg_preV hw hK hSD hA (ci := 4) (q := (RX4, TX4, 2)) rfl h_p0 rfl) rfl rfl hl.1 rfl (lv_room (Nat.le_of_ble_eq_true rfl)) dX4_fewestFor_51 ⟨Nat.le_of_ble_eq_true rfl, Nat.le_of_ble_eq_true rfl⟩) hw hA ⟨by decide, by decide⟩ (fun v_2 ws H locs hp_v_2 hw hF9 => ?_)
      have r_v_2 : RI v_2 0 1 := hp_v_2.1
      refine lv_if_ne (tgt := 68) hx hb dX4_fewestFor_54 (by decide) (fun c_54 => ?_) (fun c_54 => ?_)
      · have r_v_2 : RI v_2 1 1 := rc_neL r_v_2 rl_0 (ti_ne c_54) (by decide)
        refine lv_iload_n hx hb dX4_fewestFor_68 rfl (lv_at hl 3 rfl) ?_
        subst hQ
        exact W.iret (v := x3) hx hb hr (fun t ht hW => ⟨⟨x3, ws, rfl, ⟨⟨r_x3.to (by decide), (fun h0 => trivial), (fun h0 => trivial)⟩, hw.1, hw.2.2.2.2.1⟩, by rw [ht]; exact hw.2.1, va_K.moved hW.alike hK, hw.2.2.1⟩, hw.2.2.2.1.F ht⟩) hw.2.2.2.1.2.2 dX4_fewestFor_69
      · have r_v_2 : RI v_2 0 0 := rc_eq1 r_v_2 rl_0 (ti_eq c_54) (by decide)
        refine lv_iload_n hx hb dX4_fewestFor_57 rfl (lv_at hl 3 rfl) ?_
        refine lv_iload_n hx hb dX4_fewestFor_58 rfl (lv_at hl 2 rfl) ?_
        refine lv_icmp_ge (tgt := 68) hx hb dX4_fewestFor_59 (by decide) (fun c_59 => ?_) (fun c_59 => ?_)
        · refine lv_iload_n hx hb dX4_fewestFor_68 rfl (lv_at hl 3 rfl) ?_
          subst hQ
          exact W.iret (v := x3) hx hb hr (fun t ht hW => ⟨⟨x3, ws, rfl, ⟨⟨r_x3.to (by decide), (fun h0 => trivial), (fun h0 => trivial)⟩, hw.1, hw.2.2.2.2.1⟩, by rw [ht]; exact hw.2.1, va_K.moved hW.alike hK, hw.2.2.1⟩, hw.2.2.2.1.F ht⟩) hw.2.2.2.1.2.2 dX4_fewestFor_69
        · have r_x3 : RI x3 0 5 := rc_lt1 r_x3 r_x2 (ti_nle c_59) (by decide)
          have r_x2 : RI x2 1 6 := rc_lt2 r_x3 r_x2 (ti_nle c_59) (by decide)
          obtain ⟨v_3, e_v_3⟩ : ∃ q9 : Int32, q9 = x3 + Int32.ofInt 1 := ⟨_, rfl⟩
          obtain ⟨t_v_3, r_v_3⟩ := tq_add (lo := 1) (hi := 6) r_x3 (show RI (Int32.ofInt 1) 1 1 by unfold RI; decide +kernel) (by decide +kernel) e_v_3
          have t_v_3 : v_3.toInt = x3.toInt + 1 := t_v_3
          refine lv_iinc (v := v_3) (lv' := [(3, .int v_3), (0, .ref p0), (1, .ref p1), (2, .int x2)]) hx hb dX4_fewestFor_62 hl (k := 3) rfl e_v_3.symm (by decide) rfl (fun ls hl => ?_)
          refine lv_goto (tgt := 44) hx hb dX4_fewestFor_65 (by decide) ?_
          exact ih44 x2 v_3 ws _ _ ls (by have q0 := r_v_3.1; have u0 := r_v_3.2; have o0 := r_x3.1; have p0 := r_x3.2; omega) (r_x2.to (by decide)) (r_v_3.to (by decide)) hw (lv_sub hl [1, 2, 3, 0] rfl)
  have B20 : ∀ (nf : Nat) (x2 : Int32) (x3 : Int32) (ws : va_W) (H : Heap) (locs : List Loc) (ls : Array Slot), 6 - x3.toInt < (nf : Int) → RI x2 0 6 → RI x3 0 6 → WD D cy GG A s wr_X4_fewestFor wa_X4_fewestFor Ps w0 Ps ws H locs → lv_has ls 4 [(0, .ref p0), (1, .ref p1), (2, .int x2), (3, .int x3)] → W p l e (headSpec (Cond.code yX4_fewestFor cX4_fewestFor 4 (some .int) :: gT) ({ frames := 9, cells := 0, slots := 0, locals := 1800 } : Room)).room s m ([.ref p0, .ref p1] : List Value).toArray below meth c H locs 0 0 Q (F0 m 20 ls []) := by
    intro nf20
    induction nf20 with
    | zero =>
      intro x2 x3 ws H locs ls hn20 r_x2 r_x3 hw hl
      exact absurd hn20 (by have q0 := r_x3.1; have u0 := r_x3.2; omega)
    | succ nf20 ih20 =>
      intro x2 x3 ws H locs ls hn20 r_x2 r_x3 hw hl
      refine lv_iload_n hx hb dX4_fewestFor_20 rfl (lv_at hl 3 rfl) ?_
      refine lv_iload_n hx hb dX4_fewestFor_21 rfl (lv_at hl 2 rfl) ?_
      refine lv_icmp_ge (tgt := 42) hx hb dX4_fewestFor_22 (by decide) (fun c_22 => ?_) (fun c_22 => ?_)
      · refine lv_iconst (v := 0) hx hb dX4_fewestFor_42 (by decide) ?_
        refine lv_istore_n (lv' := [(3, .int 0), (0, .ref p0), (1, .ref p1), (2, .int x2)]) hx hb dX4_fewestFor_43 rfl hl (by decide) rfl (fun ls hl => ?_)
        exact B44 4294967298 x2 0 ws _ _ ls (by have q0 := rl_0.1; have u0 := rl_0.2; omega) r_x2 (rl_0.to (by decide)) hw (lv_sub hl [1, 2, 3, 0] rfl)
      · have r_x3 : RI x3 0 5 := rc_lt1 r_x3 r_x2 (ti_nle c_22) (by decide)
        have r_x2 : RI x2 1 6 := rc_lt2 r_x3 r_x2 (ti_nle c_22) (by decide)
        refine lv_aload_n hx hb dX4_fewestFor_25 rfl (lv_at hl 0 rfl) ?_
        refine tg_get (ci := 4) (ts := ty_ROOMS) (C := RX4) (T := TX4) (N := 2) hx hb hts inX4 hown hK hw h_p0 rfl rfl 0 (by decide) (hts _ tw_169) (fun _ h9 => h9) (ft := vR 16) rfl dX4_fewestFor_26 (fun u_4 hv_u_4 m_u_4 => ?_)
        obtain ⟨vu_4, rfl, h_vu_4⟩ := hv_u_4
        refine lv_iload_n hx hb dX4_fewestFor_29 rfl (lv_at hl 3 rfl) ?_
        refine lv_aload_n hx hb dX4_fewestFor_30 rfl (lv_at hl 1 rfl) ?_
        refine lv_iload_n hx hb dX4_fewestFor_31 rfl (lv_at hl 3 rfl) ?_
        refine tk_ir (va_runV (As := [.int x3]) (rest := [.int x3, .ref vu_4]) ⟨hx, hb, hml, hown, hts⟩ (c_X8_isNow l D cy z H.size Ps ws hw.1 p1 x3 h_p1 r_x3) (cwV 1 hts (gV tw_793 tw_570 tw_571 tw_12 tw_572) rfl rfl rfl (by decide +kernel) ⟨Nat.le_of_ble_eq_true rfl, Nat.le_of_ble_eq_true rfl⟩) (tg_preV hw hK hSD hA (ci := 8) (q := (RX8, TX8, 13)) rfl h_p1 rfl) rfl rfl hl.1 rfl (lv_room (Nat.le_of_ble_eq_true rfl)) dX4_fewestFor_32 ⟨Nat.le_of_ble_eq_true rfl, Nat.le_of_ble_eq_true rfl⟩) hw hA (fun v_5  H locs hp_v_5 hw => ?_)
        have r_v_5 : RI v_5 (-1) 5 := hp_v_5.1
        by_cases c9_v_5 : v_5.toInt < 0
        · have r_v_5 : RI v_5 (-1) (-1) := by unfold RI at r_v_5 ⊢; omega
          have x_NBQ_p1_x3 := (hp_v_5.2.2.2.2.1 (by omega)).1
          refine tg_iast hx hb hK hw h_vu_4 rfl 0 5 r_x3 (by decide) r_v_5 (by exact fun _ _ _ => by decide) (fun _ _ _ _ _ => trivial) (by decide) dX4_fewestFor_35 (fun ws H locs hw hF9 hU9 => ?_)
          have x_NBQ_p1_x3 := WX.over hF9 x_NBQ_p1_x3 (by decide)
          obtain ⟨v_6, e_v_6⟩ : ∃ q9 : Int32, q9 = x3 + Int32.ofInt 1 := ⟨_, rfl⟩
          obtain ⟨t_v_6, r_v_6⟩ := tq_add (lo := 1) (hi := 6) r_x3 (show RI (Int32.ofInt 1) 1 1 by unfold RI; decide +kernel) (by decide +kernel) e_v_6
          have t_v_6 : v_6.toInt = x3.toInt + 1 := t_v_6
          refine lv_iinc (v := v_6) (lv' := [(3, .int v_6), (0, .ref p0), (1, .ref p1), (2, .int x2)]) hx hb dX4_fewestFor_36 hl (k := 3) rfl e_v_6.symm (by decide) rfl (fun ls hl => ?_)
          refine lv_goto (tgt := 20) hx hb dX4_fewestFor_39 (by decide) ?_
          exact ih20 x2 v_6 ws _ _ ls (by have q0 := r_v_6.1; have u0 := r_v_6.2; have o0 := r_x3.1; have p0 := r_x3.2; omega) (r_x2.to (by decide)) (r_v_6.to (by decide)) hw (lv_sub hl [1, 2, 3, 0] rfl)
        · have r_v_5 : RI v_5 0 5 := by unfold RI at r_v_5 ⊢; omega
          have x_WBQ_p1_x3 := (hp_v_5.2.2.2.2.2 (by omega)).1
          refine tg_iast hx hb hK hw h_vu_4 rfl 0 5 r_x3 (by decide) r_v_5 (by exact fun _ _ _ => by decide) (fun _ _ _ _ _ => trivial) (by decide) dX4_fewestFor_35 (fun ws H locs hw hF9 hU9 => ?_)
          have x_WBQ_p1_x3 := WX.over hF9 x_WBQ_p1_x3 (by decide)
          obtain ⟨v_7, e_v_7⟩ : ∃ q9 : Int32, q9 = x3 + Int32.ofInt 1 := ⟨_, rfl⟩
          obtain ⟨t_v_7, r_v_7⟩ := tq_add (lo := 1) (hi := 6) r_x3 (show RI (Int32.ofInt 1) 1 1 by unfold RI; decide +kernel) (by decide +kernel) e_v_7
          have t_v_7 : v_7.toInt = x3.toInt + 1 := t_v_7
          refine lv_iinc (v := v_7) (lv' := [(3, .int v_7), (0, .ref p0), (1, .ref p1), (2, .int x2)]) hx hb dX4_fewestFor_36 hl (k := 3) rfl e_v_7.symm (by decide) rfl (fun ls hl => ?_)
          refine lv_goto (tgt := 20) hx hb dX4_fewestFor_39 (by decide) ?_
          exact ih20 x2 v_7 ws _ _ ls (by have q0 := r_v_7.1; have u0 := r_v_7.2; have o0 := r_x3.1; have p0 := r_x3.2; omega) (r_x2.to (by decide)) (r_v_7.to (by decide)) hw (lv_sub hl [1, 2, 3, 0] rfl)
  refine lv_aload_n hx hb dX4_fewestFor_0 rfl (lv_at hl 1 rfl) ?_
  refine tg_getN (ci := 8) (ts := ty_WORLD) (C := RX8) (T := TX8) (N := 13) hx hb hts inX8 hown hK hw h_p1 rfl rfl 0 (by decide) (hSD.nest tn_248) (fun _ h9 => h9) (ft := vR 25) rfl dX4_fewestFor_1 (fun u_8 hv_u_8 m_u_8 => ?_)
  obtain ⟨vu_8, rfl, h_vu_8⟩ := hv_u_8
  refine tg_getN (ci := 3) (ts := ty_POST) (C := RX3) (T := TX3) (N := 9) hx hb hts inX3 hown hK hw h_vu_8 rfl rfl 1 (by decide) (hSD.nest tn_202) (fun _ h9 => h9) (ft := vR 4) rfl dX4_fewestFor_4 (fun u_9 hv_u_9 m_u_9 => ?_)
  obtain ⟨vu_9, rfl, h_vu_9⟩ := hv_u_9
  refine lv_iconst (v := 2) hx hb dX4_fewestFor_7 (by decide) ?_
  refine tg_iald (lo := 0) (hi := 6) hx hb hK hw h_vu_9 rfl 2 2 rl_2 (by decide) (by decide +kernel) dX4_fewestFor_8 (fun v_10 r_v_10 m_v_10 o_v_10 => ?_)
  refine lv_istore_n (lv' := [(2, .int v_10), (0, .ref p0), (1, .ref p1)]) hx hb dX4_fewestFor_9 rfl hl (by decide) rfl (fun ls hl => ?_)
  refine lv_aload_n hx hb dX4_fewestFor_10 rfl (lv_at hl 1 rfl) ?_
  refine tg_get (ci := 4) (ts := ty_ROOMS) (C := RX4) (T := TX4) (N := 2) hx hb hts inX4 hown hK hw h_p0 rfl rfl 1 (by decide) (hts _ tw_170) (fun _ h9 => h9) (ft := vR 17) rfl dX4_fewestFor_11 (fun u_11 hv_u_11 m_u_11 => ?_)
  obtain ⟨vu_11, rfl, h_vu_11⟩ := hv_u_11
  refine lv_iconst (v := (-1)) hx hb dX4_fewestFor_14 (by decide) ?_
  refine tk_v (va_runS (As := [.ref vu_11, .int (-1)]) (rest := []) ⟨hx, hb, hml, hown, hts⟩ (c_J7_fill_53178__7 l D cy z s.heap.size Ps w0 hw.1 vu_11 (-1) h_vu_11 rl_m1) (va_cwS 2 hts (gS tw_166 tw_167 tw_9 tw_168) rfl rfl rfl (by decide +kernel) ⟨Nat.le_of_ble_eq_true rfl, Nat.le_of_ble_eq_true rfl⟩) (tg_preS hw hK hSD hA) rfl rfl hl.1 rfl (lv_room (Nat.le_of_ble_eq_true rfl)) dX4_fewestFor_15 ⟨Nat.le_of_ble_eq_true rfl, Nat.le_of_ble_eq_true rfl⟩) hw hA ⟨by decide, by decide⟩ (fun ws H locs hp_v_12 hw hF9 => ?_)
  refine lv_iconst (v := 0) hx hb dX4_fewestFor_18 (by decide) ?_
  refine lv_istore_n (lv' := [(3, .int 0), (2, .int v_10), (0, .ref p0), (1, .ref p1)]) hx hb dX4_fewestFor_19 rfl hl (by decide) rfl (fun ls hl => ?_)
  exact B20 4294967298 v_10 0 ws _ _ ls (by have q0 := rl_0.1; have u0 := rl_0.2; omega) r_v_10 (rl_0.to (by decide)) hw (lv_sub hl [2, 3, 1, 0] rfl)
abbrev wr_X5_readOne__8 : List (Nat × Nat) := [(7, 10), (7, 11)]
abbrev wa_X5_readOne__8 : List Nat := []
set_option maxHeartbeats 4000000 in
set_option maxRecDepth 100000 in
theorem c_X5_readOne__8 (l : Launch) (D : va_G) (cy : Nat → ClassId) (z : Nat → Nat) (sz : Nat) (Ps : PSI) (w0 : va_W) (hT : HT cy GG Ps w0) (p0 : Nat) (p1 : Nat) (p2 : Nat) (p3 : Int32) (h_p0 : (p0, 32) ∈ Ps) (h_p1 : (p1, 26) ∈ Ps) (h_p2 : (p2, 25) ∈ Ps) (r_p3 : RI p3 9 9) : Met l yX5_readOne (Cond.code yX5_readOne cX5_readOne 5 none :: gT) ({ frames := 2, cells := 0, slots := 0, locals := 400 } : Room) (va_Pc [.ref p0, .ref p1, .ref p2, .int p3] (PRE D cy z w0 sz)) (va_Qv (fun (u : va_W) => ((∃ v9 : Int32, FLD u p1 7 10 (.int v9) ∧ RI v9 1 4) ∧ True) ∧ HT cy GG Ps u ∧ FR wr_X5_readOne__8 wa_X5_readOne__8 Ps w0 u) (BB D cy (va_A w0 sz) (fun (u : va_W) => u)) (va_A w0 sz)) 0 0 (va_A w0 sz) := by
  refine Met.ofW (cc := cX5_readOne) (maxL := 5) (ret := none) (by decide) rfl ?_
  intro p e s m args below meth c s₁ B hml hv
  obtain ⟨rfl, hsz, hP, hK, hD0, hSD⟩ := hv
  have hx := B.exec
  have hb := B.bytes
  have hr := B.returns
  have hlocks := B.notSynchronized
  have hts : ∀ w ∈ gT, w.before _ s = true := fun w h => atoms_spec (ws := Cond.code yX5_readOne cX5_readOne 5 none :: gT) B.pre w (List.mem_cons_of_mem _ h)
  have hown : s.vm.findClass RX5 = some m.cls := findClass_of_methodNamed B.named
  subst hsz
  have hD := hD0.self (sz := s.heap.size)
  generalize hAe : va_A w0 s.heap.size = A at hD hSD ⊢
  have hA : ∀ q : Nat, s.heap.size ≤ q → A q := fun q h => by rw [← hAe]; exact Or.inr h
  have hl := lv_entry ([.ref p0, .ref p1, .ref p2, .int p3]) (n := 5) (Nat.le_of_ble_eq_true rfl)
  rw [lg_entry_eq]
  generalize (lg_sl ([.ref p0, .ref p1, .ref p2, .int p3]) ++ List.replicate (5 - (lg_sl ([.ref p0, .ref p1, .ref p2, .int p3])).length) Slot.unset).toArray = ls at hl ⊢
  have hl : lv_has ls 5 [(0, .ref p0), (1, .ref p1), (2, .ref p2), (3, .int p3)] := hl
  refine nameQ (fun Q hQ => ?_)
  have hw : WD D cy GG A s wr_X5_readOne__8 wa_X5_readOne__8 Ps w0 Ps w0 s.heap [] := ⟨hT, hP, hD, va_S.rf, FR.rf, hT.1, [], (List.append_nil _).symm⟩
  have B57 : ∀ (x4 : Int32) (z1_10 : Int32) (ws : va_W) (H : Heap) (locs : List Loc) (ls : Array Slot), RI p3 9 9 → RI x4 (-2147483648) 2147483647 → RI z1_10 1 4 → FLD ws p1 7 10 (.int z1_10) → WD D cy GG A s wr_X5_readOne__8 wa_X5_readOne__8 Ps w0 Ps ws H locs → lv_has ls 5 [(0, .ref p0), (1, .ref p1), (2, .ref p2), (3, .int p3), (4, .int x4)] → W p l e (headSpec (Cond.code yX5_readOne cX5_readOne 5 none :: gT) ({ frames := 2, cells := 0, slots := 0, locals := 400 } : Room)).room s m ([.ref p0, .ref p1, .ref p2, .int p3] : List Value).toArray below meth c H locs 0 0 Q (F0 m 57 ls []) := by
    intro x4 z1_10 ws H locs ls r_p3 r_x4 r_z1_10 m_z1_10 hw hl
    refine lv_aload_n hx hb dX5_readOne_57 rfl (lv_at hl 1 rfl) ?_
    refine tg_memN (ci := 7) (C := RX7) (T := TX7) (N := 12) hx hb hts inX7 hown hK hw 10 m_z1_10 rfl (by decide) (hSD.nest tn_103) (fun _ h9 => h9) dX5_readOne_58 ?_
    refine lv_if_eq (tgt := 65) hx hb dX5_readOne_61 (by decide) (fun c_61 => ?_) (fun c_61 => ?_)
    · have r_z1_10 : RI z1_10 1 0 := rc_eq1 r_z1_10 rl_0 (ti_eq c_61) (by decide)
      exact (r_z1_10.no (by decide)).elim
    · subst hQ
      exact W.vret hx hb hr (fun t ht hW => ⟨⟨ws, rfl, ⟨⟨⟨_, m_z1_10, r_z1_10⟩, trivial⟩, hw.1, hw.2.2.2.2.1⟩, by rw [ht]; exact hw.2.1, va_K.moved hW.alike hK, hw.2.2.1⟩, hw.2.2.2.1.F ht⟩) hw.2.2.2.1.2.2 dX5_readOne_64
  have B52 : ∀ (x4 : Int32) (z1_7 : Int32) (ws : va_W) (H : Heap) (locs : List Loc) (ls : Array Slot), RI p3 9 9 → RI x4 40 155 → RI z1_7 40 155 → FLD ws p1 7 7 (.int z1_7) → WD D cy GG A s wr_X5_readOne__8 wa_X5_readOne__8 Ps w0 Ps ws H locs → lv_has ls 5 [(0, .ref p0), (1, .ref p1), (2, .ref p2), (3, .int p3), (4, .int x4)] → W p l e (headSpec (Cond.code yX5_readOne cX5_readOne 5 none :: gT) ({ frames := 2, cells := 0, slots := 0, locals := 400 } : Room)).room s m ([.ref p0, .ref p1, .ref p2, .int p3] : List Value).toArray below meth c H locs 0 0 Q (F0 m 52 ls []) := by
    intro x4 z1_7 ws H locs ls r_p3 r_x4 r_z1_7 m_z1_7 hw hl
    refine lv_aload_n hx hb dX5_readOne_52 rfl (lv_at hl 1 rfl) ?_
    refine lv_iconst (v := 4) hx hb dX5_readOne_53 (by decide) ?_
    refine tk_v (va_runV (As := [.int 4]) (rest := []) ⟨hx, hb, hml, hown, hts⟩ (c_X7_refuse l D cy z H.size Ps ws hw.1 p1 4 h_p1 (rl_4.to (by decide))) (cwV 1 hts (gV tw_981 tw_443 tw_444 tw_2 tw_445) rfl rfl rfl (by decide +kernel) ⟨Nat.le_of_ble_eq_true rfl, Nat.le_of_ble_eq_true rfl⟩) (tg_preV hw hK hSD hA (ci := 7) (q := (RX7, TX7, 12)) rfl h_p1 rfl) rfl rfl hl.1 rfl (lv_room (Nat.le_of_ble_eq_true rfl)) dX5_readOne_54 ⟨Nat.le_of_ble_eq_true rfl, Nat.le_of_ble_eq_true rfl⟩) hw hA ⟨by decide, by decide⟩ (fun ws H locs hp_v_1 hw hF9 => ?_)
    have m_z1_7 := FLD.over hF9 m_z1_7 (by decide)
    obtain ⟨v_2, m_v_2, r_v_2⟩ := (hp_v_1.1)
    exact B57 x4 v_2 ws _ _ ls r_p3 (r_x4.to (by decide)) r_v_2 m_v_2 hw hl
  have B37 : ∀ (x4 : Int32) (z1_7 : Int32) (ws : va_W) (H : Heap) (locs : List Loc) (ls : Array Slot), RI p3 9 9 → RI x4 40 155 → RI z1_7 40 155 → FLD ws p1 7 7 (.int z1_7) → WD D cy GG A s wr_X5_readOne__8 wa_X5_readOne__8 Ps w0 Ps ws H locs → lv_has ls 5 [(0, .ref p0), (1, .ref p1), (2, .ref p2), (3, .int p3), (4, .int x4)] → W p l e (headSpec (Cond.code yX5_readOne cX5_readOne 5 none :: gT) ({ frames := 2, cells := 0, slots := 0, locals := 400 } : Room)).room s m ([.ref p0, .ref p1, .ref p2, .int p3] : List Value).toArray below meth c H locs 0 0 Q (F0 m 37 ls []) := by
    intro x4 z1_7 ws H locs ls r_p3 r_x4 r_z1_7 m_z1_7 hw hl
    refine lv_aload_n hx hb dX5_readOne_37 rfl (lv_at hl 0 rfl) ?_
    refine tg_get (ci := 5) (ts := ty_SENT) (C := RX5) (T := TX5) (N := 5) hx hb hts inX5 hown hK hw h_p0 rfl rfl 4 (by decide) (hts _ tw_955) (fun _ h9 => h9) (ft := vI (-2147483648) 2147483647) rfl dX5_readOne_38 (fun u_3 hv_u_3 m_u_3 => ?_)
    obtain ⟨vu_3, rfl, r_vu_3⟩ := hv_u_3
    refine lv_bipush (v := 20) hx hb dX5_readOne_41 (by decide) ?_
    refine lv_icmp_ge (tgt := 52) hx hb dX5_readOne_43 (by decide) (fun c_43 => ?_) (fun c_43 => ?_)
    · have r_vu_3 : RI vu_3 20 2147483647 := rc_le2 rl_20 r_vu_3 (ti_le c_43) (by decide)
      exact B52 x4 z1_7 ws _ _ ls r_p3 r_x4 r_z1_7 m_z1_7 hw hl
    · have r_vu_3 : RI vu_3 (-2147483648) 19 := rc_lt1 r_vu_3 rl_20 (ti_nle c_43) (by decide)
      refine lv_iload_n hx hb dX5_readOne_46 rfl (lv_at hl 3 rfl) ?_
      refine lv_bipush (v := 8) hx hb dX5_readOne_47 (by decide) ?_
      refine lv_icmp_le (tgt := 57) hx hb dX5_readOne_49 (by decide) (fun c_49 => ?_) (fun c_49 => ?_)
      · have r_p3 : RI p3 9 8 := rc_le1 r_p3 rl_8 (ti_le c_49) (by decide)
        exact (r_p3.no (by decide)).elim
      · exact B52 x4 z1_7 ws _ _ ls r_p3 r_x4 r_z1_7 m_z1_7 hw hl
  have B29 : ∀ (x4 : Int32) (ws : va_W) (H : Heap) (locs : List Loc) (ls : Array Slot), RI p3 9 9 → RI x4 (-2147483648) 2147483647 → WD D cy GG A s wr_X5_readOne__8 wa_X5_readOne__8 Ps w0 Ps ws H locs → lv_has ls 5 [(0, .ref p0), (1, .ref p1), (2, .ref p2), (3, .int p3), (4, .int x4)] → W p l e (headSpec (Cond.code yX5_readOne cX5_readOne 5 none :: gT) ({ frames := 2, cells := 0, slots := 0, locals := 400 } : Room)).room s m ([.ref p0, .ref p1, .ref p2, .int p3] : List Value).toArray below meth c H locs 0 0 Q (F0 m 29 ls []) := by
    intro x4 ws H locs ls r_p3 r_x4 hw hl
    refine lv_aload_n hx hb dX5_readOne_29 rfl (lv_at hl 1 rfl) ?_
    refine lv_iconst (v := 1) hx hb dX5_readOne_30 (by decide) ?_
    refine tk_v (va_runV (As := [.int 1]) (rest := []) ⟨hx, hb, hml, hown, hts⟩ (c_X7_refuse l D cy z H.size Ps ws hw.1 p1 1 h_p1 (rl_1.to (by decide))) (cwV 1 hts (gV tw_981 tw_443 tw_444 tw_2 tw_445) rfl rfl rfl (by decide +kernel) ⟨Nat.le_of_ble_eq_true rfl, Nat.le_of_ble_eq_true rfl⟩) (tg_preV hw hK hSD hA (ci := 7) (q := (RX7, TX7, 12)) rfl h_p1 rfl) rfl rfl hl.1 rfl (lv_room (Nat.le_of_ble_eq_true rfl)) dX5_readOne_31 ⟨Nat.le_of_ble_eq_true rfl, Nat.le_of_ble_eq_true rfl⟩) hw hA ⟨by decide, by decide⟩ (fun ws H locs hp_v_4 hw hF9 => ?_)
    obtain ⟨v_5, m_v_5, r_v_5⟩ := (hp_v_4.1)
    refine lv_goto (tgt := 57) hx hb dX5_readOne_34 (by decide) ?_
    exact B57 x4 v_5 ws _ _ ls r_p3 r_x4 r_v_5 m_v_5 hw hl
  refine lv_aload_n hx hb dX5_readOne_0 rfl (lv_at hl 1 rfl) ?_
  refine tg_getN (ci := 7) (ts := ty_TAPE) (C := RX7) (T := TX7) (N := 12) hx hb hts inX7 hown hK hw h_p1 rfl rfl 7 (by decide) (hSD.nest tn_96) (fun _ h9 => h9) (ft := vI (-2147483648) 2147483647) rfl dX5_readOne_1 (fun u_6 hv_u_6 m_u_6 => ?_)
  obtain ⟨vu_6, rfl, r_vu_6⟩ := hv_u_6
  refine lv_istore (lv' := [(4, .int vu_6), (0, .ref p0), (1, .ref p1), (2, .ref p2), (3, .int p3)]) hx hb dX5_readOne_4 hl (by decide) rfl (fun ls hl => ?_)
  refine lv_iload hx hb dX5_readOne_6 (lv_at hl 0 rfl) ?_
  refine lv_bipush (v := 40) hx hb dX5_readOne_8 (by decide) ?_
  refine lv_icmp_eq (tgt := 37) hx hb dX5_readOne_10 (by decide) (fun c_10 => ?_) (fun c_10 => ?_)
  · have r_vu_6 : RI vu_6 40 40 := rc_eq1 r_vu_6 rl_40 (ti_eq c_10) (by decide)
    exact B37 vu_6 vu_6 w0 _ _ ls r_p3 (r_vu_6.to (by decide)) (r_vu_6.to (by decide)) m_u_6 hw (lv_sub hl [1, 2, 3, 4, 0] rfl)
  · refine lv_iload hx hb dX5_readOne_13 (lv_at hl 0 rfl) ?_
    refine lv_sipush (v := 146) hx hb dX5_readOne_15 (by decide) ?_
    refine lv_icmp_lt (tgt := 29) hx hb dX5_readOne_18 (by decide) (fun c_18 => ?_) (fun c_18 => ?_)
    · have r_vu_6 : RI vu_6 (-2147483648) 145 := rc_lt1 r_vu_6 rl_146 (ti_lt c_18) (by decide)
      exact B29 vu_6 w0 _ _ ls r_p3 (r_vu_6.to (by decide)) hw (lv_sub hl [1, 2, 3, 4, 0] rfl)
    · have r_vu_6 : RI vu_6 146 2147483647 := rc_le2 rl_146 r_vu_6 (ti_nlt c_18) (by decide)
      refine lv_iload hx hb dX5_readOne_21 (lv_at hl 0 rfl) ?_
      refine lv_sipush (v := 155) hx hb dX5_readOne_23 (by decide) ?_
      refine lv_icmp_le (tgt := 37) hx hb dX5_readOne_26 (by decide) (fun c_26 => ?_) (fun c_26 => ?_)
      · have r_vu_6 : RI vu_6 146 155 := rc_le1 r_vu_6 rl_155 (ti_le c_26) (by decide)
        exact B37 vu_6 vu_6 w0 _ _ ls r_p3 (r_vu_6.to (by decide)) (r_vu_6.to (by decide)) m_u_6 hw (lv_sub hl [1, 2, 3, 4, 0] rfl)
      · have r_vu_6 : RI vu_6 156 2147483647 := rc_lt2 rl_155 r_vu_6 (ti_nle c_26) (by decide)
        exact B29 vu_6 w0 _ _ ls r_p3 (r_vu_6.to (by decide)) hw (lv_sub hl [1, 2, 3, 4, 0] rfl)
abbrev wr_X5_readCond__8 : List (Nat × Nat) := [(5, 3), (7, 5), (7, 6), (7, 7), (7, 8), (7, 9), (7, 10), (7, 11)]
abbrev wa_X5_readCond__8 : List Nat := [21]
set_option maxHeartbeats 4000000 in
set_option maxRecDepth 100000 in
theorem c_X5_readCond__8 (l : Launch) (D : va_G) (cy : Nat → ClassId) (z : Nat → Nat) (sz : Nat) (Ps : PSI) (w0 : va_W) (hT : HT cy GG Ps w0) (p0 : Nat) (p1 : Nat) (p2 : Nat) (p3 : Int32) (h_p0 : (p0, 32) ∈ Ps) (h_p1 : (p1, 26) ∈ Ps) (h_p2 : (p2, 25) ∈ Ps) (r_p3 : RI p3 9 9) : Met l yX5_readCond (Cond.code yX5_readCond cX5_readCond 7 none :: gT) ({ frames := 3, cells := 0, slots := 0, locals := 600 } : Room) (va_Pc [.ref p0, .ref p1, .ref p2, .int p3] (PRE D cy z w0 sz)) (va_Qv (fun (u : va_W) => ((∃ v9 : Int32, FLD u p1 7 10 (.int v9) ∧ RI v9 1 4) ∧ True) ∧ HT cy GG Ps u ∧ FR wr_X5_readCond__8 wa_X5_readCond__8 Ps w0 u) (BB D cy (va_A w0 sz) (fun (u : va_W) => u)) (va_A w0 sz)) 0 0 (va_A w0 sz) := by
  refine Met.ofW (cc := cX5_readCond) (maxL := 7) (ret := none) (by decide) rfl ?_
  intro p e s m args below meth c s₁ B hml hv
  obtain ⟨rfl, hsz, hP, hK, hD0, hSD⟩ := hv
  have hx := B.exec
  have hb := B.bytes
  have hr := B.returns
  have hlocks := B.notSynchronized
  have hts : ∀ w ∈ gT, w.before _ s = true := fun w h => atoms_spec (ws := Cond.code yX5_readCond cX5_readCond 7 none :: gT) B.pre w (List.mem_cons_of_mem _ h)
  have hown : s.vm.findClass RX5 = some m.cls := findClass_of_methodNamed B.named
  subst hsz
  have hD := hD0.self (sz := s.heap.size)
  generalize hAe : va_A w0 s.heap.size = A at hD hSD ⊢
  have hA : ∀ q : Nat, s.heap.size ≤ q → A q := fun q h => by rw [← hAe]; exact Or.inr h
  have hl := lv_entry ([.ref p0, .ref p1, .ref p2, .int p3]) (n := 7) (Nat.le_of_ble_eq_true rfl)
  rw [lg_entry_eq]
  generalize (lg_sl ([.ref p0, .ref p1, .ref p2, .int p3]) ++ List.replicate (7 - (lg_sl ([.ref p0, .ref p1, .ref p2, .int p3])).length) Slot.unset).toArray = ls at hl ⊢
  have hl : lv_has ls 7 [(0, .ref p0), (1, .ref p1), (2, .ref p2), (3, .int p3)] := hl
  refine nameQ (fun Q hQ => ?_)
  have hw : WD D cy GG A s wr_X5_readCond__8 wa_X5_readCond__8 Ps w0 Ps w0 s.heap [] := ⟨hT, hP, hD, va_S.rf, FR.rf, hT.1, [], (List.append_nil _).symm⟩
  have B106 : ∀ (x4 : Int32) (x5 : Int32) (z1_10 : Int32) (ws : va_W) (H : Heap) (locs : List Loc) (ls : Array Slot), RI p3 9 9 → RI x4 (-2147483648) 2147483647 → RI x5 0 21 → RI z1_10 1 4 → FLD ws p1 7 10 (.int z1_10) → WD D cy GG A s wr_X5_readCond__8 wa_X5_readCond__8 Ps w0 Ps ws H locs → lv_has ls 7 [(0, .ref p0), (1, .ref p1), (2, .ref p2), (3, .int p3), (4, .int x4), (5, .int x5)] → W p l e (headSpec (Cond.code yX5_readCond cX5_readCond 7 none :: gT) ({ frames := 3, cells := 0, slots := 0, locals := 600 } : Room)).room s m ([.ref p0, .ref p1, .ref p2, .int p3] : List Value).toArray below meth c H locs 0 0 Q (F0 m 106 ls []) := by
    intro x4 x5 z1_10 ws H locs ls r_p3 r_x4 r_x5 r_z1_10 m_z1_10 hw hl
    refine lv_iload hx hb dX5_readCond_106 (lv_at hl 4 rfl) ?_
    refine lv_if_eq (tgt := 120) hx hb dX5_readCond_108 (by decide) (fun c_108 => ?_) (fun c_108 => ?_)
    · have r_x4 : RI x4 0 0 := rc_eq1 r_x4 rl_0 (ti_eq c_108) (by decide)
      subst hQ
      exact W.vret hx hb hr (fun t ht hW => ⟨⟨ws, rfl, ⟨⟨⟨_, m_z1_10, r_z1_10⟩, trivial⟩, hw.1, hw.2.2.2.2.1⟩, by rw [ht]; exact hw.2.1, va_K.moved hW.alike hK, hw.2.2.1⟩, hw.2.2.2.1.F ht⟩) hw.2.2.2.1.2.2 dX5_readCond_120
    · refine lv_aload_n hx hb dX5_readCond_111 rfl (lv_at hl 0 rfl) ?_
      refine lv_sipush (v := 144) hx hb dX5_readCond_112 (by decide) ?_
      refine lv_iconst (v := 0) hx hb dX5_readCond_115 (by decide) ?_
      refine lv_iconst (v := 0) hx hb dX5_readCond_116 (by decide) ?_
      refine tk_v (va_runV (As := [.int 144, .int 0, .int 0]) (rest := []) ⟨hx, hb, hml, hown, hts⟩ (c_X5_addStep l D cy z H.size Ps ws hw.1 p0 144 0 0 h_p0 (rl_144.to (by decide)) (rl_0.to (by decide)) (rl_0.to (by decide))) (cwV 3 hts (gV tw_983 tw_985 ts_33 tw_23 tw_986) rfl rfl rfl (by decide +kernel) ⟨Nat.le_of_ble_eq_true rfl, Nat.le_of_ble_eq_true rfl⟩) (tg_preV hw hK hSD hA (ci := 5) (q := (RX5, TX5, 5)) rfl h_p0 rfl) rfl rfl hl.1 rfl (lv_room (Nat.le_of_ble_eq_true rfl)) dX5_readCond_117 ⟨Nat.le_of_ble_eq_true rfl, Nat.le_of_ble_eq_true rfl⟩) hw hA ⟨by decide, by decide⟩ (fun ws H locs hp_v_1 hw hF9 => ?_)
      have m_z1_10 := FLD.over hF9 m_z1_10 (by decide)
      obtain ⟨v_2, m_v_2, r_v_2⟩ := (hp_v_1.1)
      subst hQ
      exact W.vret hx hb hr (fun t ht hW => ⟨⟨ws, rfl, ⟨⟨⟨_, m_z1_10, r_z1_10⟩, trivial⟩, hw.1, hw.2.2.2.2.1⟩, by rw [ht]; exact hw.2.1, va_K.moved hW.alike hK, hw.2.2.1⟩, hw.2.2.2.1.F ht⟩) hw.2.2.2.1.2.2 dX5_readCond_120
  have B13 : ∀ (nf : Nat) (x4 : Int32) (x5 : Int32) (z1_10 : Int32) (ws : va_W) (H : Heap) (locs : List Loc) (ls : Array Slot), 20 - x5.toInt < (nf : Int) → RI p3 9 9 → RI x4 (-2147483648) 2147483647 → RI x5 0 20 → RI z1_10 1 4 → FLD ws p1 7 10 (.int z1_10) → WD D cy GG A s wr_X5_readCond__8 wa_X5_readCond__8 Ps w0 Ps ws H locs → lv_has ls 7 [(0, .ref p0), (1, .ref p1), (2, .ref p2), (3, .int p3), (4, .int x4), (5, .int x5)] → W p l e (headSpec (Cond.code yX5_readCond cX5_readCond 7 none :: gT) ({ frames := 3, cells := 0, slots := 0, locals := 600 } : Room)).room s m ([.ref p0, .ref p1, .ref p2, .int p3] : List Value).toArray below meth c H locs 0 0 Q (F0 m 13 ls []) := by
    intro nf13
    induction nf13 with
    | zero =>
      intro x4 x5 z1_10 ws H locs ls hn13 r_p3 r_x4 r_x5 r_z1_10 m_z1_10 hw hl
      exact absurd hn13 (by have q0 := r_x5.1; have u0 := r_x5.2; omega)
    | succ nf13 ih13 =>
      have B72 : ∀ (x4 : Int32) (x5 : Int32) (x6 : Int32) (z1_10 : Int32) (ws : va_W) (H : Heap) (locs : List Loc) (ls : Array Slot), RI p3 9 9 → RI x4 (-2147483648) 2147483647 → RI x5 0 19 → RI x6 0 1 → RI z1_10 1 4 → FLD ws p1 7 10 (.int z1_10) → 20 - x5.toInt < ((nf13 + 1 : Nat) : Int) → WD D cy GG A s wr_X5_readCond__8 wa_X5_readCond__8 Ps w0 Ps ws H locs → lv_has ls 7 [(0, .ref p0), (1, .ref p1), (2, .ref p2), (3, .int p3), (4, .int x4), (5, .int x5), (6, .int x6)] → W p l e (headSpec (Cond.code yX5_readCond cX5_readCond 7 none :: gT) ({ frames := 3, cells := 0, slots := 0, locals := 600 } : Room)).room s m ([.ref p0, .ref p1, .ref p2, .int p3] : List Value).toArray below meth c H locs 0 0 Q (F0 m 72 ls []) := by
        intro x4 x5 x6 z1_10 ws H locs ls r_p3 r_x4 r_x5 r_x6 r_z1_10 m_z1_10 hn13 hw hl
        refine lv_iload hx hb dX5_readCond_72 (lv_at hl 4 rfl) ?_
        refine lv_iload hx hb dX5_readCond_74 (lv_at hl 6 rfl) ?_
        refine lv_ior hx hb dX5_readCond_76 (lv_topi (fun v_3 e_v_3 => ?_))
        have r_v_3 := ri_any v_3
        refine lv_istore (lv' := [(4, .int v_3), (0, .ref p0), (1, .ref p1), (2, .ref p2), (3, .int p3), (5, .int x5), (6, .int x6)]) hx hb dX5_readCond_77 hl (by decide) rfl (fun ls hl => ?_)
        refine lv_aload_n hx hb dX5_readCond_79 rfl (lv_at hl 1 rfl) ?_
        refine lv_aload_n hx hb dX5_readCond_80 rfl (lv_at hl 2 rfl) ?_
        refine lv_aload_n hx hb dX5_readCond_81 rfl (lv_at hl 3 rfl) ?_
        refine lv_iload_n hx hb dX5_readCond_82 rfl (lv_at hl 4 rfl) ?_
        refine tk_v (va_runV (As := [.ref p1, .ref p2, .int p3]) (rest := []) ⟨hx, hb, hml, hown, hts⟩ (c_X5_readOne__8 l D cy z H.size Ps ws hw.1 p0 p1 p2 p3 h_p0 h_p1 h_p2 r_p3) (cwV 3 hts (gV tw_977 tw_979 ts_32 tw_23 tw_980) rfl rfl rfl (by decide +kernel) ⟨Nat.le_of_ble_eq_true rfl, Nat.le_of_ble_eq_true rfl⟩) (tg_preV hw hK hSD hA (ci := 5) (q := (RX5, TX5, 5)) rfl h_p0 rfl) rfl rfl hl.1 rfl (lv_room (Nat.le_of_ble_eq_true rfl)) dX5_readCond_83 ⟨Nat.le_of_ble_eq_true rfl, Nat.le_of_ble_eq_true rfl⟩) hw hA ⟨by decide, by decide⟩ (fun ws H locs hp_v_4 hw hF9 => ?_)
        obtain ⟨v_5, m_v_5, r_v_5⟩ := (hp_v_4.1)
        refine lv_iload hx hb dX5_readCond_86 (lv_at hl 6 rfl) ?_
        refine lv_if_ne (tgt := 100) hx hb dX5_readCond_88 (by decide) (fun c_88 => ?_) (fun c_88 => ?_)
        · have r_x6 : RI x6 1 1 := rc_neL r_x6 rl_0 (ti_ne c_88) (by decide)
          obtain ⟨v_6, e_v_6⟩ : ∃ q9 : Int32, q9 = x5 + Int32.ofInt 1 := ⟨_, rfl⟩
          obtain ⟨t_v_6, r_v_6⟩ := tq_add (lo := 1) (hi := 20) r_x5 (show RI (Int32.ofInt 1) 1 1 by unfold RI; decide +kernel) (by decide +kernel) e_v_6
          have t_v_6 : v_6.toInt = x5.toInt + 1 := t_v_6
          refine lv_iinc (v := v_6) (lv' := [(5, .int v_6), (4, .int v_3), (0, .ref p0), (1, .ref p1), (2, .ref p2), (3, .int p3), (6, .int x6)]) hx hb dX5_readCond_100 hl (k := 5) rfl e_v_6.symm (by decide) rfl (fun ls hl => ?_)
          refine lv_goto (tgt := 13) hx hb dX5_readCond_103 (by decide) ?_
          exact ih13 v_3 v_6 v_5 ws _ _ ls (by have q0 := r_v_6.1; have u0 := r_v_6.2; have o0 := r_x5.1; have p0 := r_x5.2; omega) r_p3 r_v_3 (r_v_6.to (by decide)) r_v_5 m_v_5 hw (lv_sub hl [2, 3, 4, 5, 1, 0] rfl)
        · have r_x6 : RI x6 0 0 := rc_eq1 r_x6 rl_0 (ti_eq c_88) (by decide)
          refine lv_aload_n hx hb dX5_readCond_91 rfl (lv_at hl 1 rfl) ?_
          refine lv_sipush (v := 145) hx hb dX5_readCond_92 (by decide) ?_
          refine lv_iconst (v := 0) hx hb dX5_readCond_95 (by decide) ?_
          refine lv_iconst (v := 0) hx hb dX5_readCond_96 (by decide) ?_
          refine tk_v (va_runV (As := [.int 145, .int 0, .int 0]) (rest := []) ⟨hx, hb, hml, hown, hts⟩ (c_X5_addStep l D cy z H.size Ps ws hw.1 p0 145 0 0 h_p0 (rl_145.to (by decide)) (rl_0.to (by decide)) (rl_0.to (by decide))) (cwV 3 hts (gV tw_983 tw_985 ts_33 tw_23 tw_986) rfl rfl rfl (by decide +kernel) ⟨Nat.le_of_ble_eq_true rfl, Nat.le_of_ble_eq_true rfl⟩) (tg_preV hw hK hSD hA (ci := 5) (q := (RX5, TX5, 5)) rfl h_p0 rfl) rfl rfl hl.1 rfl (lv_room (Nat.le_of_ble_eq_true rfl)) dX5_readCond_97 ⟨Nat.le_of_ble_eq_true rfl, Nat.le_of_ble_eq_true rfl⟩) hw hA ⟨by decide, by decide⟩ (fun ws H locs hp_v_7 hw hF9 => ?_)
          have m_v_5 := FLD.over hF9 m_v_5 (by decide)
          obtain ⟨v_8, m_v_8, r_v_8⟩ := (hp_v_7.1)
          obtain ⟨v_9, e_v_9⟩ : ∃ q9 : Int32, q9 = x5 + Int32.ofInt 1 := ⟨_, rfl⟩
          obtain ⟨t_v_9, r_v_9⟩ := tq_add (lo := 1) (hi := 20) r_x5 (show RI (Int32.ofInt 1) 1 1 by unfold RI; decide +kernel) (by decide +kernel) e_v_9
          have t_v_9 : v_9.toInt = x5.toInt + 1 := t_v_9
          refine lv_iinc (v := v_9) (lv' := [(5, .int v_9), (4, .int v_3), (0, .ref p0), (1, .ref p1), (2, .ref p2), (3, .int p3), (6, .int x6)]) hx hb dX5_readCond_100 hl (k := 5) rfl e_v_9.symm (by decide) rfl (fun ls hl => ?_)
          refine lv_goto (tgt := 13) hx hb dX5_readCond_103 (by decide) ?_
          exact ih13 v_3 v_9 v_5 ws _ _ ls (by have q0 := r_v_9.1; have u0 := r_v_9.2; have o0 := r_x5.1; have p0 := r_x5.2; omega) r_p3 r_v_3 (r_v_9.to (by decide)) r_v_5 m_v_5 hw (lv_sub hl [2, 3, 4, 5, 1, 0] rfl)
      have B40 : ∀ (x4 : Int32) (x5 : Int32) (z1_10 : Int32) (ws : va_W) (H : Heap) (locs : List Loc) (ls : Array Slot), RI p3 9 9 → RI x4 (-2147483648) 2147483647 → RI x5 0 19 → RI z1_10 1 4 → FLD ws p1 7 10 (.int z1_10) → 20 - x5.toInt < ((nf13 + 1 : Nat) : Int) → WD D cy GG A s wr_X5_readCond__8 wa_X5_readCond__8 Ps w0 Ps ws H locs → lv_has ls 7 [(0, .ref p0), (1, .ref p1), (2, .ref p2), (3, .int p3), (4, .int x4), (5, .int x5)] → W p l e (headSpec (Cond.code yX5_readCond cX5_readCond 7 none :: gT) ({ frames := 3, cells := 0, slots := 0, locals := 600 } : Room)).room s m ([.ref p0, .ref p1, .ref p2, .int p3] : List Value).toArray below meth c H locs 0 0 Q (F0 m 40 ls []) := by
        intro x4 x5 z1_10 ws H locs ls r_p3 r_x4 r_x5 r_z1_10 m_z1_10 hn13 hw hl
        refine lv_aload_n hx hb dX5_readCond_40 rfl (lv_at hl 1 rfl) ?_
        refine lv_sipush (v := 144) hx hb dX5_readCond_41 (by decide) ?_
        refine tk_ir (va_runV (As := [.int 144]) (rest := []) ⟨hx, hb, hml, hown, hts⟩ (c_X7_sees l D cy z H.size Ps ws hw.1 p1 144 h_p1 (rl_144.to (by decide))) (cwV 1 hts (gV tw_994 tw_995 tw_996 tw_2 tw_997) rfl rfl rfl (by decide +kernel) ⟨Nat.le_of_ble_eq_true rfl, Nat.le_of_ble_eq_true rfl⟩) (tg_preV hw hK hSD hA (ci := 7) (q := (RX7, TX7, 12)) rfl h_p1 rfl) rfl rfl hl.1 rfl (lv_room (Nat.le_of_ble_eq_true rfl)) dX5_readCond_44 ⟨Nat.le_of_ble_eq_true rfl, Nat.le_of_ble_eq_true rfl⟩) hw hA (fun v_10  H locs hp_v_10 hw => ?_)
        have r_v_10 : RI v_10 0 1 := hp_v_10.1
        refine lv_istore (lv' := [(6, .int v_10), (0, .ref p0), (1, .ref p1), (2, .ref p2), (3, .int p3), (4, .int x4), (5, .int x5)]) hx hb dX5_readCond_47 hl (by decide) rfl (fun ls hl => ?_)
        refine lv_aload_n hx hb dX5_readCond_49 rfl (lv_at hl 2 rfl) ?_
        refine tk_v (va_runV (As := []) (rest := []) ⟨hx, hb, hml, hown, hts⟩ (c_X7_pass l D cy z H.size Ps ws hw.1 p1 h_p1) (cwV 0 hts (gV tw_982 tw_425 tw_426 tw_2 tw_427) rfl rfl rfl (by decide +kernel) ⟨Nat.le_of_ble_eq_true rfl, Nat.le_of_ble_eq_true rfl⟩) (tg_preV hw hK hSD hA (ci := 7) (q := (RX7, TX7, 12)) rfl h_p1 rfl) rfl rfl hl.1 rfl (lv_room (Nat.le_of_ble_eq_true rfl)) dX5_readCond_50 ⟨Nat.le_of_ble_eq_true rfl, Nat.le_of_ble_eq_true rfl⟩) hw hA ⟨by decide, by decide⟩ (fun ws H locs hp_v_11 hw hF9 => ?_)
        have m_z1_10 := FLD.over hF9 m_z1_10 (by decide)
        refine lv_iload hx hb dX5_readCond_53 (lv_at hl 0 rfl) ?_
        refine lv_if_eq (tgt := 72) hx hb dX5_readCond_55 (by decide) (fun c_55 => ?_) (fun c_55 => ?_)
        · have r_v_10 : RI v_10 0 0 := rc_eq1 r_v_10 rl_0 (ti_eq c_55) (by decide)
          exact B72 x4 x5 v_10 z1_10 ws _ _ ls r_p3 r_x4 r_x5 (r_v_10.to (by decide)) r_z1_10 m_z1_10 (by have q0 := r_x5.1; have u0 := r_x5.2; omega) hw (lv_sub hl [1, 2, 3, 4, 5, 6, 0] rfl)
        · have r_v_10 : RI v_10 1 1 := rc_neL r_v_10 rl_0 (ti_ne c_55) (by decide)
          refine lv_iload hx hb dX5_readCond_58 (lv_at hl 5 rfl) ?_
          refine lv_if_eq (tgt := 72) hx hb dX5_readCond_60 (by decide) (fun c_60 => ?_) (fun c_60 => ?_)
          · have r_x4 : RI x4 0 0 := rc_eq1 r_x4 rl_0 (ti_eq c_60) (by decide)
            exact B72 x4 x5 v_10 z1_10 ws _ _ ls r_p3 (r_x4.to (by decide)) r_x5 (r_v_10.to (by decide)) r_z1_10 m_z1_10 (by have q0 := r_x5.1; have u0 := r_x5.2; omega) hw (lv_sub hl [1, 2, 3, 4, 5, 6, 0] rfl)
          · refine lv_aload_n hx hb dX5_readCond_63 rfl (lv_at hl 1 rfl) ?_
            refine lv_sipush (v := 144) hx hb dX5_readCond_64 (by decide) ?_
            refine lv_iconst (v := 0) hx hb dX5_readCond_67 (by decide) ?_
            refine lv_iconst (v := 0) hx hb dX5_readCond_68 (by decide) ?_
            refine tk_v (va_runV (As := [.int 144, .int 0, .int 0]) (rest := []) ⟨hx, hb, hml, hown, hts⟩ (c_X5_addStep l D cy z H.size Ps ws hw.1 p0 144 0 0 h_p0 (rl_144.to (by decide)) (rl_0.to (by decide)) (rl_0.to (by decide))) (cwV 3 hts (gV tw_983 tw_985 ts_33 tw_23 tw_986) rfl rfl rfl (by decide +kernel) ⟨Nat.le_of_ble_eq_true rfl, Nat.le_of_ble_eq_true rfl⟩) (tg_preV hw hK hSD hA (ci := 5) (q := (RX5, TX5, 5)) rfl h_p0 rfl) rfl rfl hl.1 rfl (lv_room (Nat.le_of_ble_eq_true rfl)) dX5_readCond_69 ⟨Nat.le_of_ble_eq_true rfl, Nat.le_of_ble_eq_true rfl⟩) hw hA ⟨by decide, by decide⟩ (fun ws H locs hp_v_12 hw hF9 => ?_)
            have m_z1_10 := FLD.over hF9 m_z1_10 (by decide)
            obtain ⟨v_13, m_v_13, r_v_13⟩ := (hp_v_12.1)
            exact B72 x4 x5 v_10 z1_10 ws _ _ ls r_p3 r_x4 r_x5 (r_v_10.to (by decide)) r_z1_10 m_z1_10 (by have q0 := r_x5.1; have u0 := r_x5.2; omega) hw (lv_sub hl [1, 2, 3, 4, 5, 6, 0] rfl)
      intro x4 x5 z1_10 ws H locs ls hn13 r_p3 r_x4 r_x5 r_z1_10 m_z1_10 hw hl
      refine lv_iload hx hb dX5_readCond_13 (lv_at hl 5 rfl) ?_
      refine lv_bipush (v := 20) hx hb dX5_readCond_15 (by decide) ?_
      refine lv_icmp_ge (tgt := 106) hx hb dX5_readCond_17 (by decide) (fun c_17 => ?_) (fun c_17 => ?_)
      · have r_x5 : RI x5 20 20 := rc_le2 rl_20 r_x5 (ti_le c_17) (by decide)
        exact B106 x4 x5 z1_10 ws _ _ ls r_p3 r_x4 (r_x5.to (by decide)) r_z1_10 m_z1_10 hw hl
      · have r_x5 : RI x5 0 19 := rc_lt1 r_x5 rl_20 (ti_nle c_17) (by decide)
        refine lv_aload_n hx hb dX5_readCond_20 rfl (lv_at hl 1 rfl) ?_
        refine lv_sipush (v := 144) hx hb dX5_readCond_21 (by decide) ?_
        refine tk_ir (va_runV (As := [.int 144]) (rest := []) ⟨hx, hb, hml, hown, hts⟩ (c_X7_sees l D cy z H.size Ps ws hw.1 p1 144 h_p1 (rl_144.to (by decide))) (cwV 1 hts (gV tw_994 tw_995 tw_996 tw_2 tw_997) rfl rfl rfl (by decide +kernel) ⟨Nat.le_of_ble_eq_true rfl, Nat.le_of_ble_eq_true rfl⟩) (tg_preV hw hK hSD hA (ci := 7) (q := (RX7, TX7, 12)) rfl h_p1 rfl) rfl rfl hl.1 rfl (lv_room (Nat.le_of_ble_eq_true rfl)) dX5_readCond_24 ⟨Nat.le_of_ble_eq_true rfl, Nat.le_of_ble_eq_true rfl⟩) hw hA (fun v_14  H locs hp_v_14 hw => ?_)
        have r_v_14 : RI v_14 0 1 := hp_v_14.1
        refine lv_if_ne (tgt := 40) hx hb dX5_readCond_27 (by decide) (fun c_27 => ?_) (fun c_27 => ?_)
        · have r_v_14 : RI v_14 1 1 := rc_neL r_v_14 rl_0 (ti_ne c_27) (by decide)
          exact B40 x4 x5 z1_10 ws _ _ ls r_p3 r_x4 r_x5 r_z1_10 m_z1_10 (by have q0 := r_x5.1; have u0 := r_x5.2; omega) hw hl
        · have r_v_14 : RI v_14 0 0 := rc_eq1 r_v_14 rl_0 (ti_eq c_27) (by decide)
          refine lv_aload_n hx hb dX5_readCond_30 rfl (lv_at hl 1 rfl) ?_
          refine lv_sipush (v := 145) hx hb dX5_readCond_31 (by decide) ?_
          refine tk_ir (va_runV (As := [.int 145]) (rest := []) ⟨hx, hb, hml, hown, hts⟩ (c_X7_sees l D cy z H.size Ps ws hw.1 p1 145 h_p1 (rl_145.to (by decide))) (cwV 1 hts (gV tw_994 tw_995 tw_996 tw_2 tw_997) rfl rfl rfl (by decide +kernel) ⟨Nat.le_of_ble_eq_true rfl, Nat.le_of_ble_eq_true rfl⟩) (tg_preV hw hK hSD hA (ci := 7) (q := (RX7, TX7, 12)) rfl h_p1 rfl) rfl rfl hl.1 rfl (lv_room (Nat.le_of_ble_eq_true rfl)) dX5_readCond_34 ⟨Nat.le_of_ble_eq_true rfl, Nat.le_of_ble_eq_true rfl⟩) hw hA (fun v_15  H locs hp_v_15 hw => ?_)
          have r_v_15 : RI v_15 0 1 := hp_v_15.1
          refine lv_if_eq (tgt := 106) hx hb dX5_readCond_37 (by decide) (fun c_37 => ?_) (fun c_37 => ?_)
          · have r_v_15 : RI v_15 0 0 := rc_eq1 r_v_15 rl_0 (ti_eq c_37) (by decide)
            exact B106 x4 x5 z1_10 ws _ _ ls r_p3 r_x4 (r_x5.to (by decide)) r_z1_10 m_z1_10 hw hl
          · have r_v_15 : RI v_15 1 1 := rc_neL r_v_15 rl_0 (ti_ne c_37) (by decide)
            exact B40 x4 x5 z1_10 ws _ _ ls r_p3 r_x4 r_x5 r_z1_10 m_z1_10 (by have q0 := r_x5.1; have u0 := r_x5.2; omega) hw hl
  refine lv_iconst (v := 0) hx hb dX5_readCond_0 (by decide) ?_
  refine lv_istore (lv' := [(4, .int 0), (0, .ref p0), (1, .ref p1), (2, .ref p2), (3, .int p3)]) hx hb dX5_readCond_1 hl (by decide) rfl (fun ls hl => ?_)
  refine lv_aload_n hx hb dX5_readCond_3 rfl (lv_at hl 1 rfl) ?_
  refine lv_aload_n hx hb dX5_readCond_4 rfl (lv_at hl 2 rfl) ?_
  refine lv_aload_n hx hb dX5_readCond_5 rfl (lv_at hl 3 rfl) ?_
  refine lv_iload_n hx hb dX5_readCond_6 rfl (lv_at hl 4 rfl) ?_
  refine tk_v (va_runV (As := [.ref p1, .ref p2, .int p3]) (rest := []) ⟨hx, hb, hml, hown, hts⟩ (c_X5_readOne__8 l D cy z s.heap.size Ps w0 hw.1 p0 p1 p2 p3 h_p0 h_p1 h_p2 r_p3) (cwV 3 hts (gV tw_977 tw_979 ts_32 tw_23 tw_980) rfl rfl rfl (by decide +kernel) ⟨Nat.le_of_ble_eq_true rfl, Nat.le_of_ble_eq_true rfl⟩) (tg_preV hw hK hSD hA (ci := 5) (q := (RX5, TX5, 5)) rfl h_p0 rfl) rfl rfl hl.1 rfl (lv_room (Nat.le_of_ble_eq_true rfl)) dX5_readCond_7 ⟨Nat.le_of_ble_eq_true rfl, Nat.le_of_ble_eq_true rfl⟩) hw hA ⟨by decide, by decide⟩ (fun ws H locs hp_v_16 hw hF9 => ?_)
  obtain ⟨v_17, m_v_17, r_v_17⟩ := (hp_v_16.1)
  refine lv_iconst (v := 0) hx hb dX5_readCond_10 (by decide) ?_
  refine lv_istore (lv' := [(5, .int 0), (4, .int 0), (0, .ref p0), (1, .ref p1), (2, .ref p2), (3, .int p3)]) hx hb dX5_readCond_11 hl (by decide) rfl (fun ls hl => ?_)
  exact B13 4294967298 0 0 v_17 ws _ _ ls (by have q0 := rl_0.1; have u0 := rl_0.2; omega) r_p3 (rl_0.to (by decide)) (rl_0.to (by decide)) r_v_17 m_v_17 hw (lv_sub hl [2, 3, 4, 5, 1, 0] rfl)
abbrev wr_X5_readOne__7 : List (Nat × Nat) := [(5, 3), (5, 4), (7, 5), (7, 6), (7, 7), (7, 8), (7, 9), (7, 10), (7, 11)]
abbrev wa_X5_readOne__7 : List Nat := [21]
set_option maxHeartbeats 4000000 in
set_option maxRecDepth 100000 in
theorem c_X5_readOne__7 (l : Launch) (D : va_G) (cy : Nat → ClassId) (z : Nat → Nat) (sz : Nat) (Ps : PSI) (w0 : va_W) (hT : HT cy GG Ps w0) (p0 : Nat) (p1 : Nat) (p2 : Nat) (p3 : Int32) (h_p0 : (p0, 32) ∈ Ps) (h_p1 : (p1, 26) ∈ Ps) (h_p2 : (p2, 25) ∈ Ps) (r_p3 : RI p3 8 8) : Met l yX5_readOne (Cond.code yX5_readOne cX5_readOne 5 none :: gT) ({ frames := 5, cells := 0, slots := 0, locals := 1000 } : Room) (va_Pc [.ref p0, .ref p1, .ref p2, .int p3] (PRE D cy z w0 sz)) (va_Qv (fun (u : va_W) => (True) ∧ HT cy GG Ps u ∧ FR wr_X5_readOne__7 wa_X5_readOne__7 Ps w0 u) (BB D cy (va_A w0 sz) (fun (u : va_W) => u)) (va_A w0 sz)) 0 0 (va_A w0 sz) := by
  refine Met.ofW (cc := cX5_readOne) (maxL := 5) (ret := none) (by decide) rfl ?_
  intro p e s m args below meth c s₁ B hml hv
  obtain ⟨rfl, hsz, hP, hK, hD0, hSD⟩ := hv
  have hx := B.exec
  have hb := B.bytes
  have hr := B.returns
  have hlocks := B.notSynchronized
  have hts : ∀ w ∈ gT, w.before _ s = true := fun w h => atoms_spec (ws := Cond.code yX5_readOne cX5_readOne 5 none :: gT) B.pre w (List.mem_cons_of_mem _ h)
  have hown : s.vm.findClass RX5 = some m.cls := findClass_of_methodNamed B.named
  subst hsz
  have hD := hD0.self (sz := s.heap.size)
  generalize hAe : va_A w0 s.heap.size = A at hD hSD ⊢
  have hA : ∀ q : Nat, s.heap.size ≤ q → A q := fun q h => by rw [← hAe]; exact Or.inr h
  have hl := lv_entry ([.ref p0, .ref p1, .ref p2, .int p3]) (n := 5) (Nat.le_of_ble_eq_true rfl)
  rw [lg_entry_eq]
  generalize (lg_sl ([.ref p0, .ref p1, .ref p2, .int p3]) ++ List.replicate (5 - (lg_sl ([.ref p0, .ref p1, .ref p2, .int p3])).length) Slot.unset).toArray = ls at hl ⊢
  have hl : lv_has ls 5 [(0, .ref p0), (1, .ref p1), (2, .ref p2), (3, .int p3)] := hl
  refine nameQ (fun Q hQ => ?_)
  have hw : WD D cy GG A s wr_X5_readOne__7 wa_X5_readOne__7 Ps w0 Ps w0 s.heap [] := ⟨hT, hP, hD, va_S.rf, FR.rf, hT.1, [], (List.append_nil _).symm⟩
  have B57 : ∀ (x4 : Int32) (ws : va_W) (H : Heap) (locs : List Loc) (ls : Array Slot), RI p3 8 8 → RI x4 (-2147483648) 2147483647 → WD D cy GG A s wr_X5_readOne__7 wa_X5_readOne__7 Ps w0 Ps ws H locs → lv_has ls 5 [(0, .ref p0), (1, .ref p1), (2, .ref p2), (3, .int p3), (4, .int x4)] → W p l e (headSpec (Cond.code yX5_readOne cX5_readOne 5 none :: gT) ({ frames := 5, cells := 0, slots := 0, locals := 1000 } : Room)).room s m ([.ref p0, .ref p1, .ref p2, .int p3] : List Value).toArray below meth c H locs 0 0 Q (F0 m 57 ls []) := by
    intro x4 ws H locs ls r_p3 r_x4 hw hl
    refine lv_aload_n hx hb dX5_readOne_57 rfl (lv_at hl 1 rfl) ?_
    refine tg_getN (ci := 7) (ts := ty_TAPE) (C := RX7) (T := TX7) (N := 12) hx hb hts inX7 hown hK hw h_p1 rfl rfl 10 (by decide) (hSD.nest tn_103) (fun _ h9 => h9) (ft := vI 0 4) rfl dX5_readOne_58 (fun u_1 hv_u_1 m_u_1 => ?_)
    obtain ⟨vu_1, rfl, r_vu_1⟩ := hv_u_1
    refine lv_if_eq (tgt := 65) hx hb dX5_readOne_61 (by decide) (fun c_61 => ?_) (fun c_61 => ?_)
    · have r_vu_1 : RI vu_1 0 0 := rc_eq1 r_vu_1 rl_0 (ti_eq c_61) (by decide)
      refine lv_aload_n hx hb dX5_readOne_65 rfl (lv_at hl 1 rfl) ?_
      refine tk_v (va_runV (As := []) (rest := []) ⟨hx, hb, hml, hown, hts⟩ (c_X7_pass l D cy z H.size Ps ws hw.1 p1 h_p1) (cwV 0 hts (gV tw_982 tw_425 tw_426 tw_2 tw_427) rfl rfl rfl (by decide +kernel) ⟨Nat.le_of_ble_eq_true rfl, Nat.le_of_ble_eq_true rfl⟩) (tg_preV hw hK hSD hA (ci := 7) (q := (RX7, TX7, 12)) rfl h_p1 rfl) rfl rfl hl.1 rfl (lv_room (Nat.le_of_ble_eq_true rfl)) dX5_readOne_66 ⟨Nat.le_of_ble_eq_true rfl, Nat.le_of_ble_eq_true rfl⟩) hw hA ⟨by decide, by decide⟩ (fun ws H locs hp_v_2 hw hF9 => ?_)
      have m_u_1 := FLD.over hF9 m_u_1 (by decide)
      refine lv_aload_n hx hb dX5_readOne_69 rfl (lv_at hl 0 rfl) ?_
      refine lv_dup hx hb dX5_readOne_70 rfl ?_
      refine tg_get (ci := 5) (ts := ty_SENT) (C := RX5) (T := TX5) (N := 5) hx hb hts inX5 hown hK hw h_p0 rfl rfl 4 (by decide) (hts _ tw_955) (fun _ h9 => h9) (ft := vI (-2147483648) 2147483647) rfl dX5_readOne_71 (fun u_3 hv_u_3 m_u_3 => ?_)
      obtain ⟨vu_3, rfl, r_vu_3⟩ := hv_u_3
      refine lv_iconst (v := 1) hx hb dX5_readOne_74 (by decide) ?_
      refine lv_iadd hx hb dX5_readOne_75 (lv_topi (fun v_4 e_v_4 => ?_))
      have r_v_4 := ri_any v_4
      refine tg_put (ci := 5) (ts := ty_SENT) (v := .int v_4) (ty := .int) (C := RX5) (T := TX5) (N := 5) hx hb hts inX5 tyX5 tyX5_ok nmX5 hown hK hw h_p0 rfl rfl 4 (by decide) (hts _ tw_955) (fun _ h9 => h9) rfl (by decide +kernel) rfl rfl (ft := vI (-2147483648) 2147483647) rfl ⟨_, rfl, r_v_4⟩ (by decide) dX5_readOne_76 (fun ws H locs hw n_k_5 hF9 => ?_)
      have m_u_1 := FLD.over hF9 m_u_1 (by decide)
      refine lv_iload hx hb dX5_readOne_79 (lv_at hl 4 rfl) ?_
      refine lv_sipush (v := 146) hx hb dX5_readOne_81 (by decide) ?_
      refine lv_icmp_ne (tgt := 108) hx hb dX5_readOne_84 (by decide) (fun c_84 => ?_) (fun c_84 => ?_)
      · refine lv_iload hx hb dX5_readOne_108 (lv_at hl 4 rfl) ?_
        refine lv_bipush (v := 40) hx hb dX5_readOne_110 (by decide) ?_
        refine lv_icmp_ne (tgt := 133) hx hb dX5_readOne_112 (by decide) (fun c_112 => ?_) (fun c_112 => ?_)
        · refine lv_aload_n hx hb dX5_readOne_133 rfl (lv_at hl 0 rfl) ?_
          refine lv_aload_n hx hb dX5_readOne_134 rfl (lv_at hl 1 rfl) ?_
          refine lv_aload_n hx hb dX5_readOne_135 rfl (lv_at hl 2 rfl) ?_
          refine lv_iload hx hb dX5_readOne_136 (lv_at hl 4 rfl) ?_
          refine tk_v (va_runV (As := [.ref p1, .ref p2, .int x4]) (rest := []) ⟨hx, hb, hml, hown, hts⟩ (c_X5_readPlain l D cy z H.size Ps ws hw.1 p0 p1 p2 x4 h_p0 h_p1 h_p2 r_x4) (cwV 3 hts (gV tw_988 tw_990 ts_34 tw_23 tw_991) rfl rfl rfl (by decide +kernel) ⟨Nat.le_of_ble_eq_true rfl, Nat.le_of_ble_eq_true rfl⟩) (tg_preV hw hK hSD hA (ci := 5) (q := (RX5, TX5, 5)) rfl h_p0 rfl) rfl rfl hl.1 rfl (lv_room (Nat.le_of_ble_eq_true rfl)) dX5_readOne_138 ⟨Nat.le_of_ble_eq_true rfl, Nat.le_of_ble_eq_true rfl⟩) hw hA ⟨by decide, by decide⟩ (fun ws H locs hp_v_6 hw hF9 => ?_)
          have n_k_5 := FLD.over hF9 n_k_5 (by decide)
          obtain ⟨v_7, m_v_7, r_v_7⟩ := (hp_v_6.1)
          subst hQ
          exact W.vret hx hb hr (fun t ht hW => ⟨⟨ws, rfl, ⟨trivial, hw.1, hw.2.2.2.2.1⟩, by rw [ht]; exact hw.2.1, va_K.moved hW.alike hK, hw.2.2.1⟩, hw.2.2.2.1.F ht⟩) hw.2.2.2.1.2.2 dX5_readOne_141
        · have r_x4 : RI x4 40 40 := rc_eq1 r_x4 rl_40 (ti_eq c_112) (by decide)
          refine lv_aload_n hx hb dX5_readOne_115 rfl (lv_at hl 0 rfl) ?_
          refine lv_aload_n hx hb dX5_readOne_116 rfl (lv_at hl 1 rfl) ?_
          refine lv_aload_n hx hb dX5_readOne_117 rfl (lv_at hl 2 rfl) ?_
          refine lv_iload_n hx hb dX5_readOne_118 rfl (lv_at hl 3 rfl) ?_
          refine lv_iconst (v := 1) hx hb dX5_readOne_119 (by decide) ?_
          refine lv_iadd hx hb dX5_readOne_120 (lv_topi (fun v_8 e_v_8 => ?_))
          obtain ⟨t_v_8, r_v_8⟩ := tq_add (lo := 9) (hi := 9) r_p3 rl_1 (by decide +kernel) e_v_8
          have t_v_8 : v_8.toInt = p3.toInt + 1 := t_v_8
          refine tk_v (va_runV (As := [.ref p1, .ref p2, .int v_8]) (rest := []) ⟨hx, hb, hml, hown, hts⟩ (c_X5_readCond__8 l D cy z H.size Ps ws hw.1 p0 p1 p2 v_8 h_p0 h_p1 h_p2 r_v_8) (cwV 3 hts (gV tw_973 tw_975 ts_31 tw_23 tw_976) rfl rfl rfl (by decide +kernel) ⟨Nat.le_of_ble_eq_true rfl, Nat.le_of_ble_eq_true rfl⟩) (tg_preV hw hK hSD hA (ci := 5) (q := (RX5, TX5, 5)) rfl h_p0 rfl) rfl rfl hl.1 rfl (lv_room (Nat.le_of_ble_eq_true rfl)) dX5_readOne_121 ⟨Nat.le_of_ble_eq_true rfl, Nat.le_of_ble_eq_true rfl⟩) hw hA ⟨by decide, by decide⟩ (fun ws H locs hp_v_9 hw hF9 => ?_)
          have n_k_5 := FLD.over hF9 n_k_5 (by decide)
          obtain ⟨v_10, m_v_10, r_v_10⟩ := (hp_v_9.1)
          refine lv_aload_n hx hb dX5_readOne_124 rfl (lv_at hl 1 rfl) ?_
          refine lv_bipush (v := 41) hx hb dX5_readOne_125 (by decide) ?_
          refine tk_v (va_runV (As := [.int 41]) (rest := []) ⟨hx, hb, hml, hown, hts⟩ (c_X7_passOnly l D cy z H.size Ps ws hw.1 p1 41 h_p1 (rl_41.to (by decide))) (cwV 1 hts (gV tw_987 tw_514 tw_515 tw_2 tw_516) rfl rfl rfl (by decide +kernel) ⟨Nat.le_of_ble_eq_true rfl, Nat.le_of_ble_eq_true rfl⟩) (tg_preV hw hK hSD hA (ci := 7) (q := (RX7, TX7, 12)) rfl h_p1 rfl) rfl rfl hl.1 rfl (lv_room (Nat.le_of_ble_eq_true rfl)) dX5_readOne_127 ⟨Nat.le_of_ble_eq_true rfl, Nat.le_of_ble_eq_true rfl⟩) hw hA ⟨by decide, by decide⟩ (fun ws H locs hp_v_11 hw hF9 => ?_)
          have n_k_5 := FLD.over hF9 n_k_5 (by decide)
          refine lv_goto (tgt := 141) hx hb dX5_readOne_130 (by decide) ?_
          subst hQ
          exact W.vret hx hb hr (fun t ht hW => ⟨⟨ws, rfl, ⟨trivial, hw.1, hw.2.2.2.2.1⟩, by rw [ht]; exact hw.2.1, va_K.moved hW.alike hK, hw.2.2.1⟩, hw.2.2.2.1.F ht⟩) hw.2.2.2.1.2.2 dX5_readOne_141
      · have r_x4 : RI x4 146 146 := rc_eq1 r_x4 rl_146 (ti_eq c_84) (by decide)
        refine lv_aload_n hx hb dX5_readOne_87 rfl (lv_at hl 0 rfl) ?_
        refine lv_aload_n hx hb dX5_readOne_88 rfl (lv_at hl 1 rfl) ?_
        refine lv_aload_n hx hb dX5_readOne_89 rfl (lv_at hl 2 rfl) ?_
        refine lv_iload_n hx hb dX5_readOne_90 rfl (lv_at hl 3 rfl) ?_
        refine lv_iconst (v := 1) hx hb dX5_readOne_91 (by decide) ?_
        refine lv_iadd hx hb dX5_readOne_92 (lv_topi (fun v_12 e_v_12 => ?_))
        obtain ⟨t_v_12, r_v_12⟩ := tq_add (lo := 9) (hi := 9) r_p3 rl_1 (by decide +kernel) e_v_12
        have t_v_12 : v_12.toInt = p3.toInt + 1 := t_v_12
        refine tk_v (va_runV (As := [.ref p1, .ref p2, .int v_12]) (rest := []) ⟨hx, hb, hml, hown, hts⟩ (c_X5_readOne__8 l D cy z H.size Ps ws hw.1 p0 p1 p2 v_12 h_p0 h_p1 h_p2 r_v_12) (cwV 3 hts (gV tw_977 tw_979 ts_32 tw_23 tw_980) rfl rfl rfl (by decide +kernel) ⟨Nat.le_of_ble_eq_true rfl, Nat.le_of_ble_eq_true rfl⟩) (tg_preV hw hK hSD hA (ci := 5) (q := (RX5, TX5, 5)) rfl h_p0 rfl) rfl rfl hl.1 rfl (lv_room (Nat.le_of_ble_eq_true rfl)) dX5_readOne_93 ⟨Nat.le_of_ble_eq_true rfl, Nat.le_of_ble_eq_true rfl⟩) hw hA ⟨by decide, by decide⟩ (fun ws H locs hp_v_13 hw hF9 => ?_)
        have n_k_5 := FLD.over hF9 n_k_5 (by decide)
        obtain ⟨v_14, m_v_14, r_v_14⟩ := (hp_v_13.1)
        refine lv_aload_n hx hb dX5_readOne_96 rfl (lv_at hl 0 rfl) ?_
        refine lv_sipush (v := 146) hx hb dX5_readOne_97 (by decide) ?_
        refine lv_iconst (v := 0) hx hb dX5_readOne_100 (by decide) ?_
        refine lv_iconst (v := 0) hx hb dX5_readOne_101 (by decide) ?_
        refine tk_v (va_runV (As := [.int 146, .int 0, .int 0]) (rest := []) ⟨hx, hb, hml, hown, hts⟩ (c_X5_addStep l D cy z H.size Ps ws hw.1 p0 146 0 0 h_p0 (rl_146.to (by decide)) (rl_0.to (by decide)) (rl_0.to (by decide))) (cwV 3 hts (gV tw_983 tw_985 ts_33 tw_23 tw_986) rfl rfl rfl (by decide +kernel) ⟨Nat.le_of_ble_eq_true rfl, Nat.le_of_ble_eq_true rfl⟩) (tg_preV hw hK hSD hA (ci := 5) (q := (RX5, TX5, 5)) rfl h_p0 rfl) rfl rfl hl.1 rfl (lv_room (Nat.le_of_ble_eq_true rfl)) dX5_readOne_102 ⟨Nat.le_of_ble_eq_true rfl, Nat.le_of_ble_eq_true rfl⟩) hw hA ⟨by decide, by decide⟩ (fun ws H locs hp_v_15 hw hF9 => ?_)
        have n_k_5 := FLD.over hF9 n_k_5 (by decide)
        have m_v_14 := FLD.over hF9 m_v_14 (by decide)
        obtain ⟨v_16, m_v_16, r_v_16⟩ := (hp_v_15.1)
        refine lv_goto (tgt := 141) hx hb dX5_readOne_105 (by decide) ?_
        subst hQ
        exact W.vret hx hb hr (fun t ht hW => ⟨⟨ws, rfl, ⟨trivial, hw.1, hw.2.2.2.2.1⟩, by rw [ht]; exact hw.2.1, va_K.moved hW.alike hK, hw.2.2.1⟩, hw.2.2.2.1.F ht⟩) hw.2.2.2.1.2.2 dX5_readOne_141
    · have r_vu_1 : RI vu_1 1 4 := rc_neL r_vu_1 rl_0 (ti_ne c_61) (by decide)
      subst hQ
      exact W.vret hx hb hr (fun t ht hW => ⟨⟨ws, rfl, ⟨trivial, hw.1, hw.2.2.2.2.1⟩, by rw [ht]; exact hw.2.1, va_K.moved hW.alike hK, hw.2.2.1⟩, hw.2.2.2.1.F ht⟩) hw.2.2.2.1.2.2 dX5_readOne_64
  have B52 : ∀ (x4 : Int32) (z0_4 : Int32) (z1_7 : Int32) (ws : va_W) (H : Heap) (locs : List Loc) (ls : Array Slot), RI p3 8 8 → RI x4 40 155 → RI z0_4 20 2147483647 → FLD ws p0 5 4 (.int z0_4) → RI z1_7 40 155 → FLD ws p1 7 7 (.int z1_7) → WD D cy GG A s wr_X5_readOne__7 wa_X5_readOne__7 Ps w0 Ps ws H locs → lv_has ls 5 [(0, .ref p0), (1, .ref p1), (2, .ref p2), (3, .int p3), (4, .int x4)] → W p l e (headSpec (Cond.code yX5_readOne cX5_readOne 5 none :: gT) ({ frames := 5, cells := 0, slots := 0, locals := 1000 } : Room)).room s m ([.ref p0, .ref p1, .ref p2, .int p3] : List Value).toArray below meth c H locs 0 0 Q (F0 m 52 ls []) := by
    intro x4 z0_4 z1_7 ws H locs ls r_p3 r_x4 r_z0_4 m_z0_4 r_z1_7 m_z1_7 hw hl
    refine lv_aload_n hx hb dX5_readOne_52 rfl (lv_at hl 1 rfl) ?_
    refine lv_iconst (v := 4) hx hb dX5_readOne_53 (by decide) ?_
    refine tk_v (va_runV (As := [.int 4]) (rest := []) ⟨hx, hb, hml, hown, hts⟩ (c_X7_refuse l D cy z H.size Ps ws hw.1 p1 4 h_p1 (rl_4.to (by decide))) (cwV 1 hts (gV tw_981 tw_443 tw_444 tw_2 tw_445) rfl rfl rfl (by decide +kernel) ⟨Nat.le_of_ble_eq_true rfl, Nat.le_of_ble_eq_true rfl⟩) (tg_preV hw hK hSD hA (ci := 7) (q := (RX7, TX7, 12)) rfl h_p1 rfl) rfl rfl hl.1 rfl (lv_room (Nat.le_of_ble_eq_true rfl)) dX5_readOne_54 ⟨Nat.le_of_ble_eq_true rfl, Nat.le_of_ble_eq_true rfl⟩) hw hA ⟨by decide, by decide⟩ (fun ws H locs hp_v_17 hw hF9 => ?_)
    have m_z0_4 := FLD.over hF9 m_z0_4 (by decide)
    have m_z1_7 := FLD.over hF9 m_z1_7 (by decide)
    obtain ⟨v_18, m_v_18, r_v_18⟩ := (hp_v_17.1)
    exact B57 x4 ws _ _ ls r_p3 (r_x4.to (by decide)) hw hl
  have B37 : ∀ (x4 : Int32) (z1_7 : Int32) (ws : va_W) (H : Heap) (locs : List Loc) (ls : Array Slot), RI p3 8 8 → RI x4 40 155 → RI z1_7 40 155 → FLD ws p1 7 7 (.int z1_7) → WD D cy GG A s wr_X5_readOne__7 wa_X5_readOne__7 Ps w0 Ps ws H locs → lv_has ls 5 [(0, .ref p0), (1, .ref p1), (2, .ref p2), (3, .int p3), (4, .int x4)] → W p l e (headSpec (Cond.code yX5_readOne cX5_readOne 5 none :: gT) ({ frames := 5, cells := 0, slots := 0, locals := 1000 } : Room)).room s m ([.ref p0, .ref p1, .ref p2, .int p3] : List Value).toArray below meth c H locs 0 0 Q (F0 m 37 ls []) := by
    intro x4 z1_7 ws H locs ls r_p3 r_x4 r_z1_7 m_z1_7 hw hl
    refine lv_aload_n hx hb dX5_readOne_37 rfl (lv_at hl 0 rfl) ?_
    refine tg_get (ci := 5) (ts := ty_SENT) (C := RX5) (T := TX5) (N := 5) hx hb hts inX5 hown hK hw h_p0 rfl rfl 4 (by decide) (hts _ tw_955) (fun _ h9 => h9) (ft := vI (-2147483648) 2147483647) rfl dX5_readOne_38 (fun u_19 hv_u_19 m_u_19 => ?_)
    obtain ⟨vu_19, rfl, r_vu_19⟩ := hv_u_19
    refine lv_bipush (v := 20) hx hb dX5_readOne_41 (by decide) ?_
    refine lv_icmp_ge (tgt := 52) hx hb dX5_readOne_43 (by decide) (fun c_43 => ?_) (fun c_43 => ?_)
    · have r_vu_19 : RI vu_19 20 2147483647 := rc_le2 rl_20 r_vu_19 (ti_le c_43) (by decide)
      exact B52 x4 vu_19 z1_7 ws _ _ ls r_p3 r_x4 r_vu_19 m_u_19 r_z1_7 m_z1_7 hw hl
    · have r_vu_19 : RI vu_19 (-2147483648) 19 := rc_lt1 r_vu_19 rl_20 (ti_nle c_43) (by decide)
      refine lv_iload_n hx hb dX5_readOne_46 rfl (lv_at hl 3 rfl) ?_
      refine lv_bipush (v := 8) hx hb dX5_readOne_47 (by decide) ?_
      refine lv_icmp_le (tgt := 57) hx hb dX5_readOne_49 (by decide) (fun c_49 => ?_) (fun c_49 => ?_)
      · exact B57 x4 ws _ _ ls r_p3 (r_x4.to (by decide)) hw hl
      · have r_p3 : RI p3 9 8 := rc_lt2 rl_8 r_p3 (ti_nle c_49) (by decide)
        exact (r_p3.no (by decide)).elim
  have B29 : ∀ (x4 : Int32) (ws : va_W) (H : Heap) (locs : List Loc) (ls : Array Slot), RI p3 8 8 → RI x4 (-2147483648) 2147483647 → WD D cy GG A s wr_X5_readOne__7 wa_X5_readOne__7 Ps w0 Ps ws H locs → lv_has ls 5 [(0, .ref p0), (1, .ref p1), (2, .ref p2), (3, .int p3), (4, .int x4)] → W p l e (headSpec (Cond.code yX5_readOne cX5_readOne 5 none :: gT) ({ frames := 5, cells := 0, slots := 0, locals := 1000 } : Room)).room s m ([.ref p0, .ref p1, .ref p2, .int p3] : List Value).toArray below meth c H locs 0 0 Q (F0 m 29 ls []) := by
    intro x4 ws H locs ls r_p3 r_x4 hw hl
    refine lv_aload_n hx hb dX5_readOne_29 rfl (lv_at hl 1 rfl) ?_
    refine lv_iconst (v := 1) hx hb dX5_readOne_30 (by decide) ?_
    refine tk_v (va_runV (As := [.int 1]) (rest := []) ⟨hx, hb, hml, hown, hts⟩ (c_X7_refuse l D cy z H.size Ps ws hw.1 p1 1 h_p1 (rl_1.to (by decide))) (cwV 1 hts (gV tw_981 tw_443 tw_444 tw_2 tw_445) rfl rfl rfl (by decide +kernel) ⟨Nat.le_of_ble_eq_true rfl, Nat.le_of_ble_eq_true rfl⟩) (tg_preV hw hK hSD hA (ci := 7) (q := (RX7, TX7, 12)) rfl h_p1 rfl) rfl rfl hl.1 rfl (lv_room (Nat.le_of_ble_eq_true rfl)) dX5_readOne_31 ⟨Nat.le_of_ble_eq_true rfl, Nat.le_of_ble_eq_true rfl⟩) hw hA ⟨by decide, by decide⟩ (fun ws H locs hp_v_20 hw hF9 => ?_)
    obtain ⟨v_21, m_v_21, r_v_21⟩ := (hp_v_20.1)
    refine lv_goto (tgt := 57) hx hb dX5_readOne_34 (by decide) ?_
    exact B57 x4 ws _ _ ls r_p3 r_x4 hw hl
  refine lv_aload_n hx hb dX5_readOne_0 rfl (lv_at hl 1 rfl) ?_
  refine tg_getN (ci := 7) (ts := ty_TAPE) (C := RX7) (T := TX7) (N := 12) hx hb hts inX7 hown hK hw h_p1 rfl rfl 7 (by decide) (hSD.nest tn_96) (fun _ h9 => h9) (ft := vI (-2147483648) 2147483647) rfl dX5_readOne_1 (fun u_22 hv_u_22 m_u_22 => ?_)
  obtain ⟨vu_22, rfl, r_vu_22⟩ := hv_u_22
  refine lv_istore (lv' := [(4, .int vu_22), (0, .ref p0), (1, .ref p1), (2, .ref p2), (3, .int p3)]) hx hb dX5_readOne_4 hl (by decide) rfl (fun ls hl => ?_)
  refine lv_iload hx hb dX5_readOne_6 (lv_at hl 0 rfl) ?_
  refine lv_bipush (v := 40) hx hb dX5_readOne_8 (by decide) ?_
  refine lv_icmp_eq (tgt := 37) hx hb dX5_readOne_10 (by decide) (fun c_10 => ?_) (fun c_10 => ?_)
  · have r_vu_22 : RI vu_22 40 40 := rc_eq1 r_vu_22 rl_40 (ti_eq c_10) (by decide)
    exact B37 vu_22 vu_22 w0 _ _ ls r_p3 (r_vu_22.to (by decide)) (r_vu_22.to (by decide)) m_u_22 hw (lv_sub hl [1, 2, 3, 4, 0] rfl)
  · refine lv_iload hx hb dX5_readOne_13 (lv_at hl 0 rfl) ?_
    refine lv_sipush (v := 146) hx hb dX5_readOne_15 (by decide) ?_
    refine lv_icmp_lt (tgt := 29) hx hb dX5_readOne_18 (by decide) (fun c_18 => ?_) (fun c_18 => ?_)
    · have r_vu_22 : RI vu_22 (-2147483648) 145 := rc_lt1 r_vu_22 rl_146 (ti_lt c_18) (by decide)
      exact B29 vu_22 w0 _ _ ls r_p3 (r_vu_22.to (by decide)) hw (lv_sub hl [1, 2, 3, 4, 0] rfl)
    · have r_vu_22 : RI vu_22 146 2147483647 := rc_le2 rl_146 r_vu_22 (ti_nlt c_18) (by decide)
      refine lv_iload hx hb dX5_readOne_21 (lv_at hl 0 rfl) ?_
      refine lv_sipush (v := 155) hx hb dX5_readOne_23 (by decide) ?_
      refine lv_icmp_le (tgt := 37) hx hb dX5_readOne_26 (by decide) (fun c_26 => ?_) (fun c_26 => ?_)
      · have r_vu_22 : RI vu_22 146 155 := rc_le1 r_vu_22 rl_155 (ti_le c_26) (by decide)
        exact B37 vu_22 vu_22 w0 _ _ ls r_p3 (r_vu_22.to (by decide)) (r_vu_22.to (by decide)) m_u_22 hw (lv_sub hl [1, 2, 3, 4, 0] rfl)
      · have r_vu_22 : RI vu_22 156 2147483647 := rc_lt2 rl_155 r_vu_22 (ti_nle c_26) (by decide)
        exact B29 vu_22 w0 _ _ ls r_p3 (r_vu_22.to (by decide)) hw (lv_sub hl [1, 2, 3, 4, 0] rfl)
abbrev wr_X5_readCond__7 : List (Nat × Nat) := [(5, 3), (5, 4), (7, 5), (7, 6), (7, 7), (7, 8), (7, 9), (7, 10), (7, 11)]
abbrev wa_X5_readCond__7 : List Nat := [21]
set_option maxHeartbeats 4000000 in
set_option maxRecDepth 100000 in
theorem c_X5_readCond__7 (l : Launch) (D : va_G) (cy : Nat → ClassId) (z : Nat → Nat) (sz : Nat) (Ps : PSI) (w0 : va_W) (hT : HT cy GG Ps w0) (p0 : Nat) (p1 : Nat) (p2 : Nat) (p3 : Int32) (h_p0 : (p0, 32) ∈ Ps) (h_p1 : (p1, 26) ∈ Ps) (h_p2 : (p2, 25) ∈ Ps) (r_p3 : RI p3 8 8) : Met l yX5_readCond (Cond.code yX5_readCond cX5_readCond 7 none :: gT) ({ frames := 6, cells := 0, slots := 0, locals := 1200 } : Room) (va_Pc [.ref p0, .ref p1, .ref p2, .int p3] (PRE D cy z w0 sz)) (va_Qv (fun (u : va_W) => (True) ∧ HT cy GG Ps u ∧ FR wr_X5_readCond__7 wa_X5_readCond__7 Ps w0 u) (BB D cy (va_A w0 sz) (fun (u : va_W) => u)) (va_A w0 sz)) 0 0 (va_A w0 sz) := by
  refine Met.ofW (cc := cX5_readCond) (maxL := 7) (ret := none) (by decide) rfl ?_
  intro p e s m args below meth c s₁ B hml hv
  obtain ⟨rfl, hsz, hP, hK, hD0, hSD⟩ := hv
  have hx := B.exec
  have hb := B.bytes
  have hr := B.returns
  have hlocks := B.notSynchronized
  have hts : ∀ w ∈ gT, w.before _ s = true := fun w h => atoms_spec (ws := Cond.code yX5_readCond cX5_readCond 7 none :: gT) B.pre w (List.mem_cons_of_mem _ h)
  have hown : s.vm.findClass RX5 = some m.cls := findClass_of_methodNamed B.named
  subst hsz
  have hD := hD0.self (sz := s.heap.size)
  generalize hAe : va_A w0 s.heap.size = A at hD hSD ⊢
  have hA : ∀ q : Nat, s.heap.size ≤ q → A q := fun q h => by rw [← hAe]; exact Or.inr h
  have hl := lv_entry ([.ref p0, .ref p1, .ref p2, .int p3]) (n := 7) (Nat.le_of_ble_eq_true rfl)
  rw [lg_entry_eq]
  generalize (lg_sl ([.ref p0, .ref p1, .ref p2, .int p3]) ++ List.replicate (7 - (lg_sl ([.ref p0, .ref p1, .ref p2, .int p3])).length) Slot.unset).toArray = ls at hl ⊢
  have hl : lv_has ls 7 [(0, .ref p0), (1, .ref p1), (2, .ref p2), (3, .int p3)] := hl
  refine nameQ (fun Q hQ => ?_)
  have hw : WD D cy GG A s wr_X5_readCond__7 wa_X5_readCond__7 Ps w0 Ps w0 s.heap [] := ⟨hT, hP, hD, va_S.rf, FR.rf, hT.1, [], (List.append_nil _).symm⟩
  have B106 : ∀ (x4 : Int32) (x5 : Int32) (ws : va_W) (H : Heap) (locs : List Loc) (ls : Array Slot), RI p3 8 8 → RI x4 (-2147483648) 2147483647 → RI x5 0 21 → WD D cy GG A s wr_X5_readCond__7 wa_X5_readCond__7 Ps w0 Ps ws H locs → lv_has ls 7 [(0, .ref p0), (1, .ref p1), (2, .ref p2), (3, .int p3), (4, .int x4), (5, .int x5)] → W p l e (headSpec (Cond.code yX5_readCond cX5_readCond 7 none :: gT) ({ frames := 6, cells := 0, slots := 0, locals := 1200 } : Room)).room s m ([.ref p0, .ref p1, .ref p2, .int p3] : List Value).toArray below meth c H locs 0 0 Q (F0 m 106 ls []) := by
    intro x4 x5 ws H locs ls r_p3 r_x4 r_x5 hw hl
    refine lv_iload hx hb dX5_readCond_106 (lv_at hl 4 rfl) ?_
    refine lv_if_eq (tgt := 120) hx hb dX5_readCond_108 (by decide) (fun c_108 => ?_) (fun c_108 => ?_)
    · have r_x4 : RI x4 0 0 := rc_eq1 r_x4 rl_0 (ti_eq c_108) (by decide)
      subst hQ
      exact W.vret hx hb hr (fun t ht hW => ⟨⟨ws, rfl, ⟨trivial, hw.1, hw.2.2.2.2.1⟩, by rw [ht]; exact hw.2.1, va_K.moved hW.alike hK, hw.2.2.1⟩, hw.2.2.2.1.F ht⟩) hw.2.2.2.1.2.2 dX5_readCond_120
    · refine lv_aload_n hx hb dX5_readCond_111 rfl (lv_at hl 0 rfl) ?_
      refine lv_sipush (v := 144) hx hb dX5_readCond_112 (by decide) ?_
      refine lv_iconst (v := 0) hx hb dX5_readCond_115 (by decide) ?_
      refine lv_iconst (v := 0) hx hb dX5_readCond_116 (by decide) ?_
      refine tk_v (va_runV (As := [.int 144, .int 0, .int 0]) (rest := []) ⟨hx, hb, hml, hown, hts⟩ (c_X5_addStep l D cy z H.size Ps ws hw.1 p0 144 0 0 h_p0 (rl_144.to (by decide)) (rl_0.to (by decide)) (rl_0.to (by decide))) (cwV 3 hts (gV tw_983 tw_985 ts_33 tw_23 tw_986) rfl rfl rfl (by decide +kernel) ⟨Nat.le_of_ble_eq_true rfl, Nat.le_of_ble_eq_true rfl⟩) (tg_preV hw hK hSD hA (ci := 5) (q := (RX5, TX5, 5)) rfl h_p0 rfl) rfl rfl hl.1 rfl (lv_room (Nat.le_of_ble_eq_true rfl)) dX5_readCond_117 ⟨Nat.le_of_ble_eq_true rfl, Nat.le_of_ble_eq_true rfl⟩) hw hA ⟨by decide, by decide⟩ (fun ws H locs hp_v_1 hw hF9 => ?_)
      obtain ⟨v_2, m_v_2, r_v_2⟩ := (hp_v_1.1)
      subst hQ
      exact W.vret hx hb hr (fun t ht hW => ⟨⟨ws, rfl, ⟨trivial, hw.1, hw.2.2.2.2.1⟩, by rw [ht]; exact hw.2.1, va_K.moved hW.alike hK, hw.2.2.1⟩, hw.2.2.2.1.F ht⟩) hw.2.2.2.1.2.2 dX5_readCond_120
  have B13 : ∀ (nf : Nat) (x4 : Int32) (x5 : Int32) (ws : va_W) (H : Heap) (locs : List Loc) (ls : Array Slot), 20 - x5.toInt < (nf : Int) → RI p3 8 8 → RI x4 (-2147483648) 2147483647 → RI x5 0 20 → WD D cy GG A s wr_X5_readCond__7 wa_X5_readCond__7 Ps w0 Ps ws H locs → lv_has ls 7 [(0, .ref p0), (1, .ref p1), (2, .ref p2), (3, .int p3), (4, .int x4), (5, .int x5)] → W p l e (headSpec (Cond.code yX5_readCond cX5_readCond 7 none :: gT) ({ frames := 6, cells := 0, slots := 0, locals := 1200 } : Room)).room s m ([.ref p0, .ref p1, .ref p2, .int p3] : List Value).toArray below meth c H locs 0 0 Q (F0 m 13 ls []) := by
    intro nf13
    induction nf13 with
    | zero =>
      intro x4 x5 ws H locs ls hn13 r_p3 r_x4 r_x5 hw hl
      exact absurd hn13 (by have q0 := r_x5.1; have u0 := r_x5.2; omega)
    | succ nf13 ih13 =>
      have B72 : ∀ (x4 : Int32) (x5 : Int32) (x6 : Int32) (ws : va_W) (H : Heap) (locs : List Loc) (ls : Array Slot), RI p3 8 8 → RI x4 (-2147483648) 2147483647 → RI x5 0 19 → RI x6 0 1 → 20 - x5.toInt < ((nf13 + 1 : Nat) : Int) → WD D cy GG A s wr_X5_readCond__7 wa_X5_readCond__7 Ps w0 Ps ws H locs → lv_has ls 7 [(0, .ref p0), (1, .ref p1), (2, .ref p2), (3, .int p3), (4, .int x4), (5, .int x5), (6, .int x6)] → W p l e (headSpec (Cond.code yX5_readCond cX5_readCond 7 none :: gT) ({ frames := 6, cells := 0, slots := 0, locals := 1200 } : Room)).room s m ([.ref p0, .ref p1, .ref p2, .int p3] : List Value).toArray below meth c H locs 0 0 Q (F0 m 72 ls []) := by
        intro x4 x5 x6 ws H locs ls r_p3 r_x4 r_x5 r_x6 hn13 hw hl
        refine lv_iload hx hb dX5_readCond_72 (lv_at hl 4 rfl) ?_
        refine lv_iload hx hb dX5_readCond_74 (lv_at hl 6 rfl) ?_
        refine lv_ior hx hb dX5_readCond_76 (lv_topi (fun v_3 e_v_3 => ?_))
        have r_v_3 := ri_any v_3
        refine lv_istore (lv' := [(4, .int v_3), (0, .ref p0), (1, .ref p1), (2, .ref p2), (3, .int p3), (5, .int x5), (6, .int x6)]) hx hb dX5_readCond_77 hl (by decide) rfl (fun ls hl => ?_)
        refine lv_aload_n hx hb dX5_readCond_79 rfl (lv_at hl 1 rfl) ?_
        refine lv_aload_n hx hb dX5_readCond_80 rfl (lv_at hl 2 rfl) ?_
        refine lv_aload_n hx hb dX5_readCond_81 rfl (lv_at hl 3 rfl) ?_
        refine lv_iload_n hx hb dX5_readCond_82 rfl (lv_at hl 4 rfl) ?_
        refine tk_v (va_runV (As := [.ref p1, .ref p2, .int p3]) (rest := []) ⟨hx, hb, hml, hown, hts⟩ (c_X5_readOne__7 l D cy z H.size Ps ws hw.1 p0 p1 p2 p3 h_p0 h_p1 h_p2 r_p3) (cwV 3 hts (gV tw_977 tw_979 ts_32 tw_23 tw_980) rfl rfl rfl (by decide +kernel) ⟨Nat.le_of_ble_eq_true rfl, Nat.le_of_ble_eq_true rfl⟩) (tg_preV hw hK hSD hA (ci := 5) (q := (RX5, TX5, 5)) rfl h_p0 rfl) rfl rfl hl.1 rfl (lv_room (Nat.le_of_ble_eq_true rfl)) dX5_readCond_83 ⟨Nat.le_of_ble_eq_true rfl, Nat.le_of_ble_eq_true rfl⟩) hw hA ⟨by decide, by decide⟩ (fun ws H locs hp_v_4 hw hF9 => ?_)
        refine lv_iload hx hb dX5_readCond_86 (lv_at hl 6 rfl) ?_
        refine lv_if_ne (tgt := 100) hx hb dX5_readCond_88 (by decide) (fun c_88 => ?_) (fun c_88 => ?_)
        · have r_x6 : RI x6 1 1 := rc_neL r_x6 rl_0 (ti_ne c_88) (by decide)
          obtain ⟨v_5, e_v_5⟩ : ∃ q9 : Int32, q9 = x5 + Int32.ofInt 1 := ⟨_, rfl⟩
          obtain ⟨t_v_5, r_v_5⟩ := tq_add (lo := 1) (hi := 20) r_x5 (show RI (Int32.ofInt 1) 1 1 by unfold RI; decide +kernel) (by decide +kernel) e_v_5
          have t_v_5 : v_5.toInt = x5.toInt + 1 := t_v_5
          refine lv_iinc (v := v_5) (lv' := [(5, .int v_5), (4, .int v_3), (0, .ref p0), (1, .ref p1), (2, .ref p2), (3, .int p3), (6, .int x6)]) hx hb dX5_readCond_100 hl (k := 5) rfl e_v_5.symm (by decide) rfl (fun ls hl => ?_)
          refine lv_goto (tgt := 13) hx hb dX5_readCond_103 (by decide) ?_
          exact ih13 v_3 v_5 ws _ _ ls (by have q0 := r_v_5.1; have u0 := r_v_5.2; have o0 := r_x5.1; have p0 := r_x5.2; omega) r_p3 r_v_3 (r_v_5.to (by decide)) hw (lv_sub hl [2, 3, 4, 5, 1, 0] rfl)
        · have r_x6 : RI x6 0 0 := rc_eq1 r_x6 rl_0 (ti_eq c_88) (by decide)
          refine lv_aload_n hx hb dX5_readCond_91 rfl (lv_at hl 1 rfl) ?_
          refine lv_sipush (v := 145) hx hb dX5_readCond_92 (by decide) ?_
          refine lv_iconst (v := 0) hx hb dX5_readCond_95 (by decide) ?_
          refine lv_iconst (v := 0) hx hb dX5_readCond_96 (by decide) ?_
          refine tk_v (va_runV (As := [.int 145, .int 0, .int 0]) (rest := []) ⟨hx, hb, hml, hown, hts⟩ (c_X5_addStep l D cy z H.size Ps ws hw.1 p0 145 0 0 h_p0 (rl_145.to (by decide)) (rl_0.to (by decide)) (rl_0.to (by decide))) (cwV 3 hts (gV tw_983 tw_985 ts_33 tw_23 tw_986) rfl rfl rfl (by decide +kernel) ⟨Nat.le_of_ble_eq_true rfl, Nat.le_of_ble_eq_true rfl⟩) (tg_preV hw hK hSD hA (ci := 5) (q := (RX5, TX5, 5)) rfl h_p0 rfl) rfl rfl hl.1 rfl (lv_room (Nat.le_of_ble_eq_true rfl)) dX5_readCond_97 ⟨Nat.le_of_ble_eq_true rfl, Nat.le_of_ble_eq_true rfl⟩) hw hA ⟨by decide, by decide⟩ (fun ws H locs hp_v_6 hw hF9 => ?_)
          obtain ⟨v_7, m_v_7, r_v_7⟩ := (hp_v_6.1)
          obtain ⟨v_8, e_v_8⟩ : ∃ q9 : Int32, q9 = x5 + Int32.ofInt 1 := ⟨_, rfl⟩
          obtain ⟨t_v_8, r_v_8⟩ := tq_add (lo := 1) (hi := 20) r_x5 (show RI (Int32.ofInt 1) 1 1 by unfold RI; decide +kernel) (by decide +kernel) e_v_8
          have t_v_8 : v_8.toInt = x5.toInt + 1 := t_v_8
          refine lv_iinc (v := v_8) (lv' := [(5, .int v_8), (4, .int v_3), (0, .ref p0), (1, .ref p1), (2, .ref p2), (3, .int p3), (6, .int x6)]) hx hb dX5_readCond_100 hl (k := 5) rfl e_v_8.symm (by decide) rfl (fun ls hl => ?_)
          refine lv_goto (tgt := 13) hx hb dX5_readCond_103 (by decide) ?_
          exact ih13 v_3 v_8 ws _ _ ls (by have q0 := r_v_8.1; have u0 := r_v_8.2; have o0 := r_x5.1; have p0 := r_x5.2; omega) r_p3 r_v_3 (r_v_8.to (by decide)) hw (lv_sub hl [2, 3, 4, 5, 1, 0] rfl)
      have B40 : ∀ (x4 : Int32) (x5 : Int32) (ws : va_W) (H : Heap) (locs : List Loc) (ls : Array Slot), RI p3 8 8 → RI x4 (-2147483648) 2147483647 → RI x5 0 19 → 20 - x5.toInt < ((nf13 + 1 : Nat) : Int) → WD D cy GG A s wr_X5_readCond__7 wa_X5_readCond__7 Ps w0 Ps ws H locs → lv_has ls 7 [(0, .ref p0), (1, .ref p1), (2, .ref p2), (3, .int p3), (4, .int x4), (5, .int x5)] → W p l e (headSpec (Cond.code yX5_readCond cX5_readCond 7 none :: gT) ({ frames := 6, cells := 0, slots := 0, locals := 1200 } : Room)).room s m ([.ref p0, .ref p1, .ref p2, .int p3] : List Value).toArray below meth c H locs 0 0 Q (F0 m 40 ls []) := by
        intro x4 x5 ws H locs ls r_p3 r_x4 r_x5 hn13 hw hl
        refine lv_aload_n hx hb dX5_readCond_40 rfl (lv_at hl 1 rfl) ?_
        refine lv_sipush (v := 144) hx hb dX5_readCond_41 (by decide) ?_
        refine tk_ir (va_runV (As := [.int 144]) (rest := []) ⟨hx, hb, hml, hown, hts⟩ (c_X7_sees l D cy z H.size Ps ws hw.1 p1 144 h_p1 (rl_144.to (by decide))) (cwV 1 hts (gV tw_994 tw_995 tw_996 tw_2 tw_997) rfl rfl rfl (by decide +kernel) ⟨Nat.le_of_ble_eq_true rfl, Nat.le_of_ble_eq_true rfl⟩) (tg_preV hw hK hSD hA (ci := 7) (q := (RX7, TX7, 12)) rfl h_p1 rfl) rfl rfl hl.1 rfl (lv_room (Nat.le_of_ble_eq_true rfl)) dX5_readCond_44 ⟨Nat.le_of_ble_eq_true rfl, Nat.le_of_ble_eq_true rfl⟩) hw hA (fun v_9  H locs hp_v_9 hw => ?_)
        have r_v_9 : RI v_9 0 1 := hp_v_9.1
        refine lv_istore (lv' := [(6, .int v_9), (0, .ref p0), (1, .ref p1), (2, .ref p2), (3, .int p3), (4, .int x4), (5, .int x5)]) hx hb dX5_readCond_47 hl (by decide) rfl (fun ls hl => ?_)
        refine lv_aload_n hx hb dX5_readCond_49 rfl (lv_at hl 2 rfl) ?_
        refine tk_v (va_runV (As := []) (rest := []) ⟨hx, hb, hml, hown, hts⟩ (c_X7_pass l D cy z H.size Ps ws hw.1 p1 h_p1) (cwV 0 hts (gV tw_982 tw_425 tw_426 tw_2 tw_427) rfl rfl rfl (by decide +kernel) ⟨Nat.le_of_ble_eq_true rfl, Nat.le_of_ble_eq_true rfl⟩) (tg_preV hw hK hSD hA (ci := 7) (q := (RX7, TX7, 12)) rfl h_p1 rfl) rfl rfl hl.1 rfl (lv_room (Nat.le_of_ble_eq_true rfl)) dX5_readCond_50 ⟨Nat.le_of_ble_eq_true rfl, Nat.le_of_ble_eq_true rfl⟩) hw hA ⟨by decide, by decide⟩ (fun ws H locs hp_v_10 hw hF9 => ?_)
        refine lv_iload hx hb dX5_readCond_53 (lv_at hl 0 rfl) ?_
        refine lv_if_eq (tgt := 72) hx hb dX5_readCond_55 (by decide) (fun c_55 => ?_) (fun c_55 => ?_)
        · have r_v_9 : RI v_9 0 0 := rc_eq1 r_v_9 rl_0 (ti_eq c_55) (by decide)
          exact B72 x4 x5 v_9 ws _ _ ls r_p3 r_x4 r_x5 (r_v_9.to (by decide)) (by have q0 := r_x5.1; have u0 := r_x5.2; omega) hw (lv_sub hl [1, 2, 3, 4, 5, 6, 0] rfl)
        · have r_v_9 : RI v_9 1 1 := rc_neL r_v_9 rl_0 (ti_ne c_55) (by decide)
          refine lv_iload hx hb dX5_readCond_58 (lv_at hl 5 rfl) ?_
          refine lv_if_eq (tgt := 72) hx hb dX5_readCond_60 (by decide) (fun c_60 => ?_) (fun c_60 => ?_)
          · have r_x4 : RI x4 0 0 := rc_eq1 r_x4 rl_0 (ti_eq c_60) (by decide)
            exact B72 x4 x5 v_9 ws _ _ ls r_p3 (r_x4.to (by decide)) r_x5 (r_v_9.to (by decide)) (by have q0 := r_x5.1; have u0 := r_x5.2; omega) hw (lv_sub hl [1, 2, 3, 4, 5, 6, 0] rfl)
          · refine lv_aload_n hx hb dX5_readCond_63 rfl (lv_at hl 1 rfl) ?_
            refine lv_sipush (v := 144) hx hb dX5_readCond_64 (by decide) ?_
            refine lv_iconst (v := 0) hx hb dX5_readCond_67 (by decide) ?_
            refine lv_iconst (v := 0) hx hb dX5_readCond_68 (by decide) ?_
            refine tk_v (va_runV (As := [.int 144, .int 0, .int 0]) (rest := []) ⟨hx, hb, hml, hown, hts⟩ (c_X5_addStep l D cy z H.size Ps ws hw.1 p0 144 0 0 h_p0 (rl_144.to (by decide)) (rl_0.to (by decide)) (rl_0.to (by decide))) (cwV 3 hts (gV tw_983 tw_985 ts_33 tw_23 tw_986) rfl rfl rfl (by decide +kernel) ⟨Nat.le_of_ble_eq_true rfl, Nat.le_of_ble_eq_true rfl⟩) (tg_preV hw hK hSD hA (ci := 5) (q := (RX5, TX5, 5)) rfl h_p0 rfl) rfl rfl hl.1 rfl (lv_room (Nat.le_of_ble_eq_true rfl)) dX5_readCond_69 ⟨Nat.le_of_ble_eq_true rfl, Nat.le_of_ble_eq_true rfl⟩) hw hA ⟨by decide, by decide⟩ (fun ws H locs hp_v_11 hw hF9 => ?_)
            obtain ⟨v_12, m_v_12, r_v_12⟩ := (hp_v_11.1)
            exact B72 x4 x5 v_9 ws _ _ ls r_p3 r_x4 r_x5 (r_v_9.to (by decide)) (by have q0 := r_x5.1; have u0 := r_x5.2; omega) hw (lv_sub hl [1, 2, 3, 4, 5, 6, 0] rfl)
      intro x4 x5 ws H locs ls hn13 r_p3 r_x4 r_x5 hw hl
      refine lv_iload hx hb dX5_readCond_13 (lv_at hl 5 rfl) ?_
      refine lv_bipush (v := 20) hx hb dX5_readCond_15 (by decide) ?_
      refine lv_icmp_ge (tgt := 106) hx hb dX5_readCond_17 (by decide) (fun c_17 => ?_) (fun c_17 => ?_)
      · have r_x5 : RI x5 20 20 := rc_le2 rl_20 r_x5 (ti_le c_17) (by decide)
        exact B106 x4 x5 ws _ _ ls r_p3 r_x4 (r_x5.to (by decide)) hw hl
      · have r_x5 : RI x5 0 19 := rc_lt1 r_x5 rl_20 (ti_nle c_17) (by decide)
        refine lv_aload_n hx hb dX5_readCond_20 rfl (lv_at hl 1 rfl) ?_
        refine lv_sipush (v := 144) hx hb dX5_readCond_21 (by decide) ?_
        refine tk_ir (va_runV (As := [.int 144]) (rest := []) ⟨hx, hb, hml, hown, hts⟩ (c_X7_sees l D cy z H.size Ps ws hw.1 p1 144 h_p1 (rl_144.to (by decide))) (cwV 1 hts (gV tw_994 tw_995 tw_996 tw_2 tw_997) rfl rfl rfl (by decide +kernel) ⟨Nat.le_of_ble_eq_true rfl, Nat.le_of_ble_eq_true rfl⟩) (tg_preV hw hK hSD hA (ci := 7) (q := (RX7, TX7, 12)) rfl h_p1 rfl) rfl rfl hl.1 rfl (lv_room (Nat.le_of_ble_eq_true rfl)) dX5_readCond_24 ⟨Nat.le_of_ble_eq_true rfl, Nat.le_of_ble_eq_true rfl⟩) hw hA (fun v_13  H locs hp_v_13 hw => ?_)
        have r_v_13 : RI v_13 0 1 := hp_v_13.1
        refine lv_if_ne (tgt := 40) hx hb dX5_readCond_27 (by decide) (fun c_27 => ?_) (fun c_27 => ?_)
        · have r_v_13 : RI v_13 1 1 := rc_neL r_v_13 rl_0 (ti_ne c_27) (by decide)
          exact B40 x4 x5 ws _ _ ls r_p3 r_x4 r_x5 (by have q0 := r_x5.1; have u0 := r_x5.2; omega) hw hl
        · have r_v_13 : RI v_13 0 0 := rc_eq1 r_v_13 rl_0 (ti_eq c_27) (by decide)
          refine lv_aload_n hx hb dX5_readCond_30 rfl (lv_at hl 1 rfl) ?_
          refine lv_sipush (v := 145) hx hb dX5_readCond_31 (by decide) ?_
          refine tk_ir (va_runV (As := [.int 145]) (rest := []) ⟨hx, hb, hml, hown, hts⟩ (c_X7_sees l D cy z H.size Ps ws hw.1 p1 145 h_p1 (rl_145.to (by decide))) (cwV 1 hts (gV tw_994 tw_995 tw_996 tw_2 tw_997) rfl rfl rfl (by decide +kernel) ⟨Nat.le_of_ble_eq_true rfl, Nat.le_of_ble_eq_true rfl⟩) (tg_preV hw hK hSD hA (ci := 7) (q := (RX7, TX7, 12)) rfl h_p1 rfl) rfl rfl hl.1 rfl (lv_room (Nat.le_of_ble_eq_true rfl)) dX5_readCond_34 ⟨Nat.le_of_ble_eq_true rfl, Nat.le_of_ble_eq_true rfl⟩) hw hA (fun v_14  H locs hp_v_14 hw => ?_)
          have r_v_14 : RI v_14 0 1 := hp_v_14.1
          refine lv_if_eq (tgt := 106) hx hb dX5_readCond_37 (by decide) (fun c_37 => ?_) (fun c_37 => ?_)
          · have r_v_14 : RI v_14 0 0 := rc_eq1 r_v_14 rl_0 (ti_eq c_37) (by decide)
            exact B106 x4 x5 ws _ _ ls r_p3 r_x4 (r_x5.to (by decide)) hw hl
          · have r_v_14 : RI v_14 1 1 := rc_neL r_v_14 rl_0 (ti_ne c_37) (by decide)
            exact B40 x4 x5 ws _ _ ls r_p3 r_x4 r_x5 (by have q0 := r_x5.1; have u0 := r_x5.2; omega) hw hl
  refine lv_iconst (v := 0) hx hb dX5_readCond_0 (by decide) ?_
  refine lv_istore (lv' := [(4, .int 0), (0, .ref p0), (1, .ref p1), (2, .ref p2), (3, .int p3)]) hx hb dX5_readCond_1 hl (by decide) rfl (fun ls hl => ?_)
  refine lv_aload_n hx hb dX5_readCond_3 rfl (lv_at hl 1 rfl) ?_
  refine lv_aload_n hx hb dX5_readCond_4 rfl (lv_at hl 2 rfl) ?_
  refine lv_aload_n hx hb dX5_readCond_5 rfl (lv_at hl 3 rfl) ?_
  refine lv_iload_n hx hb dX5_readCond_6 rfl (lv_at hl 4 rfl) ?_
  refine tk_v (va_runV (As := [.ref p1, .ref p2, .int p3]) (rest := []) ⟨hx, hb, hml, hown, hts⟩ (c_X5_readOne__7 l D cy z s.heap.size Ps w0 hw.1 p0 p1 p2 p3 h_p0 h_p1 h_p2 r_p3) (cwV 3 hts (gV tw_977 tw_979 ts_32 tw_23 tw_980) rfl rfl rfl (by decide +kernel) ⟨Nat.le_of_ble_eq_true rfl, Nat.le_of_ble_eq_true rfl⟩) (tg_preV hw hK hSD hA (ci := 5) (q := (RX5, TX5, 5)) rfl h_p0 rfl) rfl rfl hl.1 rfl (lv_room (Nat.le_of_ble_eq_true rfl)) dX5_readCond_7 ⟨Nat.le_of_ble_eq_true rfl, Nat.le_of_ble_eq_true rfl⟩) hw hA ⟨by decide, by decide⟩ (fun ws H locs hp_v_15 hw hF9 => ?_)
  refine lv_iconst (v := 0) hx hb dX5_readCond_10 (by decide) ?_
  refine lv_istore (lv' := [(5, .int 0), (4, .int 0), (0, .ref p0), (1, .ref p1), (2, .ref p2), (3, .int p3)]) hx hb dX5_readCond_11 hl (by decide) rfl (fun ls hl => ?_)
  exact B13 4294967298 0 0 ws _ _ ls (by have q0 := rl_0.1; have u0 := rl_0.2; omega) r_p3 (rl_0.to (by decide)) (rl_0.to (by decide)) hw (lv_sub hl [2, 3, 4, 5, 1, 0] rfl)
abbrev wr_X5_readOne__6 : List (Nat × Nat) := [(5, 3), (5, 4), (7, 5), (7, 6), (7, 7), (7, 8), (7, 9), (7, 10), (7, 11)]
abbrev wa_X5_readOne__6 : List Nat := [21]
set_option maxHeartbeats 4000000 in
set_option maxRecDepth 100000 in
theorem c_X5_readOne__6 (l : Launch) (D : va_G) (cy : Nat → ClassId) (z : Nat → Nat) (sz : Nat) (Ps : PSI) (w0 : va_W) (hT : HT cy GG Ps w0) (p0 : Nat) (p1 : Nat) (p2 : Nat) (p3 : Int32) (h_p0 : (p0, 32) ∈ Ps) (h_p1 : (p1, 26) ∈ Ps) (h_p2 : (p2, 25) ∈ Ps) (r_p3 : RI p3 7 7) : Met l yX5_readOne (Cond.code yX5_readOne cX5_readOne 5 none :: gT) ({ frames := 7, cells := 0, slots := 0, locals := 1400 } : Room) (va_Pc [.ref p0, .ref p1, .ref p2, .int p3] (PRE D cy z w0 sz)) (va_Qv (fun (u : va_W) => (True) ∧ HT cy GG Ps u ∧ FR wr_X5_readOne__6 wa_X5_readOne__6 Ps w0 u) (BB D cy (va_A w0 sz) (fun (u : va_W) => u)) (va_A w0 sz)) 0 0 (va_A w0 sz) := by
  refine Met.ofW (cc := cX5_readOne) (maxL := 5) (ret := none) (by decide) rfl ?_
  intro p e s m args below meth c s₁ B hml hv
  obtain ⟨rfl, hsz, hP, hK, hD0, hSD⟩ := hv
  have hx := B.exec
  have hb := B.bytes
  have hr := B.returns
  have hlocks := B.notSynchronized
  have hts : ∀ w ∈ gT, w.before _ s = true := fun w h => atoms_spec (ws := Cond.code yX5_readOne cX5_readOne 5 none :: gT) B.pre w (List.mem_cons_of_mem _ h)
  have hown : s.vm.findClass RX5 = some m.cls := findClass_of_methodNamed B.named
  subst hsz
  have hD := hD0.self (sz := s.heap.size)
  generalize hAe : va_A w0 s.heap.size = A at hD hSD ⊢
  have hA : ∀ q : Nat, s.heap.size ≤ q → A q := fun q h => by rw [← hAe]; exact Or.inr h
  have hl := lv_entry ([.ref p0, .ref p1, .ref p2, .int p3]) (n := 5) (Nat.le_of_ble_eq_true rfl)
  rw [lg_entry_eq]
  generalize (lg_sl ([.ref p0, .ref p1, .ref p2, .int p3]) ++ List.replicate (5 - (lg_sl ([.ref p0, .ref p1, .ref p2, .int p3])).length) Slot.unset).toArray = ls at hl ⊢
  have hl : lv_has ls 5 [(0, .ref p0), (1, .ref p1), (2, .ref p2), (3, .int p3)] := hl
  refine nameQ (fun Q hQ => ?_)
  have hw : WD D cy GG A s wr_X5_readOne__6 wa_X5_readOne__6 Ps w0 Ps w0 s.heap [] := ⟨hT, hP, hD, va_S.rf, FR.rf, hT.1, [], (List.append_nil _).symm⟩
  have B57 : ∀ (x4 : Int32) (ws : va_W) (H : Heap) (locs : List Loc) (ls : Array Slot), RI p3 7 7 → RI x4 (-2147483648) 2147483647 → WD D cy GG A s wr_X5_readOne__6 wa_X5_readOne__6 Ps w0 Ps ws H locs → lv_has ls 5 [(0, .ref p0), (1, .ref p1), (2, .ref p2), (3, .int p3), (4, .int x4)] → W p l e (headSpec (Cond.code yX5_readOne cX5_readOne 5 none :: gT) ({ frames := 7, cells := 0, slots := 0, locals := 1400 } : Room)).room s m ([.ref p0, .ref p1, .ref p2, .int p3] : List Value).toArray below meth c H locs 0 0 Q (F0 m 57 ls []) := by
    intro x4 ws H locs ls r_p3 r_x4 hw hl
    refine lv_aload_n hx hb dX5_readOne_57 rfl (lv_at hl 1 rfl) ?_
    refine tg_getN (ci := 7) (ts := ty_TAPE) (C := RX7) (T := TX7) (N := 12) hx hb hts inX7 hown hK hw h_p1 rfl rfl 10 (by decide) (hSD.nest tn_103) (fun _ h9 => h9) (ft := vI 0 4) rfl dX5_readOne_58 (fun u_1 hv_u_1 m_u_1 => ?_)
    obtain ⟨vu_1, rfl, r_vu_1⟩ := hv_u_1
    refine lv_if_eq (tgt := 65) hx hb dX5_readOne_61 (by decide) (fun c_61 => ?_) (fun c_61 => ?_)
    · have r_vu_1 : RI vu_1 0 0 := rc_eq1 r_vu_1 rl_0 (ti_eq c_61) (by decide)
      refine lv_aload_n hx hb dX5_readOne_65 rfl (lv_at hl 1 rfl) ?_
      refine tk_v (va_runV (As := []) (rest := []) ⟨hx, hb, hml, hown, hts⟩ (c_X7_pass l D cy z H.size Ps ws hw.1 p1 h_p1) (cwV 0 hts (gV tw_982 tw_425 tw_426 tw_2 tw_427) rfl rfl rfl (by decide +kernel) ⟨Nat.le_of_ble_eq_true rfl, Nat.le_of_ble_eq_true rfl⟩) (tg_preV hw hK hSD hA (ci := 7) (q := (RX7, TX7, 12)) rfl h_p1 rfl) rfl rfl hl.1 rfl (lv_room (Nat.le_of_ble_eq_true rfl)) dX5_readOne_66 ⟨Nat.le_of_ble_eq_true rfl, Nat.le_of_ble_eq_true rfl⟩) hw hA ⟨by decide, by decide⟩ (fun ws H locs hp_v_2 hw hF9 => ?_)
      have m_u_1 := FLD.over hF9 m_u_1 (by decide)
      refine lv_aload_n hx hb dX5_readOne_69 rfl (lv_at hl 0 rfl) ?_
      refine lv_dup hx hb dX5_readOne_70 rfl ?_
      refine tg_get (ci := 5) (ts := ty_SENT) (C := RX5) (T := TX5) (N := 5) hx hb hts inX5 hown hK hw h_p0 rfl rfl 4 (by decide) (hts _ tw_955) (fun _ h9 => h9) (ft := vI (-2147483648) 2147483647) rfl dX5_readOne_71 (fun u_3 hv_u_3 m_u_3 => ?_)
      obtain ⟨vu_3, rfl, r_vu_3⟩ := hv_u_3
      refine lv_iconst (v := 1) hx hb dX5_readOne_74 (by decide) ?_
      refine lv_iadd hx hb dX5_readOne_75 (lv_topi (fun v_4 e_v_4 => ?_))
      have r_v_4 := ri_any v_4
      refine tg_put (ci := 5) (ts := ty_SENT) (v := .int v_4) (ty := .int) (C := RX5) (T := TX5) (N := 5) hx hb hts inX5 tyX5 tyX5_ok nmX5 hown hK hw h_p0 rfl rfl 4 (by decide) (hts _ tw_955) (fun _ h9 => h9) rfl (by decide +kernel) rfl rfl (ft := vI (-2147483648) 2147483647) rfl ⟨_, rfl, r_v_4⟩ (by decide) dX5_readOne_76 (fun ws H locs hw n_k_5 hF9 => ?_)
      have m_u_1 := FLD.over hF9 m_u_1 (by decide)
      refine lv_iload hx hb dX5_readOne_79 (lv_at hl 4 rfl) ?_
      refine lv_sipush (v := 146) hx hb dX5_readOne_81 (by decide) ?_
      refine lv_icmp_ne (tgt := 108) hx hb dX5_readOne_84 (by decide) (fun c_84 => ?_) (fun c_84 => ?_)
      · refine lv_iload hx hb dX5_readOne_108 (lv_at hl 4 rfl) ?_
        refine lv_bipush (v := 40) hx hb dX5_readOne_110 (by decide) ?_
        refine lv_icmp_ne (tgt := 133) hx hb dX5_readOne_112 (by decide) (fun c_112 => ?_) (fun c_112 => ?_)
        · refine lv_aload_n hx hb dX5_readOne_133 rfl (lv_at hl 0 rfl) ?_
          refine lv_aload_n hx hb dX5_readOne_134 rfl (lv_at hl 1 rfl) ?_
          refine lv_aload_n hx hb dX5_readOne_135 rfl (lv_at hl 2 rfl) ?_
          refine lv_iload hx hb dX5_readOne_136 (lv_at hl 4 rfl) ?_
          refine tk_v (va_runV (As := [.ref p1, .ref p2, .int x4]) (rest := []) ⟨hx, hb, hml, hown, hts⟩ (c_X5_readPlain l D cy z H.size Ps ws hw.1 p0 p1 p2 x4 h_p0 h_p1 h_p2 r_x4) (cwV 3 hts (gV tw_988 tw_990 ts_34 tw_23 tw_991) rfl rfl rfl (by decide +kernel) ⟨Nat.le_of_ble_eq_true rfl, Nat.le_of_ble_eq_true rfl⟩) (tg_preV hw hK hSD hA (ci := 5) (q := (RX5, TX5, 5)) rfl h_p0 rfl) rfl rfl hl.1 rfl (lv_room (Nat.le_of_ble_eq_true rfl)) dX5_readOne_138 ⟨Nat.le_of_ble_eq_true rfl, Nat.le_of_ble_eq_true rfl⟩) hw hA ⟨by decide, by decide⟩ (fun ws H locs hp_v_6 hw hF9 => ?_)
          have n_k_5 := FLD.over hF9 n_k_5 (by decide)
          obtain ⟨v_7, m_v_7, r_v_7⟩ := (hp_v_6.1)
          subst hQ
          exact W.vret hx hb hr (fun t ht hW => ⟨⟨ws, rfl, ⟨trivial, hw.1, hw.2.2.2.2.1⟩, by rw [ht]; exact hw.2.1, va_K.moved hW.alike hK, hw.2.2.1⟩, hw.2.2.2.1.F ht⟩) hw.2.2.2.1.2.2 dX5_readOne_141
        · have r_x4 : RI x4 40 40 := rc_eq1 r_x4 rl_40 (ti_eq c_112) (by decide)
          refine lv_aload_n hx hb dX5_readOne_115 rfl (lv_at hl 0 rfl) ?_
          refine lv_aload_n hx hb dX5_readOne_116 rfl (lv_at hl 1 rfl) ?_
          refine lv_aload_n hx hb dX5_readOne_117 rfl (lv_at hl 2 rfl) ?_
          refine lv_iload_n hx hb dX5_readOne_118 rfl (lv_at hl 3 rfl) ?_
          refine lv_iconst (v := 1) hx hb dX5_readOne_119 (by decide) ?_
          refine lv_iadd hx hb dX5_readOne_120 (lv_topi (fun v_8 e_v_8 => ?_))
          obtain ⟨t_v_8, r_v_8⟩ := tq_add (lo := 8) (hi := 8) r_p3 rl_1 (by decide +kernel) e_v_8
          have t_v_8 : v_8.toInt = p3.toInt + 1 := t_v_8
          refine tk_v (va_runV (As := [.ref p1, .ref p2, .int v_8]) (rest := []) ⟨hx, hb, hml, hown, hts⟩ (c_X5_readCond__7 l D cy z H.size Ps ws hw.1 p0 p1 p2 v_8 h_p0 h_p1 h_p2 r_v_8) (cwV 3 hts (gV tw_973 tw_975 ts_31 tw_23 tw_976) rfl rfl rfl (by decide +kernel) ⟨Nat.le_of_ble_eq_true rfl, Nat.le_of_ble_eq_true rfl⟩) (tg_preV hw hK hSD hA (ci := 5) (q := (RX5, TX5, 5)) rfl h_p0 rfl) rfl rfl hl.1 rfl (lv_room (Nat.le_of_ble_eq_true rfl)) dX5_readOne_121 ⟨Nat.le_of_ble_eq_true rfl, Nat.le_of_ble_eq_true rfl⟩) hw hA ⟨by decide, by decide⟩ (fun ws H locs hp_v_9 hw hF9 => ?_)
          refine lv_aload_n hx hb dX5_readOne_124 rfl (lv_at hl 1 rfl) ?_
          refine lv_bipush (v := 41) hx hb dX5_readOne_125 (by decide) ?_
          refine tk_v (va_runV (As := [.int 41]) (rest := []) ⟨hx, hb, hml, hown, hts⟩ (c_X7_passOnly l D cy z H.size Ps ws hw.1 p1 41 h_p1 (rl_41.to (by decide))) (cwV 1 hts (gV tw_987 tw_514 tw_515 tw_2 tw_516) rfl rfl rfl (by decide +kernel) ⟨Nat.le_of_ble_eq_true rfl, Nat.le_of_ble_eq_true rfl⟩) (tg_preV hw hK hSD hA (ci := 7) (q := (RX7, TX7, 12)) rfl h_p1 rfl) rfl rfl hl.1 rfl (lv_room (Nat.le_of_ble_eq_true rfl)) dX5_readOne_127 ⟨Nat.le_of_ble_eq_true rfl, Nat.le_of_ble_eq_true rfl⟩) hw hA ⟨by decide, by decide⟩ (fun ws H locs hp_v_10 hw hF9 => ?_)
          refine lv_goto (tgt := 141) hx hb dX5_readOne_130 (by decide) ?_
          subst hQ
          exact W.vret hx hb hr (fun t ht hW => ⟨⟨ws, rfl, ⟨trivial, hw.1, hw.2.2.2.2.1⟩, by rw [ht]; exact hw.2.1, va_K.moved hW.alike hK, hw.2.2.1⟩, hw.2.2.2.1.F ht⟩) hw.2.2.2.1.2.2 dX5_readOne_141
      · have r_x4 : RI x4 146 146 := rc_eq1 r_x4 rl_146 (ti_eq c_84) (by decide)
        refine lv_aload_n hx hb dX5_readOne_87 rfl (lv_at hl 0 rfl) ?_
        refine lv_aload_n hx hb dX5_readOne_88 rfl (lv_at hl 1 rfl) ?_
        refine lv_aload_n hx hb dX5_readOne_89 rfl (lv_at hl 2 rfl) ?_
        refine lv_iload_n hx hb dX5_readOne_90 rfl (lv_at hl 3 rfl) ?_
        refine lv_iconst (v := 1) hx hb dX5_readOne_91 (by decide) ?_
        refine lv_iadd hx hb dX5_readOne_92 (lv_topi (fun v_11 e_v_11 => ?_))
        obtain ⟨t_v_11, r_v_11⟩ := tq_add (lo := 8) (hi := 8) r_p3 rl_1 (by decide +kernel) e_v_11
        have t_v_11 : v_11.toInt = p3.toInt + 1 := t_v_11
        refine tk_v (va_runV (As := [.ref p1, .ref p2, .int v_11]) (rest := []) ⟨hx, hb, hml, hown, hts⟩ (c_X5_readOne__7 l D cy z H.size Ps ws hw.1 p0 p1 p2 v_11 h_p0 h_p1 h_p2 r_v_11) (cwV 3 hts (gV tw_977 tw_979 ts_32 tw_23 tw_980) rfl rfl rfl (by decide +kernel) ⟨Nat.le_of_ble_eq_true rfl, Nat.le_of_ble_eq_true rfl⟩) (tg_preV hw hK hSD hA (ci := 5) (q := (RX5, TX5, 5)) rfl h_p0 rfl) rfl rfl hl.1 rfl (lv_room (Nat.le_of_ble_eq_true rfl)) dX5_readOne_93 ⟨Nat.le_of_ble_eq_true rfl, Nat.le_of_ble_eq_true rfl⟩) hw hA ⟨by decide, by decide⟩ (fun ws H locs hp_v_12 hw hF9 => ?_)
        refine lv_aload_n hx hb dX5_readOne_96 rfl (lv_at hl 0 rfl) ?_
        refine lv_sipush (v := 146) hx hb dX5_readOne_97 (by decide) ?_
        refine lv_iconst (v := 0) hx hb dX5_readOne_100 (by decide) ?_
        refine lv_iconst (v := 0) hx hb dX5_readOne_101 (by decide) ?_
        refine tk_v (va_runV (As := [.int 146, .int 0, .int 0]) (rest := []) ⟨hx, hb, hml, hown, hts⟩ (c_X5_addStep l D cy z H.size Ps ws hw.1 p0 146 0 0 h_p0 (rl_146.to (by decide)) (rl_0.to (by decide)) (rl_0.to (by decide))) (cwV 3 hts (gV tw_983 tw_985 ts_33 tw_23 tw_986) rfl rfl rfl (by decide +kernel) ⟨Nat.le_of_ble_eq_true rfl, Nat.le_of_ble_eq_true rfl⟩) (tg_preV hw hK hSD hA (ci := 5) (q := (RX5, TX5, 5)) rfl h_p0 rfl) rfl rfl hl.1 rfl (lv_room (Nat.le_of_ble_eq_true rfl)) dX5_readOne_102 ⟨Nat.le_of_ble_eq_true rfl, Nat.le_of_ble_eq_true rfl⟩) hw hA ⟨by decide, by decide⟩ (fun ws H locs hp_v_13 hw hF9 => ?_)
        obtain ⟨v_14, m_v_14, r_v_14⟩ := (hp_v_13.1)
        refine lv_goto (tgt := 141) hx hb dX5_readOne_105 (by decide) ?_
        subst hQ
        exact W.vret hx hb hr (fun t ht hW => ⟨⟨ws, rfl, ⟨trivial, hw.1, hw.2.2.2.2.1⟩, by rw [ht]; exact hw.2.1, va_K.moved hW.alike hK, hw.2.2.1⟩, hw.2.2.2.1.F ht⟩) hw.2.2.2.1.2.2 dX5_readOne_141
    · have r_vu_1 : RI vu_1 1 4 := rc_neL r_vu_1 rl_0 (ti_ne c_61) (by decide)
      subst hQ
      exact W.vret hx hb hr (fun t ht hW => ⟨⟨ws, rfl, ⟨trivial, hw.1, hw.2.2.2.2.1⟩, by rw [ht]; exact hw.2.1, va_K.moved hW.alike hK, hw.2.2.1⟩, hw.2.2.2.1.F ht⟩) hw.2.2.2.1.2.2 dX5_readOne_64
  have B52 : ∀ (x4 : Int32) (z0_4 : Int32) (z1_7 : Int32) (ws : va_W) (H : Heap) (locs : List Loc) (ls : Array Slot), RI p3 7 7 → RI x4 40 155 → RI z0_4 20 2147483647 → FLD ws p0 5 4 (.int z0_4) → RI z1_7 40 155 → FLD ws p1 7 7 (.int z1_7) → WD D cy GG A s wr_X5_readOne__6 wa_X5_readOne__6 Ps w0 Ps ws H locs → lv_has ls 5 [(0, .ref p0), (1, .ref p1), (2, .ref p2), (3, .int p3), (4, .int x4)] → W p l e (headSpec (Cond.code yX5_readOne cX5_readOne 5 none :: gT) ({ frames := 7, cells := 0, slots := 0, locals := 1400 } : Room)).room s m ([.ref p0, .ref p1, .ref p2, .int p3] : List Value).toArray below meth c H locs 0 0 Q (F0 m 52 ls []) := by
    intro x4 z0_4 z1_7 ws H locs ls r_p3 r_x4 r_z0_4 m_z0_4 r_z1_7 m_z1_7 hw hl
    refine lv_aload_n hx hb dX5_readOne_52 rfl (lv_at hl 1 rfl) ?_
    refine lv_iconst (v := 4) hx hb dX5_readOne_53 (by decide) ?_
    refine tk_v (va_runV (As := [.int 4]) (rest := []) ⟨hx, hb, hml, hown, hts⟩ (c_X7_refuse l D cy z H.size Ps ws hw.1 p1 4 h_p1 (rl_4.to (by decide))) (cwV 1 hts (gV tw_981 tw_443 tw_444 tw_2 tw_445) rfl rfl rfl (by decide +kernel) ⟨Nat.le_of_ble_eq_true rfl, Nat.le_of_ble_eq_true rfl⟩) (tg_preV hw hK hSD hA (ci := 7) (q := (RX7, TX7, 12)) rfl h_p1 rfl) rfl rfl hl.1 rfl (lv_room (Nat.le_of_ble_eq_true rfl)) dX5_readOne_54 ⟨Nat.le_of_ble_eq_true rfl, Nat.le_of_ble_eq_true rfl⟩) hw hA ⟨by decide, by decide⟩ (fun ws H locs hp_v_15 hw hF9 => ?_)
    have m_z0_4 := FLD.over hF9 m_z0_4 (by decide)
    have m_z1_7 := FLD.over hF9 m_z1_7 (by decide)
    obtain ⟨v_16, m_v_16, r_v_16⟩ := (hp_v_15.1)
    exact B57 x4 ws _ _ ls r_p3 (r_x4.to (by decide)) hw hl
  have B37 : ∀ (x4 : Int32) (z1_7 : Int32) (ws : va_W) (H : Heap) (locs : List Loc) (ls : Array Slot), RI p3 7 7 → RI x4 40 155 → RI z1_7 40 155 → FLD ws p1 7 7 (.int z1_7) → WD D cy GG A s wr_X5_readOne__6 wa_X5_readOne__6 Ps w0 Ps ws H locs → lv_has ls 5 [(0, .ref p0), (1, .ref p1), (2, .ref p2), (3, .int p3), (4, .int x4)] → W p l e (headSpec (Cond.code yX5_readOne cX5_readOne 5 none :: gT) ({ frames := 7, cells := 0, slots := 0, locals := 1400 } : Room)).room s m ([.ref p0, .ref p1, .ref p2, .int p3] : List Value).toArray below meth c H locs 0 0 Q (F0 m 37 ls []) := by
    intro x4 z1_7 ws H locs ls r_p3 r_x4 r_z1_7 m_z1_7 hw hl
    refine lv_aload_n hx hb dX5_readOne_37 rfl (lv_at hl 0 rfl) ?_
    refine tg_get (ci := 5) (ts := ty_SENT) (C := RX5) (T := TX5) (N := 5) hx hb hts inX5 hown hK hw h_p0 rfl rfl 4 (by decide) (hts _ tw_955) (fun _ h9 => h9) (ft := vI (-2147483648) 2147483647) rfl dX5_readOne_38 (fun u_17 hv_u_17 m_u_17 => ?_)
    obtain ⟨vu_17, rfl, r_vu_17⟩ := hv_u_17
    refine lv_bipush (v := 20) hx hb dX5_readOne_41 (by decide) ?_
    refine lv_icmp_ge (tgt := 52) hx hb dX5_readOne_43 (by decide) (fun c_43 => ?_) (fun c_43 => ?_)
    · have r_vu_17 : RI vu_17 20 2147483647 := rc_le2 rl_20 r_vu_17 (ti_le c_43) (by decide)
      exact B52 x4 vu_17 z1_7 ws _ _ ls r_p3 r_x4 r_vu_17 m_u_17 r_z1_7 m_z1_7 hw hl
    · have r_vu_17 : RI vu_17 (-2147483648) 19 := rc_lt1 r_vu_17 rl_20 (ti_nle c_43) (by decide)
      refine lv_iload_n hx hb dX5_readOne_46 rfl (lv_at hl 3 rfl) ?_
      refine lv_bipush (v := 8) hx hb dX5_readOne_47 (by decide) ?_
      refine lv_icmp_le (tgt := 57) hx hb dX5_readOne_49 (by decide) (fun c_49 => ?_) (fun c_49 => ?_)
      · exact B57 x4 ws _ _ ls r_p3 (r_x4.to (by decide)) hw hl
      · have r_p3 : RI p3 9 7 := rc_lt2 rl_8 r_p3 (ti_nle c_49) (by decide)
        exact (r_p3.no (by decide)).elim
  have B29 : ∀ (x4 : Int32) (ws : va_W) (H : Heap) (locs : List Loc) (ls : Array Slot), RI p3 7 7 → RI x4 (-2147483648) 2147483647 → WD D cy GG A s wr_X5_readOne__6 wa_X5_readOne__6 Ps w0 Ps ws H locs → lv_has ls 5 [(0, .ref p0), (1, .ref p1), (2, .ref p2), (3, .int p3), (4, .int x4)] → W p l e (headSpec (Cond.code yX5_readOne cX5_readOne 5 none :: gT) ({ frames := 7, cells := 0, slots := 0, locals := 1400 } : Room)).room s m ([.ref p0, .ref p1, .ref p2, .int p3] : List Value).toArray below meth c H locs 0 0 Q (F0 m 29 ls []) := by
    intro x4 ws H locs ls r_p3 r_x4 hw hl
    refine lv_aload_n hx hb dX5_readOne_29 rfl (lv_at hl 1 rfl) ?_
    refine lv_iconst (v := 1) hx hb dX5_readOne_30 (by decide) ?_
    refine tk_v (va_runV (As := [.int 1]) (rest := []) ⟨hx, hb, hml, hown, hts⟩ (c_X7_refuse l D cy z H.size Ps ws hw.1 p1 1 h_p1 (rl_1.to (by decide))) (cwV 1 hts (gV tw_981 tw_443 tw_444 tw_2 tw_445) rfl rfl rfl (by decide +kernel) ⟨Nat.le_of_ble_eq_true rfl, Nat.le_of_ble_eq_true rfl⟩) (tg_preV hw hK hSD hA (ci := 7) (q := (RX7, TX7, 12)) rfl h_p1 rfl) rfl rfl hl.1 rfl (lv_room (Nat.le_of_ble_eq_true rfl)) dX5_readOne_31 ⟨Nat.le_of_ble_eq_true rfl, Nat.le_of_ble_eq_true rfl⟩) hw hA ⟨by decide, by decide⟩ (fun ws H locs hp_v_18 hw hF9 => ?_)
    obtain ⟨v_19, m_v_19, r_v_19⟩ := (hp_v_18.1)
    refine lv_goto (tgt := 57) hx hb dX5_readOne_34 (by decide) ?_
    exact B57 x4 ws _ _ ls r_p3 r_x4 hw hl
  refine lv_aload_n hx hb dX5_readOne_0 rfl (lv_at hl 1 rfl) ?_
  refine tg_getN (ci := 7) (ts := ty_TAPE) (C := RX7) (T := TX7) (N := 12) hx hb hts inX7 hown hK hw h_p1 rfl rfl 7 (by decide) (hSD.nest tn_96) (fun _ h9 => h9) (ft := vI (-2147483648) 2147483647) rfl dX5_readOne_1 (fun u_20 hv_u_20 m_u_20 => ?_)
  obtain ⟨vu_20, rfl, r_vu_20⟩ := hv_u_20
  refine lv_istore (lv' := [(4, .int vu_20), (0, .ref p0), (1, .ref p1), (2, .ref p2), (3, .int p3)]) hx hb dX5_readOne_4 hl (by decide) rfl (fun ls hl => ?_)
  refine lv_iload hx hb dX5_readOne_6 (lv_at hl 0 rfl) ?_
  refine lv_bipush (v := 40) hx hb dX5_readOne_8 (by decide) ?_
  refine lv_icmp_eq (tgt := 37) hx hb dX5_readOne_10 (by decide) (fun c_10 => ?_) (fun c_10 => ?_)
  · have r_vu_20 : RI vu_20 40 40 := rc_eq1 r_vu_20 rl_40 (ti_eq c_10) (by decide)
    exact B37 vu_20 vu_20 w0 _ _ ls r_p3 (r_vu_20.to (by decide)) (r_vu_20.to (by decide)) m_u_20 hw (lv_sub hl [1, 2, 3, 4, 0] rfl)
  · refine lv_iload hx hb dX5_readOne_13 (lv_at hl 0 rfl) ?_
    refine lv_sipush (v := 146) hx hb dX5_readOne_15 (by decide) ?_
    refine lv_icmp_lt (tgt := 29) hx hb dX5_readOne_18 (by decide) (fun c_18 => ?_) (fun c_18 => ?_)
    · have r_vu_20 : RI vu_20 (-2147483648) 145 := rc_lt1 r_vu_20 rl_146 (ti_lt c_18) (by decide)
      exact B29 vu_20 w0 _ _ ls r_p3 (r_vu_20.to (by decide)) hw (lv_sub hl [1, 2, 3, 4, 0] rfl)
    · have r_vu_20 : RI vu_20 146 2147483647 := rc_le2 rl_146 r_vu_20 (ti_nlt c_18) (by decide)
      refine lv_iload hx hb dX5_readOne_21 (lv_at hl 0 rfl) ?_
      refine lv_sipush (v := 155) hx hb dX5_readOne_23 (by decide) ?_
      refine lv_icmp_le (tgt := 37) hx hb dX5_readOne_26 (by decide) (fun c_26 => ?_) (fun c_26 => ?_)
      · have r_vu_20 : RI vu_20 146 155 := rc_le1 r_vu_20 rl_155 (ti_le c_26) (by decide)
        exact B37 vu_20 vu_20 w0 _ _ ls r_p3 (r_vu_20.to (by decide)) (r_vu_20.to (by decide)) m_u_20 hw (lv_sub hl [1, 2, 3, 4, 0] rfl)
      · have r_vu_20 : RI vu_20 156 2147483647 := rc_lt2 rl_155 r_vu_20 (ti_nle c_26) (by decide)
        exact B29 vu_20 w0 _ _ ls r_p3 (r_vu_20.to (by decide)) hw (lv_sub hl [1, 2, 3, 4, 0] rfl)
abbrev wr_X5_readCond__6 : List (Nat × Nat) := [(5, 3), (5, 4), (7, 5), (7, 6), (7, 7), (7, 8), (7, 9), (7, 10), (7, 11)]
abbrev wa_X5_readCond__6 : List Nat := [21]
set_option maxHeartbeats 4000000 in
set_option maxRecDepth 100000 in
theorem c_X5_readCond__6 (l : Launch) (D : va_G) (cy : Nat → ClassId) (z : Nat → Nat) (sz : Nat) (Ps : PSI) (w0 : va_W) (hT : HT cy GG Ps w0) (p0 : Nat) (p1 : Nat) (p2 : Nat) (p3 : Int32) (h_p0 : (p0, 32) ∈ Ps) (h_p1 : (p1, 26) ∈ Ps) (h_p2 : (p2, 25) ∈ Ps) (r_p3 : RI p3 7 7) : Met l yX5_readCond (Cond.code yX5_readCond cX5_readCond 7 none :: gT) ({ frames := 8, cells := 0, slots := 0, locals := 1600 } : Room) (va_Pc [.ref p0, .ref p1, .ref p2, .int p3] (PRE D cy z w0 sz)) (va_Qv (fun (u : va_W) => (True) ∧ HT cy GG Ps u ∧ FR wr_X5_readCond__6 wa_X5_readCond__6 Ps w0 u) (BB D cy (va_A w0 sz) (fun (u : va_W) => u)) (va_A w0 sz)) 0 0 (va_A w0 sz) := by
  refine Met.ofW (cc := cX5_readCond) (maxL := 7) (ret := none) (by decide) rfl ?_
  intro p e s m args below meth c s₁ B hml hv
  obtain ⟨rfl, hsz, hP, hK, hD0, hSD⟩ := hv
  have hx := B.exec
  have hb := B.bytes
  have hr := B.returns
  have hlocks := B.notSynchronized
  have hts : ∀ w ∈ gT, w.before _ s = true := fun w h => atoms_spec (ws := Cond.code yX5_readCond cX5_readCond 7 none :: gT) B.pre w (List.mem_cons_of_mem _ h)
  have hown : s.vm.findClass RX5 = some m.cls := findClass_of_methodNamed B.named
  subst hsz
  have hD := hD0.self (sz := s.heap.size)
  generalize hAe : va_A w0 s.heap.size = A at hD hSD ⊢
  have hA : ∀ q : Nat, s.heap.size ≤ q → A q := fun q h => by rw [← hAe]; exact Or.inr h
  have hl := lv_entry ([.ref p0, .ref p1, .ref p2, .int p3]) (n := 7) (Nat.le_of_ble_eq_true rfl)
  rw [lg_entry_eq]
  generalize (lg_sl ([.ref p0, .ref p1, .ref p2, .int p3]) ++ List.replicate (7 - (lg_sl ([.ref p0, .ref p1, .ref p2, .int p3])).length) Slot.unset).toArray = ls at hl ⊢
  have hl : lv_has ls 7 [(0, .ref p0), (1, .ref p1), (2, .ref p2), (3, .int p3)] := hl
  refine nameQ (fun Q hQ => ?_)
  have hw : WD D cy GG A s wr_X5_readCond__6 wa_X5_readCond__6 Ps w0 Ps w0 s.heap [] := ⟨hT, hP, hD, va_S.rf, FR.rf, hT.1, [], (List.append_nil _).symm⟩
  have B106 : ∀ (x4 : Int32) (x5 : Int32) (ws : va_W) (H : Heap) (locs : List Loc) (ls : Array Slot), RI p3 7 7 → RI x4 (-2147483648) 2147483647 → RI x5 0 21 → WD D cy GG A s wr_X5_readCond__6 wa_X5_readCond__6 Ps w0 Ps ws H locs → lv_has ls 7 [(0, .ref p0), (1, .ref p1), (2, .ref p2), (3, .int p3), (4, .int x4), (5, .int x5)] → W p l e (headSpec (Cond.code yX5_readCond cX5_readCond 7 none :: gT) ({ frames := 8, cells := 0, slots := 0, locals := 1600 } : Room)).room s m ([.ref p0, .ref p1, .ref p2, .int p3] : List Value).toArray below meth c H locs 0 0 Q (F0 m 106 ls []) := by
    intro x4 x5 ws H locs ls r_p3 r_x4 r_x5 hw hl
    refine lv_iload hx hb dX5_readCond_106 (lv_at hl 4 rfl) ?_
    refine lv_if_eq (tgt := 120) hx hb dX5_readCond_108 (by decide) (fun c_108 => ?_) (fun c_108 => ?_)
    · have r_x4 : RI x4 0 0 := rc_eq1 r_x4 rl_0 (ti_eq c_108) (by decide)
      subst hQ
      exact W.vret hx hb hr (fun t ht hW => ⟨⟨ws, rfl, ⟨trivial, hw.1, hw.2.2.2.2.1⟩, by rw [ht]; exact hw.2.1, va_K.moved hW.alike hK, hw.2.2.1⟩, hw.2.2.2.1.F ht⟩) hw.2.2.2.1.2.2 dX5_readCond_120
    · refine lv_aload_n hx hb dX5_readCond_111 rfl (lv_at hl 0 rfl) ?_
      refine lv_sipush (v := 144) hx hb dX5_readCond_112 (by decide) ?_
      refine lv_iconst (v := 0) hx hb dX5_readCond_115 (by decide) ?_
      refine lv_iconst (v := 0) hx hb dX5_readCond_116 (by decide) ?_
      refine tk_v (va_runV (As := [.int 144, .int 0, .int 0]) (rest := []) ⟨hx, hb, hml, hown, hts⟩ (c_X5_addStep l D cy z H.size Ps ws hw.1 p0 144 0 0 h_p0 (rl_144.to (by decide)) (rl_0.to (by decide)) (rl_0.to (by decide))) (cwV 3 hts (gV tw_983 tw_985 ts_33 tw_23 tw_986) rfl rfl rfl (by decide +kernel) ⟨Nat.le_of_ble_eq_true rfl, Nat.le_of_ble_eq_true rfl⟩) (tg_preV hw hK hSD hA (ci := 5) (q := (RX5, TX5, 5)) rfl h_p0 rfl) rfl rfl hl.1 rfl (lv_room (Nat.le_of_ble_eq_true rfl)) dX5_readCond_117 ⟨Nat.le_of_ble_eq_true rfl, Nat.le_of_ble_eq_true rfl⟩) hw hA ⟨by decide, by decide⟩ (fun ws H locs hp_v_1 hw hF9 => ?_)
      obtain ⟨v_2, m_v_2, r_v_2⟩ := (hp_v_1.1)
      subst hQ
      exact W.vret hx hb hr (fun t ht hW => ⟨⟨ws, rfl, ⟨trivial, hw.1, hw.2.2.2.2.1⟩, by rw [ht]; exact hw.2.1, va_K.moved hW.alike hK, hw.2.2.1⟩, hw.2.2.2.1.F ht⟩) hw.2.2.2.1.2.2 dX5_readCond_120
  have B13 : ∀ (nf : Nat) (x4 : Int32) (x5 : Int32) (ws : va_W) (H : Heap) (locs : List Loc) (ls : Array Slot), 20 - x5.toInt < (nf : Int) → RI p3 7 7 → RI x4 (-2147483648) 2147483647 → RI x5 0 20 → WD D cy GG A s wr_X5_readCond__6 wa_X5_readCond__6 Ps w0 Ps ws H locs → lv_has ls 7 [(0, .ref p0), (1, .ref p1), (2, .ref p2), (3, .int p3), (4, .int x4), (5, .int x5)] → W p l e (headSpec (Cond.code yX5_readCond cX5_readCond 7 none :: gT) ({ frames := 8, cells := 0, slots := 0, locals := 1600 } : Room)).room s m ([.ref p0, .ref p1, .ref p2, .int p3] : List Value).toArray below meth c H locs 0 0 Q (F0 m 13 ls []) := by
    intro nf13
    induction nf13 with
    | zero =>
      intro x4 x5 ws H locs ls hn13 r_p3 r_x4 r_x5 hw hl
      exact absurd hn13 (by have q0 := r_x5.1; have u0 := r_x5.2; omega)
    | succ nf13 ih13 =>
      have B72 : ∀ (x4 : Int32) (x5 : Int32) (x6 : Int32) (ws : va_W) (H : Heap) (locs : List Loc) (ls : Array Slot), RI p3 7 7 → RI x4 (-2147483648) 2147483647 → RI x5 0 19 → RI x6 0 1 → 20 - x5.toInt < ((nf13 + 1 : Nat) : Int) → WD D cy GG A s wr_X5_readCond__6 wa_X5_readCond__6 Ps w0 Ps ws H locs → lv_has ls 7 [(0, .ref p0), (1, .ref p1), (2, .ref p2), (3, .int p3), (4, .int x4), (5, .int x5), (6, .int x6)] → W p l e (headSpec (Cond.code yX5_readCond cX5_readCond 7 none :: gT) ({ frames := 8, cells := 0, slots := 0, locals := 1600 } : Room)).room s m ([.ref p0, .ref p1, .ref p2, .int p3] : List Value).toArray below meth c H locs 0 0 Q (F0 m 72 ls []) := by
        intro x4 x5 x6 ws H locs ls r_p3 r_x4 r_x5 r_x6 hn13 hw hl
        refine lv_iload hx hb dX5_readCond_72 (lv_at hl 4 rfl) ?_
        refine lv_iload hx hb dX5_readCond_74 (lv_at hl 6 rfl) ?_
        refine lv_ior hx hb dX5_readCond_76 (lv_topi (fun v_3 e_v_3 => ?_))
        have r_v_3 := ri_any v_3
        refine lv_istore (lv' := [(4, .int v_3), (0, .ref p0), (1, .ref p1), (2, .ref p2), (3, .int p3), (5, .int x5), (6, .int x6)]) hx hb dX5_readCond_77 hl (by decide) rfl (fun ls hl => ?_)
        refine lv_aload_n hx hb dX5_readCond_79 rfl (lv_at hl 1 rfl) ?_
        refine lv_aload_n hx hb dX5_readCond_80 rfl (lv_at hl 2 rfl) ?_
        refine lv_aload_n hx hb dX5_readCond_81 rfl (lv_at hl 3 rfl) ?_
        refine lv_iload_n hx hb dX5_readCond_82 rfl (lv_at hl 4 rfl) ?_
        refine tk_v (va_runV (As := [.ref p1, .ref p2, .int p3]) (rest := []) ⟨hx, hb, hml, hown, hts⟩ (c_X5_readOne__6 l D cy z H.size Ps ws hw.1 p0 p1 p2 p3 h_p0 h_p1 h_p2 r_p3) (cwV 3 hts (gV tw_977 tw_979 ts_32 tw_23 tw_980) rfl rfl rfl (by decide +kernel) ⟨Nat.le_of_ble_eq_true rfl, Nat.le_of_ble_eq_true rfl⟩) (tg_preV hw hK hSD hA (ci := 5) (q := (RX5, TX5, 5)) rfl h_p0 rfl) rfl rfl hl.1 rfl (lv_room (Nat.le_of_ble_eq_true rfl)) dX5_readCond_83 ⟨Nat.le_of_ble_eq_true rfl, Nat.le_of_ble_eq_true rfl⟩) hw hA ⟨by decide, by decide⟩ (fun ws H locs hp_v_4 hw hF9 => ?_)
        refine lv_iload hx hb dX5_readCond_86 (lv_at hl 6 rfl) ?_
        refine lv_if_ne (tgt := 100) hx hb dX5_readCond_88 (by decide) (fun c_88 => ?_) (fun c_88 => ?_)
        · have r_x6 : RI x6 1 1 := rc_neL r_x6 rl_0 (ti_ne c_88) (by decide)
          obtain ⟨v_5, e_v_5⟩ : ∃ q9 : Int32, q9 = x5 + Int32.ofInt 1 := ⟨_, rfl⟩
          obtain ⟨t_v_5, r_v_5⟩ := tq_add (lo := 1) (hi := 20) r_x5 (show RI (Int32.ofInt 1) 1 1 by unfold RI; decide +kernel) (by decide +kernel) e_v_5
          have t_v_5 : v_5.toInt = x5.toInt + 1 := t_v_5
          refine lv_iinc (v := v_5) (lv' := [(5, .int v_5), (4, .int v_3), (0, .ref p0), (1, .ref p1), (2, .ref p2), (3, .int p3), (6, .int x6)]) hx hb dX5_readCond_100 hl (k := 5) rfl e_v_5.symm (by decide) rfl (fun ls hl => ?_)
          refine lv_goto (tgt := 13) hx hb dX5_readCond_103 (by decide) ?_
          exact ih13 v_3 v_5 ws _ _ ls (by have q0 := r_v_5.1; have u0 := r_v_5.2; have o0 := r_x5.1; have p0 := r_x5.2; omega) r_p3 r_v_3 (r_v_5.to (by decide)) hw (lv_sub hl [2, 3, 4, 5, 1, 0] rfl)
        · have r_x6 : RI x6 0 0 := rc_eq1 r_x6 rl_0 (ti_eq c_88) (by decide)
          refine lv_aload_n hx hb dX5_readCond_91 rfl (lv_at hl 1 rfl) ?_
          refine lv_sipush (v := 145) hx hb dX5_readCond_92 (by decide) ?_
          refine lv_iconst (v := 0) hx hb dX5_readCond_95 (by decide) ?_
          refine lv_iconst (v := 0) hx hb dX5_readCond_96 (by decide) ?_
          refine tk_v (va_runV (As := [.int 145, .int 0, .int 0]) (rest := []) ⟨hx, hb, hml, hown, hts⟩ (c_X5_addStep l D cy z H.size Ps ws hw.1 p0 145 0 0 h_p0 (rl_145.to (by decide)) (rl_0.to (by decide)) (rl_0.to (by decide))) (cwV 3 hts (gV tw_983 tw_985 ts_33 tw_23 tw_986) rfl rfl rfl (by decide +kernel) ⟨Nat.le_of_ble_eq_true rfl, Nat.le_of_ble_eq_true rfl⟩) (tg_preV hw hK hSD hA (ci := 5) (q := (RX5, TX5, 5)) rfl h_p0 rfl) rfl rfl hl.1 rfl (lv_room (Nat.le_of_ble_eq_true rfl)) dX5_readCond_97 ⟨Nat.le_of_ble_eq_true rfl, Nat.le_of_ble_eq_true rfl⟩) hw hA ⟨by decide, by decide⟩ (fun ws H locs hp_v_6 hw hF9 => ?_)
          obtain ⟨v_7, m_v_7, r_v_7⟩ := (hp_v_6.1)
          obtain ⟨v_8, e_v_8⟩ : ∃ q9 : Int32, q9 = x5 + Int32.ofInt 1 := ⟨_, rfl⟩
          obtain ⟨t_v_8, r_v_8⟩ := tq_add (lo := 1) (hi := 20) r_x5 (show RI (Int32.ofInt 1) 1 1 by unfold RI; decide +kernel) (by decide +kernel) e_v_8
          have t_v_8 : v_8.toInt = x5.toInt + 1 := t_v_8
          refine lv_iinc (v := v_8) (lv' := [(5, .int v_8), (4, .int v_3), (0, .ref p0), (1, .ref p1), (2, .ref p2), (3, .int p3), (6, .int x6)]) hx hb dX5_readCond_100 hl (k := 5) rfl e_v_8.symm (by decide) rfl (fun ls hl => ?_)
          refine lv_goto (tgt := 13) hx hb dX5_readCond_103 (by decide) ?_
          exact ih13 v_3 v_8 ws _ _ ls (by have q0 := r_v_8.1; have u0 := r_v_8.2; have o0 := r_x5.1; have p0 := r_x5.2; omega) r_p3 r_v_3 (r_v_8.to (by decide)) hw (lv_sub hl [2, 3, 4, 5, 1, 0] rfl)
      have B40 : ∀ (x4 : Int32) (x5 : Int32) (ws : va_W) (H : Heap) (locs : List Loc) (ls : Array Slot), RI p3 7 7 → RI x4 (-2147483648) 2147483647 → RI x5 0 19 → 20 - x5.toInt < ((nf13 + 1 : Nat) : Int) → WD D cy GG A s wr_X5_readCond__6 wa_X5_readCond__6 Ps w0 Ps ws H locs → lv_has ls 7 [(0, .ref p0), (1, .ref p1), (2, .ref p2), (3, .int p3), (4, .int x4), (5, .int x5)] → W p l e (headSpec (Cond.code yX5_readCond cX5_readCond 7 none :: gT) ({ frames := 8, cells := 0, slots := 0, locals := 1600 } : Room)).room s m ([.ref p0, .ref p1, .ref p2, .int p3] : List Value).toArray below meth c H locs 0 0 Q (F0 m 40 ls []) := by
        intro x4 x5 ws H locs ls r_p3 r_x4 r_x5 hn13 hw hl
        refine lv_aload_n hx hb dX5_readCond_40 rfl (lv_at hl 1 rfl) ?_
        refine lv_sipush (v := 144) hx hb dX5_readCond_41 (by decide) ?_
        refine tk_ir (va_runV (As := [.int 144]) (rest := []) ⟨hx, hb, hml, hown, hts⟩ (c_X7_sees l D cy z H.size Ps ws hw.1 p1 144 h_p1 (rl_144.to (by decide))) (cwV 1 hts (gV tw_994 tw_995 tw_996 tw_2 tw_997) rfl rfl rfl (by decide +kernel) ⟨Nat.le_of_ble_eq_true rfl, Nat.le_of_ble_eq_true rfl⟩) (tg_preV hw hK hSD hA (ci := 7) (q := (RX7, TX7, 12)) rfl h_p1 rfl) rfl rfl hl.1 rfl (lv_room (Nat.le_of_ble_eq_true rfl)) dX5_readCond_44 ⟨Nat.le_of_ble_eq_true rfl, Nat.le_of_ble_eq_true rfl⟩) hw hA (fun v_9  H locs hp_v_9 hw => ?_)
        have r_v_9 : RI v_9 0 1 := hp_v_9.1
        refine lv_istore (lv' := [(6, .int v_9), (0, .ref p0), (1, .ref p1), (2, .ref p2), (3, .int p3), (4, .int x4), (5, .int x5)]) hx hb dX5_readCond_47 hl (by decide) rfl (fun ls hl => ?_)
        refine lv_aload_n hx hb dX5_readCond_49 rfl (lv_at hl 2 rfl) ?_
        refine tk_v (va_runV (As := []) (rest := []) ⟨hx, hb, hml, hown, hts⟩ (c_X7_pass l D cy z H.size Ps ws hw.1 p1 h_p1) (cwV 0 hts (gV tw_982 tw_425 tw_426 tw_2 tw_427) rfl rfl rfl (by decide +kernel) ⟨Nat.le_of_ble_eq_true rfl, Nat.le_of_ble_eq_true rfl⟩) (tg_preV hw hK hSD hA (ci := 7) (q := (RX7, TX7, 12)) rfl h_p1 rfl) rfl rfl hl.1 rfl (lv_room (Nat.le_of_ble_eq_true rfl)) dX5_readCond_50 ⟨Nat.le_of_ble_eq_true rfl, Nat.le_of_ble_eq_true rfl⟩) hw hA ⟨by decide, by decide⟩ (fun ws H locs hp_v_10 hw hF9 => ?_)
        refine lv_iload hx hb dX5_readCond_53 (lv_at hl 0 rfl) ?_
        refine lv_if_eq (tgt := 72) hx hb dX5_readCond_55 (by decide) (fun c_55 => ?_) (fun c_55 => ?_)
        · have r_v_9 : RI v_9 0 0 := rc_eq1 r_v_9 rl_0 (ti_eq c_55) (by decide)
          exact B72 x4 x5 v_9 ws _ _ ls r_p3 r_x4 r_x5 (r_v_9.to (by decide)) (by have q0 := r_x5.1; have u0 := r_x5.2; omega) hw (lv_sub hl [1, 2, 3, 4, 5, 6, 0] rfl)
        · have r_v_9 : RI v_9 1 1 := rc_neL r_v_9 rl_0 (ti_ne c_55) (by decide)
          refine lv_iload hx hb dX5_readCond_58 (lv_at hl 5 rfl) ?_
          refine lv_if_eq (tgt := 72) hx hb dX5_readCond_60 (by decide) (fun c_60 => ?_) (fun c_60 => ?_)
          · have r_x4 : RI x4 0 0 := rc_eq1 r_x4 rl_0 (ti_eq c_60) (by decide)
            exact B72 x4 x5 v_9 ws _ _ ls r_p3 (r_x4.to (by decide)) r_x5 (r_v_9.to (by decide)) (by have q0 := r_x5.1; have u0 := r_x5.2; omega) hw (lv_sub hl [1, 2, 3, 4, 5, 6, 0] rfl)
          · refine lv_aload_n hx hb dX5_readCond_63 rfl (lv_at hl 1 rfl) ?_
            refine lv_sipush (v := 144) hx hb dX5_readCond_64 (by decide) ?_
            refine lv_iconst (v := 0) hx hb dX5_readCond_67 (by decide) ?_
            refine lv_iconst (v := 0) hx hb dX5_readCond_68 (by decide) ?_
            refine tk_v (va_runV (As := [.int 144, .int 0, .int 0]) (rest := []) ⟨hx, hb, hml, hown, hts⟩ (c_X5_addStep l D cy z H.size Ps ws hw.1 p0 144 0 0 h_p0 (rl_144.to (by decide)) (rl_0.to (by decide)) (rl_0.to (by decide))) (cwV 3 hts (gV tw_983 tw_985 ts_33 tw_23 tw_986) rfl rfl rfl (by decide +kernel) ⟨Nat.le_of_ble_eq_true rfl, Nat.le_of_ble_eq_true rfl⟩) (tg_preV hw hK hSD hA (ci := 5) (q := (RX5, TX5, 5)) rfl h_p0 rfl) rfl rfl hl.1 rfl (lv_room (Nat.le_of_ble_eq_true rfl)) dX5_readCond_69 ⟨Nat.le_of_ble_eq_true rfl, Nat.le_of_ble_eq_true rfl⟩) hw hA ⟨by decide, by decide⟩ (fun ws H locs hp_v_11 hw hF9 => ?_)
            obtain ⟨v_12, m_v_12, r_v_12⟩ := (hp_v_11.1)
            exact B72 x4 x5 v_9 ws _ _ ls r_p3 r_x4 r_x5 (r_v_9.to (by decide)) (by have q0 := r_x5.1; have u0 := r_x5.2; omega) hw (lv_sub hl [1, 2, 3, 4, 5, 6, 0] rfl)
      intro x4 x5 ws H locs ls hn13 r_p3 r_x4 r_x5 hw hl
      refine lv_iload hx hb dX5_readCond_13 (lv_at hl 5 rfl) ?_
      refine lv_bipush (v := 20) hx hb dX5_readCond_15 (by decide) ?_
      refine lv_icmp_ge (tgt := 106) hx hb dX5_readCond_17 (by decide) (fun c_17 => ?_) (fun c_17 => ?_)
      · have r_x5 : RI x5 20 20 := rc_le2 rl_20 r_x5 (ti_le c_17) (by decide)
        exact B106 x4 x5 ws _ _ ls r_p3 r_x4 (r_x5.to (by decide)) hw hl
      · have r_x5 : RI x5 0 19 := rc_lt1 r_x5 rl_20 (ti_nle c_17) (by decide)
        refine lv_aload_n hx hb dX5_readCond_20 rfl (lv_at hl 1 rfl) ?_
        refine lv_sipush (v := 144) hx hb dX5_readCond_21 (by decide) ?_
        refine tk_ir (va_runV (As := [.int 144]) (rest := []) ⟨hx, hb, hml, hown, hts⟩ (c_X7_sees l D cy z H.size Ps ws hw.1 p1 144 h_p1 (rl_144.to (by decide))) (cwV 1 hts (gV tw_994 tw_995 tw_996 tw_2 tw_997) rfl rfl rfl (by decide +kernel) ⟨Nat.le_of_ble_eq_true rfl, Nat.le_of_ble_eq_true rfl⟩) (tg_preV hw hK hSD hA (ci := 7) (q := (RX7, TX7, 12)) rfl h_p1 rfl) rfl rfl hl.1 rfl (lv_room (Nat.le_of_ble_eq_true rfl)) dX5_readCond_24 ⟨Nat.le_of_ble_eq_true rfl, Nat.le_of_ble_eq_true rfl⟩) hw hA (fun v_13  H locs hp_v_13 hw => ?_)
        have r_v_13 : RI v_13 0 1 := hp_v_13.1
        refine lv_if_ne (tgt := 40) hx hb dX5_readCond_27 (by decide) (fun c_27 => ?_) (fun c_27 => ?_)
        · have r_v_13 : RI v_13 1 1 := rc_neL r_v_13 rl_0 (ti_ne c_27) (by decide)
          exact B40 x4 x5 ws _ _ ls r_p3 r_x4 r_x5 (by have q0 := r_x5.1; have u0 := r_x5.2; omega) hw hl
        · have r_v_13 : RI v_13 0 0 := rc_eq1 r_v_13 rl_0 (ti_eq c_27) (by decide)
          refine lv_aload_n hx hb dX5_readCond_30 rfl (lv_at hl 1 rfl) ?_
          refine lv_sipush (v := 145) hx hb dX5_readCond_31 (by decide) ?_
          refine tk_ir (va_runV (As := [.int 145]) (rest := []) ⟨hx, hb, hml, hown, hts⟩ (c_X7_sees l D cy z H.size Ps ws hw.1 p1 145 h_p1 (rl_145.to (by decide))) (cwV 1 hts (gV tw_994 tw_995 tw_996 tw_2 tw_997) rfl rfl rfl (by decide +kernel) ⟨Nat.le_of_ble_eq_true rfl, Nat.le_of_ble_eq_true rfl⟩) (tg_preV hw hK hSD hA (ci := 7) (q := (RX7, TX7, 12)) rfl h_p1 rfl) rfl rfl hl.1 rfl (lv_room (Nat.le_of_ble_eq_true rfl)) dX5_readCond_34 ⟨Nat.le_of_ble_eq_true rfl, Nat.le_of_ble_eq_true rfl⟩) hw hA (fun v_14  H locs hp_v_14 hw => ?_)
          have r_v_14 : RI v_14 0 1 := hp_v_14.1
          refine lv_if_eq (tgt := 106) hx hb dX5_readCond_37 (by decide) (fun c_37 => ?_) (fun c_37 => ?_)
          · have r_v_14 : RI v_14 0 0 := rc_eq1 r_v_14 rl_0 (ti_eq c_37) (by decide)
            exact B106 x4 x5 ws _ _ ls r_p3 r_x4 (r_x5.to (by decide)) hw hl
          · have r_v_14 : RI v_14 1 1 := rc_neL r_v_14 rl_0 (ti_ne c_37) (by decide)
            exact B40 x4 x5 ws _ _ ls r_p3 r_x4 r_x5 (by have q0 := r_x5.1; have u0 := r_x5.2; omega) hw hl
  refine lv_iconst (v := 0) hx hb dX5_readCond_0 (by decide) ?_
  refine lv_istore (lv' := [(4, .int 0), (0, .ref p0), (1, .ref p1), (2, .ref p2), (3, .int p3)]) hx hb dX5_readCond_1 hl (by decide) rfl (fun ls hl => ?_)
  refine lv_aload_n hx hb dX5_readCond_3 rfl (lv_at hl 1 rfl) ?_
  refine lv_aload_n hx hb dX5_readCond_4 rfl (lv_at hl 2 rfl) ?_
  refine lv_aload_n hx hb dX5_readCond_5 rfl (lv_at hl 3 rfl) ?_
  refine lv_iload_n hx hb dX5_readCond_6 rfl (lv_at hl 4 rfl) ?_
  refine tk_v (va_runV (As := [.ref p1, .ref p2, .int p3]) (rest := []) ⟨hx, hb, hml, hown, hts⟩ (c_X5_readOne__6 l D cy z s.heap.size Ps w0 hw.1 p0 p1 p2 p3 h_p0 h_p1 h_p2 r_p3) (cwV 3 hts (gV tw_977 tw_979 ts_32 tw_23 tw_980) rfl rfl rfl (by decide +kernel) ⟨Nat.le_of_ble_eq_true rfl, Nat.le_of_ble_eq_true rfl⟩) (tg_preV hw hK hSD hA (ci := 5) (q := (RX5, TX5, 5)) rfl h_p0 rfl) rfl rfl hl.1 rfl (lv_room (Nat.le_of_ble_eq_true rfl)) dX5_readCond_7 ⟨Nat.le_of_ble_eq_true rfl, Nat.le_of_ble_eq_true rfl⟩) hw hA ⟨by decide, by decide⟩ (fun ws H locs hp_v_15 hw hF9 => ?_)
  refine lv_iconst (v := 0) hx hb dX5_readCond_10 (by decide) ?_
  refine lv_istore (lv' := [(5, .int 0), (4, .int 0), (0, .ref p0), (1, .ref p1), (2, .ref p2), (3, .int p3)]) hx hb dX5_readCond_11 hl (by decide) rfl (fun ls hl => ?_)
  exact B13 4294967298 0 0 ws _ _ ls (by have q0 := rl_0.1; have u0 := rl_0.2; omega) r_p3 (rl_0.to (by decide)) (rl_0.to (by decide)) hw (lv_sub hl [2, 3, 4, 5, 1, 0] rfl)
abbrev wr_X5_readOne__5 : List (Nat × Nat) := [(5, 3), (5, 4), (7, 5), (7, 6), (7, 7), (7, 8), (7, 9), (7, 10), (7, 11)]
abbrev wa_X5_readOne__5 : List Nat := [21]
set_option maxHeartbeats 4000000 in
set_option maxRecDepth 100000 in
theorem c_X5_readOne__5 (l : Launch) (D : va_G) (cy : Nat → ClassId) (z : Nat → Nat) (sz : Nat) (Ps : PSI) (w0 : va_W) (hT : HT cy GG Ps w0) (p0 : Nat) (p1 : Nat) (p2 : Nat) (p3 : Int32) (h_p0 : (p0, 32) ∈ Ps) (h_p1 : (p1, 26) ∈ Ps) (h_p2 : (p2, 25) ∈ Ps) (r_p3 : RI p3 6 6) : Met l yX5_readOne (Cond.code yX5_readOne cX5_readOne 5 none :: gT) ({ frames := 9, cells := 0, slots := 0, locals := 1800 } : Room) (va_Pc [.ref p0, .ref p1, .ref p2, .int p3] (PRE D cy z w0 sz)) (va_Qv (fun (u : va_W) => (True) ∧ HT cy GG Ps u ∧ FR wr_X5_readOne__5 wa_X5_readOne__5 Ps w0 u) (BB D cy (va_A w0 sz) (fun (u : va_W) => u)) (va_A w0 sz)) 0 0 (va_A w0 sz) := by
  refine Met.ofW (cc := cX5_readOne) (maxL := 5) (ret := none) (by decide) rfl ?_
  intro p e s m args below meth c s₁ B hml hv
  obtain ⟨rfl, hsz, hP, hK, hD0, hSD⟩ := hv
  have hx := B.exec
  have hb := B.bytes
  have hr := B.returns
  have hlocks := B.notSynchronized
  have hts : ∀ w ∈ gT, w.before _ s = true := fun w h => atoms_spec (ws := Cond.code yX5_readOne cX5_readOne 5 none :: gT) B.pre w (List.mem_cons_of_mem _ h)
  have hown : s.vm.findClass RX5 = some m.cls := findClass_of_methodNamed B.named
  subst hsz
  have hD := hD0.self (sz := s.heap.size)
  generalize hAe : va_A w0 s.heap.size = A at hD hSD ⊢
  have hA : ∀ q : Nat, s.heap.size ≤ q → A q := fun q h => by rw [← hAe]; exact Or.inr h
  have hl := lv_entry ([.ref p0, .ref p1, .ref p2, .int p3]) (n := 5) (Nat.le_of_ble_eq_true rfl)
  rw [lg_entry_eq]
  generalize (lg_sl ([.ref p0, .ref p1, .ref p2, .int p3]) ++ List.replicate (5 - (lg_sl ([.ref p0, .ref p1, .ref p2, .int p3])).length) Slot.unset).toArray = ls at hl ⊢
  have hl : lv_has ls 5 [(0, .ref p0), (1, .ref p1), (2, .ref p2), (3, .int p3)] := hl
  refine nameQ (fun Q hQ => ?_)
  have hw : WD D cy GG A s wr_X5_readOne__5 wa_X5_readOne__5 Ps w0 Ps w0 s.heap [] := ⟨hT, hP, hD, va_S.rf, FR.rf, hT.1, [], (List.append_nil _).symm⟩
  have B57 : ∀ (x4 : Int32) (ws : va_W) (H : Heap) (locs : List Loc) (ls : Array Slot), RI p3 6 6 → RI x4 (-2147483648) 2147483647 → WD D cy GG A s wr_X5_readOne__5 wa_X5_readOne__5 Ps w0 Ps ws H locs → lv_has ls 5 [(0, .ref p0), (1, .ref p1), (2, .ref p2), (3, .int p3), (4, .int x4)] → W p l e (headSpec (Cond.code yX5_readOne cX5_readOne 5 none :: gT) ({ frames := 9, cells := 0, slots := 0, locals := 1800 } : Room)).room s m ([.ref p0, .ref p1, .ref p2, .int p3] : List Value).toArray below meth c H locs 0 0 Q (F0 m 57 ls []) := by
    intro x4 ws H locs ls r_p3 r_x4 hw hl
    refine lv_aload_n hx hb dX5_readOne_57 rfl (lv_at hl 1 rfl) ?_
    refine tg_getN (ci := 7) (ts := ty_TAPE) (C := RX7) (T := TX7) (N := 12) hx hb hts inX7 hown hK hw h_p1 rfl rfl 10 (by decide) (hSD.nest tn_103) (fun _ h9 => h9) (ft := vI 0 4) rfl dX5_readOne_58 (fun u_1 hv_u_1 m_u_1 => ?_)
    obtain ⟨vu_1, rfl, r_vu_1⟩ := hv_u_1
    refine lv_if_eq (tgt := 65) hx hb dX5_readOne_61 (by decide) (fun c_61 => ?_) (fun c_61 => ?_)
    · have r_vu_1 : RI vu_1 0 0 := rc_eq1 r_vu_1 rl_0 (ti_eq c_61) (by decide)
      refine lv_aload_n hx hb dX5_readOne_65 rfl (lv_at hl 1 rfl) ?_
      refine tk_v (va_runV (As := []) (rest := []) ⟨hx, hb, hml, hown, hts⟩ (c_X7_pass l D cy z H.size Ps ws hw.1 p1 h_p1) (cwV 0 hts (gV tw_982 tw_425 tw_426 tw_2 tw_427) rfl rfl rfl (by decide +kernel) ⟨Nat.le_of_ble_eq_true rfl, Nat.le_of_ble_eq_true rfl⟩) (tg_preV hw hK hSD hA (ci := 7) (q := (RX7, TX7, 12)) rfl h_p1 rfl) rfl rfl hl.1 rfl (lv_room (Nat.le_of_ble_eq_true rfl)) dX5_readOne_66 ⟨Nat.le_of_ble_eq_true rfl, Nat.le_of_ble_eq_true rfl⟩) hw hA ⟨by decide, by decide⟩ (fun ws H locs hp_v_2 hw hF9 => ?_)
      have m_u_1 := FLD.over hF9 m_u_1 (by decide)
      refine lv_aload_n hx hb dX5_readOne_69 rfl (lv_at hl 0 rfl) ?_
      refine lv_dup hx hb dX5_readOne_70 rfl ?_
      refine tg_get (ci := 5) (ts := ty_SENT) (C := RX5) (T := TX5) (N := 5) hx hb hts inX5 hown hK hw h_p0 rfl rfl 4 (by decide) (hts _ tw_955) (fun _ h9 => h9) (ft := vI (-2147483648) 2147483647) rfl dX5_readOne_71 (fun u_3 hv_u_3 m_u_3 => ?_)
      obtain ⟨vu_3, rfl, r_vu_3⟩ := hv_u_3
      refine lv_iconst (v := 1) hx hb dX5_readOne_74 (by decide) ?_
      refine lv_iadd hx hb dX5_readOne_75 (lv_topi (fun v_4 e_v_4 => ?_))
      have r_v_4 := ri_any v_4
      refine tg_put (ci := 5) (ts := ty_SENT) (v := .int v_4) (ty := .int) (C := RX5) (T := TX5) (N := 5) hx hb hts inX5 tyX5 tyX5_ok nmX5 hown hK hw h_p0 rfl rfl 4 (by decide) (hts _ tw_955) (fun _ h9 => h9) rfl (by decide +kernel) rfl rfl (ft := vI (-2147483648) 2147483647) rfl ⟨_, rfl, r_v_4⟩ (by decide) dX5_readOne_76 (fun ws H locs hw n_k_5 hF9 => ?_)
      have m_u_1 := FLD.over hF9 m_u_1 (by decide)
      refine lv_iload hx hb dX5_readOne_79 (lv_at hl 4 rfl) ?_
      refine lv_sipush (v := 146) hx hb dX5_readOne_81 (by decide) ?_
      refine lv_icmp_ne (tgt := 108) hx hb dX5_readOne_84 (by decide) (fun c_84 => ?_) (fun c_84 => ?_)
      · refine lv_iload hx hb dX5_readOne_108 (lv_at hl 4 rfl) ?_
        refine lv_bipush (v := 40) hx hb dX5_readOne_110 (by decide) ?_
        refine lv_icmp_ne (tgt := 133) hx hb dX5_readOne_112 (by decide) (fun c_112 => ?_) (fun c_112 => ?_)
        · refine lv_aload_n hx hb dX5_readOne_133 rfl (lv_at hl 0 rfl) ?_
          refine lv_aload_n hx hb dX5_readOne_134 rfl (lv_at hl 1 rfl) ?_
          refine lv_aload_n hx hb dX5_readOne_135 rfl (lv_at hl 2 rfl) ?_
          refine lv_iload hx hb dX5_readOne_136 (lv_at hl 4 rfl) ?_
          refine tk_v (va_runV (As := [.ref p1, .ref p2, .int x4]) (rest := []) ⟨hx, hb, hml, hown, hts⟩ (c_X5_readPlain l D cy z H.size Ps ws hw.1 p0 p1 p2 x4 h_p0 h_p1 h_p2 r_x4) (cwV 3 hts (gV tw_988 tw_990 ts_34 tw_23 tw_991) rfl rfl rfl (by decide +kernel) ⟨Nat.le_of_ble_eq_true rfl, Nat.le_of_ble_eq_true rfl⟩) (tg_preV hw hK hSD hA (ci := 5) (q := (RX5, TX5, 5)) rfl h_p0 rfl) rfl rfl hl.1 rfl (lv_room (Nat.le_of_ble_eq_true rfl)) dX5_readOne_138 ⟨Nat.le_of_ble_eq_true rfl, Nat.le_of_ble_eq_true rfl⟩) hw hA ⟨by decide, by decide⟩ (fun ws H locs hp_v_6 hw hF9 => ?_)
          have n_k_5 := FLD.over hF9 n_k_5 (by decide)
          obtain ⟨v_7, m_v_7, r_v_7⟩ := (hp_v_6.1)
          subst hQ
          exact W.vret hx hb hr (fun t ht hW => ⟨⟨ws, rfl, ⟨trivial, hw.1, hw.2.2.2.2.1⟩, by rw [ht]; exact hw.2.1, va_K.moved hW.alike hK, hw.2.2.1⟩, hw.2.2.2.1.F ht⟩) hw.2.2.2.1.2.2 dX5_readOne_141
        · have r_x4 : RI x4 40 40 := rc_eq1 r_x4 rl_40 (ti_eq c_112) (by decide)
          refine lv_aload_n hx hb dX5_readOne_115 rfl (lv_at hl 0 rfl) ?_
          refine lv_aload_n hx hb dX5_readOne_116 rfl (lv_at hl 1 rfl) ?_
          refine lv_aload_n hx hb dX5_readOne_117 rfl (lv_at hl 2 rfl) ?_
          refine lv_iload_n hx hb dX5_readOne_118 rfl (lv_at hl 3 rfl) ?_
          refine lv_iconst (v := 1) hx hb dX5_readOne_119 (by decide) ?_
          refine lv_iadd hx hb dX5_readOne_120 (lv_topi (fun v_8 e_v_8 => ?_))
          obtain ⟨t_v_8, r_v_8⟩ := tq_add (lo := 7) (hi := 7) r_p3 rl_1 (by decide +kernel) e_v_8
          have t_v_8 : v_8.toInt = p3.toInt + 1 := t_v_8
          refine tk_v (va_runV (As := [.ref p1, .ref p2, .int v_8]) (rest := []) ⟨hx, hb, hml, hown, hts⟩ (c_X5_readCond__6 l D cy z H.size Ps ws hw.1 p0 p1 p2 v_8 h_p0 h_p1 h_p2 r_v_8) (cwV 3 hts (gV tw_973 tw_975 ts_31 tw_23 tw_976) rfl rfl rfl (by decide +kernel) ⟨Nat.le_of_ble_eq_true rfl, Nat.le_of_ble_eq_true rfl⟩) (tg_preV hw hK hSD hA (ci := 5) (q := (RX5, TX5, 5)) rfl h_p0 rfl) rfl rfl hl.1 rfl (lv_room (Nat.le_of_ble_eq_true rfl)) dX5_readOne_121 ⟨Nat.le_of_ble_eq_true rfl, Nat.le_of_ble_eq_true rfl⟩) hw hA ⟨by decide, by decide⟩ (fun ws H locs hp_v_9 hw hF9 => ?_)
          refine lv_aload_n hx hb dX5_readOne_124 rfl (lv_at hl 1 rfl) ?_
          refine lv_bipush (v := 41) hx hb dX5_readOne_125 (by decide) ?_
          refine tk_v (va_runV (As := [.int 41]) (rest := []) ⟨hx, hb, hml, hown, hts⟩ (c_X7_passOnly l D cy z H.size Ps ws hw.1 p1 41 h_p1 (rl_41.to (by decide))) (cwV 1 hts (gV tw_987 tw_514 tw_515 tw_2 tw_516) rfl rfl rfl (by decide +kernel) ⟨Nat.le_of_ble_eq_true rfl, Nat.le_of_ble_eq_true rfl⟩) (tg_preV hw hK hSD hA (ci := 7) (q := (RX7, TX7, 12)) rfl h_p1 rfl) rfl rfl hl.1 rfl (lv_room (Nat.le_of_ble_eq_true rfl)) dX5_readOne_127 ⟨Nat.le_of_ble_eq_true rfl, Nat.le_of_ble_eq_true rfl⟩) hw hA ⟨by decide, by decide⟩ (fun ws H locs hp_v_10 hw hF9 => ?_)
          refine lv_goto (tgt := 141) hx hb dX5_readOne_130 (by decide) ?_
          subst hQ
          exact W.vret hx hb hr (fun t ht hW => ⟨⟨ws, rfl, ⟨trivial, hw.1, hw.2.2.2.2.1⟩, by rw [ht]; exact hw.2.1, va_K.moved hW.alike hK, hw.2.2.1⟩, hw.2.2.2.1.F ht⟩) hw.2.2.2.1.2.2 dX5_readOne_141
      · have r_x4 : RI x4 146 146 := rc_eq1 r_x4 rl_146 (ti_eq c_84) (by decide)
        refine lv_aload_n hx hb dX5_readOne_87 rfl (lv_at hl 0 rfl) ?_
        refine lv_aload_n hx hb dX5_readOne_88 rfl (lv_at hl 1 rfl) ?_
        refine lv_aload_n hx hb dX5_readOne_89 rfl (lv_at hl 2 rfl) ?_
        refine lv_iload_n hx hb dX5_readOne_90 rfl (lv_at hl 3 rfl) ?_
        refine lv_iconst (v := 1) hx hb dX5_readOne_91 (by decide) ?_
        refine lv_iadd hx hb dX5_readOne_92 (lv_topi (fun v_11 e_v_11 => ?_))
        obtain ⟨t_v_11, r_v_11⟩ := tq_add (lo := 7) (hi := 7) r_p3 rl_1 (by decide +kernel) e_v_11
        have t_v_11 : v_11.toInt = p3.toInt + 1 := t_v_11
        refine tk_v (va_runV (As := [.ref p1, .ref p2, .int v_11]) (rest := []) ⟨hx, hb, hml, hown, hts⟩ (c_X5_readOne__6 l D cy z H.size Ps ws hw.1 p0 p1 p2 v_11 h_p0 h_p1 h_p2 r_v_11) (cwV 3 hts (gV tw_977 tw_979 ts_32 tw_23 tw_980) rfl rfl rfl (by decide +kernel) ⟨Nat.le_of_ble_eq_true rfl, Nat.le_of_ble_eq_true rfl⟩) (tg_preV hw hK hSD hA (ci := 5) (q := (RX5, TX5, 5)) rfl h_p0 rfl) rfl rfl hl.1 rfl (lv_room (Nat.le_of_ble_eq_true rfl)) dX5_readOne_93 ⟨Nat.le_of_ble_eq_true rfl, Nat.le_of_ble_eq_true rfl⟩) hw hA ⟨by decide, by decide⟩ (fun ws H locs hp_v_12 hw hF9 => ?_)
        refine lv_aload_n hx hb dX5_readOne_96 rfl (lv_at hl 0 rfl) ?_
        refine lv_sipush (v := 146) hx hb dX5_readOne_97 (by decide) ?_
        refine lv_iconst (v := 0) hx hb dX5_readOne_100 (by decide) ?_
        refine lv_iconst (v := 0) hx hb dX5_readOne_101 (by decide) ?_
        refine tk_v (va_runV (As := [.int 146, .int 0, .int 0]) (rest := []) ⟨hx, hb, hml, hown, hts⟩ (c_X5_addStep l D cy z H.size Ps ws hw.1 p0 146 0 0 h_p0 (rl_146.to (by decide)) (rl_0.to (by decide)) (rl_0.to (by decide))) (cwV 3 hts (gV tw_983 tw_985 ts_33 tw_23 tw_986) rfl rfl rfl (by decide +kernel) ⟨Nat.le_of_ble_eq_true rfl, Nat.le_of_ble_eq_true rfl⟩) (tg_preV hw hK hSD hA (ci := 5) (q := (RX5, TX5, 5)) rfl h_p0 rfl) rfl rfl hl.1 rfl (lv_room (Nat.le_of_ble_eq_true rfl)) dX5_readOne_102 ⟨Nat.le_of_ble_eq_true rfl, Nat.le_of_ble_eq_true rfl⟩) hw hA ⟨by decide, by decide⟩ (fun ws H locs hp_v_13 hw hF9 => ?_)
        obtain ⟨v_14, m_v_14, r_v_14⟩ := (hp_v_13.1)
        refine lv_goto (tgt := 141) hx hb dX5_readOne_105 (by decide) ?_
        subst hQ
        exact W.vret hx hb hr (fun t ht hW => ⟨⟨ws, rfl, ⟨trivial, hw.1, hw.2.2.2.2.1⟩, by rw [ht]; exact hw.2.1, va_K.moved hW.alike hK, hw.2.2.1⟩, hw.2.2.2.1.F ht⟩) hw.2.2.2.1.2.2 dX5_readOne_141
    · have r_vu_1 : RI vu_1 1 4 := rc_neL r_vu_1 rl_0 (ti_ne c_61) (by decide)
      subst hQ
      exact W.vret hx hb hr (fun t ht hW => ⟨⟨ws, rfl, ⟨trivial, hw.1, hw.2.2.2.2.1⟩, by rw [ht]; exact hw.2.1, va_K.moved hW.alike hK, hw.2.2.1⟩, hw.2.2.2.1.F ht⟩) hw.2.2.2.1.2.2 dX5_readOne_64
  have B52 : ∀ (x4 : Int32) (z0_4 : Int32) (z1_7 : Int32) (ws : va_W) (H : Heap) (locs : List Loc) (ls : Array Slot), RI p3 6 6 → RI x4 40 155 → RI z0_4 20 2147483647 → FLD ws p0 5 4 (.int z0_4) → RI z1_7 40 155 → FLD ws p1 7 7 (.int z1_7) → WD D cy GG A s wr_X5_readOne__5 wa_X5_readOne__5 Ps w0 Ps ws H locs → lv_has ls 5 [(0, .ref p0), (1, .ref p1), (2, .ref p2), (3, .int p3), (4, .int x4)] → W p l e (headSpec (Cond.code yX5_readOne cX5_readOne 5 none :: gT) ({ frames := 9, cells := 0, slots := 0, locals := 1800 } : Room)).room s m ([.ref p0, .ref p1, .ref p2, .int p3] : List Value).toArray below meth c H locs 0 0 Q (F0 m 52 ls []) := by
    intro x4 z0_4 z1_7 ws H locs ls r_p3 r_x4 r_z0_4 m_z0_4 r_z1_7 m_z1_7 hw hl
    refine lv_aload_n hx hb dX5_readOne_52 rfl (lv_at hl 1 rfl) ?_
    refine lv_iconst (v := 4) hx hb dX5_readOne_53 (by decide) ?_
    refine tk_v (va_runV (As := [.int 4]) (rest := []) ⟨hx, hb, hml, hown, hts⟩ (c_X7_refuse l D cy z H.size Ps ws hw.1 p1 4 h_p1 (rl_4.to (by decide))) (cwV 1 hts (gV tw_981 tw_443 tw_444 tw_2 tw_445) rfl rfl rfl (by decide +kernel) ⟨Nat.le_of_ble_eq_true rfl, Nat.le_of_ble_eq_true rfl⟩) (tg_preV hw hK hSD hA (ci := 7) (q := (RX7, TX7, 12)) rfl h_p1 rfl) rfl rfl hl.1 rfl (lv_room (Nat.le_of_ble_eq_true rfl)) dX5_readOne_54 ⟨Nat.le_of_ble_eq_true rfl, Nat.le_of_ble_eq_true rfl⟩) hw hA ⟨by decide, by decide⟩ (fun ws H locs hp_v_15 hw hF9 => ?_)
    have m_z0_4 := FLD.over hF9 m_z0_4 (by decide)
    have m_z1_7 := FLD.over hF9 m_z1_7 (by decide)
    obtain ⟨v_16, m_v_16, r_v_16⟩ := (hp_v_15.1)
    exact B57 x4 ws _ _ ls r_p3 (r_x4.to (by decide)) hw hl
  have B37 : ∀ (x4 : Int32) (z1_7 : Int32) (ws : va_W) (H : Heap) (locs : List Loc) (ls : Array Slot), RI p3 6 6 → RI x4 40 155 → RI z1_7 40 155 → FLD ws p1 7 7 (.int z1_7) → WD D cy GG A s wr_X5_readOne__5 wa_X5_readOne__5 Ps w0 Ps ws H locs → lv_has ls 5 [(0, .ref p0), (1, .ref p1), (2, .ref p2), (3, .int p3), (4, .int x4)] → W p l e (headSpec (Cond.code yX5_readOne cX5_readOne 5 none :: gT) ({ frames := 9, cells := 0, slots := 0, locals := 1800 } : Room)).room s m ([.ref p0, .ref p1, .ref p2, .int p3] : List Value).toArray below meth c H locs 0 0 Q (F0 m 37 ls []) := by
    intro x4 z1_7 ws H locs ls r_p3 r_x4 r_z1_7 m_z1_7 hw hl
    refine lv_aload_n hx hb dX5_readOne_37 rfl (lv_at hl 0 rfl) ?_
    refine tg_get (ci := 5) (ts := ty_SENT) (C := RX5) (T := TX5) (N := 5) hx hb hts inX5 hown hK hw h_p0 rfl rfl 4 (by decide) (hts _ tw_955) (fun _ h9 => h9) (ft := vI (-2147483648) 2147483647) rfl dX5_readOne_38 (fun u_17 hv_u_17 m_u_17 => ?_)
    obtain ⟨vu_17, rfl, r_vu_17⟩ := hv_u_17
    refine lv_bipush (v := 20) hx hb dX5_readOne_41 (by decide) ?_
    refine lv_icmp_ge (tgt := 52) hx hb dX5_readOne_43 (by decide) (fun c_43 => ?_) (fun c_43 => ?_)
    · have r_vu_17 : RI vu_17 20 2147483647 := rc_le2 rl_20 r_vu_17 (ti_le c_43) (by decide)
      exact B52 x4 vu_17 z1_7 ws _ _ ls r_p3 r_x4 r_vu_17 m_u_17 r_z1_7 m_z1_7 hw hl
    · have r_vu_17 : RI vu_17 (-2147483648) 19 := rc_lt1 r_vu_17 rl_20 (ti_nle c_43) (by decide)
      refine lv_iload_n hx hb dX5_readOne_46 rfl (lv_at hl 3 rfl) ?_
      refine lv_bipush (v := 8) hx hb dX5_readOne_47 (by decide) ?_
      refine lv_icmp_le (tgt := 57) hx hb dX5_readOne_49 (by decide) (fun c_49 => ?_) (fun c_49 => ?_)
      · exact B57 x4 ws _ _ ls r_p3 (r_x4.to (by decide)) hw hl
      · have r_p3 : RI p3 9 6 := rc_lt2 rl_8 r_p3 (ti_nle c_49) (by decide)
        exact (r_p3.no (by decide)).elim
  have B29 : ∀ (x4 : Int32) (ws : va_W) (H : Heap) (locs : List Loc) (ls : Array Slot), RI p3 6 6 → RI x4 (-2147483648) 2147483647 → WD D cy GG A s wr_X5_readOne__5 wa_X5_readOne__5 Ps w0 Ps ws H locs → lv_has ls 5 [(0, .ref p0), (1, .ref p1), (2, .ref p2), (3, .int p3), (4, .int x4)] → W p l e (headSpec (Cond.code yX5_readOne cX5_readOne 5 none :: gT) ({ frames := 9, cells := 0, slots := 0, locals := 1800 } : Room)).room s m ([.ref p0, .ref p1, .ref p2, .int p3] : List Value).toArray below meth c H locs 0 0 Q (F0 m 29 ls []) := by
    intro x4 ws H locs ls r_p3 r_x4 hw hl
    refine lv_aload_n hx hb dX5_readOne_29 rfl (lv_at hl 1 rfl) ?_
    refine lv_iconst (v := 1) hx hb dX5_readOne_30 (by decide) ?_
    refine tk_v (va_runV (As := [.int 1]) (rest := []) ⟨hx, hb, hml, hown, hts⟩ (c_X7_refuse l D cy z H.size Ps ws hw.1 p1 1 h_p1 (rl_1.to (by decide))) (cwV 1 hts (gV tw_981 tw_443 tw_444 tw_2 tw_445) rfl rfl rfl (by decide +kernel) ⟨Nat.le_of_ble_eq_true rfl, Nat.le_of_ble_eq_true rfl⟩) (tg_preV hw hK hSD hA (ci := 7) (q := (RX7, TX7, 12)) rfl h_p1 rfl) rfl rfl hl.1 rfl (lv_room (Nat.le_of_ble_eq_true rfl)) dX5_readOne_31 ⟨Nat.le_of_ble_eq_true rfl, Nat.le_of_ble_eq_true rfl⟩) hw hA ⟨by decide, by decide⟩ (fun ws H locs hp_v_18 hw hF9 => ?_)
    obtain ⟨v_19, m_v_19, r_v_19⟩ := (hp_v_18.1)
    refine lv_goto (tgt := 57) hx hb dX5_readOne_34 (by decide) ?_
    exact B57 x4 ws _ _ ls r_p3 r_x4 hw hl
  refine lv_aload_n hx hb dX5_readOne_0 rfl (lv_at hl 1 rfl) ?_
  refine tg_getN (ci := 7) (ts := ty_TAPE) (C := RX7) (T := TX7) (N := 12) hx hb hts inX7 hown hK hw h_p1 rfl rfl 7 (by decide) (hSD.nest tn_96) (fun _ h9 => h9) (ft := vI (-2147483648) 2147483647) rfl dX5_readOne_1 (fun u_20 hv_u_20 m_u_20 => ?_)
  obtain ⟨vu_20, rfl, r_vu_20⟩ := hv_u_20
  refine lv_istore (lv' := [(4, .int vu_20), (0, .ref p0), (1, .ref p1), (2, .ref p2), (3, .int p3)]) hx hb dX5_readOne_4 hl (by decide) rfl (fun ls hl => ?_)
  refine lv_iload hx hb dX5_readOne_6 (lv_at hl 0 rfl) ?_
  refine lv_bipush (v := 40) hx hb dX5_readOne_8 (by decide) ?_
  refine lv_icmp_eq (tgt := 37) hx hb dX5_readOne_10 (by decide) (fun c_10 => ?_) (fun c_10 => ?_)
  · have r_vu_20 : RI vu_20 40 40 := rc_eq1 r_vu_20 rl_40 (ti_eq c_10) (by decide)
    exact B37 vu_20 vu_20 w0 _ _ ls r_p3 (r_vu_20.to (by decide)) (r_vu_20.to (by decide)) m_u_20 hw (lv_sub hl [1, 2, 3, 4, 0] rfl)
  · refine lv_iload hx hb dX5_readOne_13 (lv_at hl 0 rfl) ?_
    refine lv_sipush (v := 146) hx hb dX5_readOne_15 (by decide) ?_
    refine lv_icmp_lt (tgt := 29) hx hb dX5_readOne_18 (by decide) (fun c_18 => ?_) (fun c_18 => ?_)
    · have r_vu_20 : RI vu_20 (-2147483648) 145 := rc_lt1 r_vu_20 rl_146 (ti_lt c_18) (by decide)
      exact B29 vu_20 w0 _ _ ls r_p3 (r_vu_20.to (by decide)) hw (lv_sub hl [1, 2, 3, 4, 0] rfl)
    · have r_vu_20 : RI vu_20 146 2147483647 := rc_le2 rl_146 r_vu_20 (ti_nlt c_18) (by decide)
      refine lv_iload hx hb dX5_readOne_21 (lv_at hl 0 rfl) ?_
      refine lv_sipush (v := 155) hx hb dX5_readOne_23 (by decide) ?_
      refine lv_icmp_le (tgt := 37) hx hb dX5_readOne_26 (by decide) (fun c_26 => ?_) (fun c_26 => ?_)
      · have r_vu_20 : RI vu_20 146 155 := rc_le1 r_vu_20 rl_155 (ti_le c_26) (by decide)
        exact B37 vu_20 vu_20 w0 _ _ ls r_p3 (r_vu_20.to (by decide)) (r_vu_20.to (by decide)) m_u_20 hw (lv_sub hl [1, 2, 3, 4, 0] rfl)
      · have r_vu_20 : RI vu_20 156 2147483647 := rc_lt2 rl_155 r_vu_20 (ti_nle c_26) (by decide)
        exact B29 vu_20 w0 _ _ ls r_p3 (r_vu_20.to (by decide)) hw (lv_sub hl [1, 2, 3, 4, 0] rfl)
abbrev wr_X5_readCond__5 : List (Nat × Nat) := [(5, 3), (5, 4), (7, 5), (7, 6), (7, 7), (7, 8), (7, 9), (7, 10), (7, 11)]
abbrev wa_X5_readCond__5 : List Nat := [21]
set_option maxHeartbeats 4000000 in
set_option maxRecDepth 100000 in
theorem c_X5_readCond__5 (l : Launch) (D : va_G) (cy : Nat → ClassId) (z : Nat → Nat) (sz : Nat) (Ps : PSI) (w0 : va_W) (hT : HT cy GG Ps w0) (p0 : Nat) (p1 : Nat) (p2 : Nat) (p3 : Int32) (h_p0 : (p0, 32) ∈ Ps) (h_p1 : (p1, 26) ∈ Ps) (h_p2 : (p2, 25) ∈ Ps) (r_p3 : RI p3 6 6) : Met l yX5_readCond (Cond.code yX5_readCond cX5_readCond 7 none :: gT) ({ frames := 10, cells := 0, slots := 0, locals := 2000 } : Room) (va_Pc [.ref p0, .ref p1, .ref p2, .int p3] (PRE D cy z w0 sz)) (va_Qv (fun (u : va_W) => (True) ∧ HT cy GG Ps u ∧ FR wr_X5_readCond__5 wa_X5_readCond__5 Ps w0 u) (BB D cy (va_A w0 sz) (fun (u : va_W) => u)) (va_A w0 sz)) 0 0 (va_A w0 sz) := by
  refine Met.ofW (cc := cX5_readCond) (maxL := 7) (ret := none) (by decide) rfl ?_
  intro p e s m args below meth c s₁ B hml hv
  obtain ⟨rfl, hsz, hP, hK, hD0, hSD⟩ := hv
  have hx := B.exec
  have hb := B.bytes
  have hr := B.returns
  have hlocks := B.notSynchronized
  have hts : ∀ w ∈ gT, w.before _ s = true := fun w h => atoms_spec (ws := Cond.code yX5_readCond cX5_readCond 7 none :: gT) B.pre w (List.mem_cons_of_mem _ h)
  have hown : s.vm.findClass RX5 = some m.cls := findClass_of_methodNamed B.named
  subst hsz
  have hD := hD0.self (sz := s.heap.size)
  generalize hAe : va_A w0 s.heap.size = A at hD hSD ⊢
  have hA : ∀ q : Nat, s.heap.size ≤ q → A q := fun q h => by rw [← hAe]; exact Or.inr h
  have hl := lv_entry ([.ref p0, .ref p1, .ref p2, .int p3]) (n := 7) (Nat.le_of_ble_eq_true rfl)
  rw [lg_entry_eq]
  generalize (lg_sl ([.ref p0, .ref p1, .ref p2, .int p3]) ++ List.replicate (7 - (lg_sl ([.ref p0, .ref p1, .ref p2, .int p3])).length) Slot.unset).toArray = ls at hl ⊢
  have hl : lv_has ls 7 [(0, .ref p0), (1, .ref p1), (2, .ref p2), (3, .int p3)] := hl
  refine nameQ (fun Q hQ => ?_)
  have hw : WD D cy GG A s wr_X5_readCond__5 wa_X5_readCond__5 Ps w0 Ps w0 s.heap [] := ⟨hT, hP, hD, va_S.rf, FR.rf, hT.1, [], (List.append_nil _).symm⟩
  have B106 : ∀ (x4 : Int32) (x5 : Int32) (ws : va_W) (H : Heap) (locs : List Loc) (ls : Array Slot), RI p3 6 6 → RI x4 (-2147483648) 2147483647 → RI x5 0 21 → WD D cy GG A s wr_X5_readCond__5 wa_X5_readCond__5 Ps w0 Ps ws H locs → lv_has ls 7 [(0, .ref p0), (1, .ref p1), (2, .ref p2), (3, .int p3), (4, .int x4), (5, .int x5)] → W p l e (headSpec (Cond.code yX5_readCond cX5_readCond 7 none :: gT) ({ frames := 10, cells := 0, slots := 0, locals := 2000 } : Room)).room s m ([.ref p0, .ref p1, .ref p2, .int p3] : List Value).toArray below meth c H locs 0 0 Q (F0 m 106 ls []) := by
    intro x4 x5 ws H locs ls r_p3 r_x4 r_x5 hw hl
    refine lv_iload hx hb dX5_readCond_106 (lv_at hl 4 rfl) ?_
    refine lv_if_eq (tgt := 120) hx hb dX5_readCond_108 (by decide) (fun c_108 => ?_) (fun c_108 => ?_)
    · have r_x4 : RI x4 0 0 := rc_eq1 r_x4 rl_0 (ti_eq c_108) (by decide)
      subst hQ
      exact W.vret hx hb hr (fun t ht hW => ⟨⟨ws, rfl, ⟨trivial, hw.1, hw.2.2.2.2.1⟩, by rw [ht]; exact hw.2.1, va_K.moved hW.alike hK, hw.2.2.1⟩, hw.2.2.2.1.F ht⟩) hw.2.2.2.1.2.2 dX5_readCond_120
    · refine lv_aload_n hx hb dX5_readCond_111 rfl (lv_at hl 0 rfl) ?_
      refine lv_sipush (v := 144) hx hb dX5_readCond_112 (by decide) ?_
      refine lv_iconst (v := 0) hx hb dX5_readCond_115 (by decide) ?_
      refine lv_iconst (v := 0) hx hb dX5_readCond_116 (by decide) ?_
      refine tk_v (va_runV (As := [.int 144, .int 0, .int 0]) (rest := []) ⟨hx, hb, hml, hown, hts⟩ (c_X5_addStep l D cy z H.size Ps ws hw.1 p0 144 0 0 h_p0 (rl_144.to (by decide)) (rl_0.to (by decide)) (rl_0.to (by decide))) (cwV 3 hts (gV tw_983 tw_985 ts_33 tw_23 tw_986) rfl rfl rfl (by decide +kernel) ⟨Nat.le_of_ble_eq_true rfl, Nat.le_of_ble_eq_true rfl⟩) (tg_preV hw hK hSD hA (ci := 5) (q := (RX5, TX5, 5)) rfl h_p0 rfl) rfl rfl hl.1 rfl (lv_room (Nat.le_of_ble_eq_true rfl)) dX5_readCond_117 ⟨Nat.le_of_ble_eq_true rfl, Nat.le_of_ble_eq_true rfl⟩) hw hA ⟨by decide, by decide⟩ (fun ws H locs hp_v_1 hw hF9 => ?_)
      obtain ⟨v_2, m_v_2, r_v_2⟩ := (hp_v_1.1)
      subst hQ
      exact W.vret hx hb hr (fun t ht hW => ⟨⟨ws, rfl, ⟨trivial, hw.1, hw.2.2.2.2.1⟩, by rw [ht]; exact hw.2.1, va_K.moved hW.alike hK, hw.2.2.1⟩, hw.2.2.2.1.F ht⟩) hw.2.2.2.1.2.2 dX5_readCond_120
  have B13 : ∀ (nf : Nat) (x4 : Int32) (x5 : Int32) (ws : va_W) (H : Heap) (locs : List Loc) (ls : Array Slot), 20 - x5.toInt < (nf : Int) → RI p3 6 6 → RI x4 (-2147483648) 2147483647 → RI x5 0 20 → WD D cy GG A s wr_X5_readCond__5 wa_X5_readCond__5 Ps w0 Ps ws H locs → lv_has ls 7 [(0, .ref p0), (1, .ref p1), (2, .ref p2), (3, .int p3), (4, .int x4), (5, .int x5)] → W p l e (headSpec (Cond.code yX5_readCond cX5_readCond 7 none :: gT) ({ frames := 10, cells := 0, slots := 0, locals := 2000 } : Room)).room s m ([.ref p0, .ref p1, .ref p2, .int p3] : List Value).toArray below meth c H locs 0 0 Q (F0 m 13 ls []) := by
    intro nf13
    induction nf13 with
    | zero =>
      intro x4 x5 ws H locs ls hn13 r_p3 r_x4 r_x5 hw hl
      exact absurd hn13 (by have q0 := r_x5.1; have u0 := r_x5.2; omega)
    | succ nf13 ih13 =>
      have B72 : ∀ (x4 : Int32) (x5 : Int32) (x6 : Int32) (ws : va_W) (H : Heap) (locs : List Loc) (ls : Array Slot), RI p3 6 6 → RI x4 (-2147483648) 2147483647 → RI x5 0 19 → RI x6 0 1 → 20 - x5.toInt < ((nf13 + 1 : Nat) : Int) → WD D cy GG A s wr_X5_readCond__5 wa_X5_readCond__5 Ps w0 Ps ws H locs → lv_has ls 7 [(0, .ref p0), (1, .ref p1), (2, .ref p2), (3, .int p3), (4, .int x4), (5, .int x5), (6, .int x6)] → W p l e (headSpec (Cond.code yX5_readCond cX5_readCond 7 none :: gT) ({ frames := 10, cells := 0, slots := 0, locals := 2000 } : Room)).room s m ([.ref p0, .ref p1, .ref p2, .int p3] : List Value).toArray below meth c H locs 0 0 Q (F0 m 72 ls []) := by
        intro x4 x5 x6 ws H locs ls r_p3 r_x4 r_x5 r_x6 hn13 hw hl
        refine lv_iload hx hb dX5_readCond_72 (lv_at hl 4 rfl) ?_
        refine lv_iload hx hb dX5_readCond_74 (lv_at hl 6 rfl) ?_
        refine lv_ior hx hb dX5_readCond_76 (lv_topi (fun v_3 e_v_3 => ?_))
        have r_v_3 := ri_any v_3
        refine lv_istore (lv' := [(4, .int v_3), (0, .ref p0), (1, .ref p1), (2, .ref p2), (3, .int p3), (5, .int x5), (6, .int x6)]) hx hb dX5_readCond_77 hl (by decide) rfl (fun ls hl => ?_)
        refine lv_aload_n hx hb dX5_readCond_79 rfl (lv_at hl 1 rfl) ?_
        refine lv_aload_n hx hb dX5_readCond_80 rfl (lv_at hl 2 rfl) ?_
        refine lv_aload_n hx hb dX5_readCond_81 rfl (lv_at hl 3 rfl) ?_
        refine lv_iload_n hx hb dX5_readCond_82 rfl (lv_at hl 4 rfl) ?_
        refine tk_v (va_runV (As := [.ref p1, .ref p2, .int p3]) (rest := []) ⟨hx, hb, hml, hown, hts⟩ (c_X5_readOne__5 l D cy z H.size Ps ws hw.1 p0 p1 p2 p3 h_p0 h_p1 h_p2 r_p3) (cwV 3 hts (gV tw_977 tw_979 ts_32 tw_23 tw_980) rfl rfl rfl (by decide +kernel) ⟨Nat.le_of_ble_eq_true rfl, Nat.le_of_ble_eq_true rfl⟩) (tg_preV hw hK hSD hA (ci := 5) (q := (RX5, TX5, 5)) rfl h_p0 rfl) rfl rfl hl.1 rfl (lv_room (Nat.le_of_ble_eq_true rfl)) dX5_readCond_83 ⟨Nat.le_of_ble_eq_true rfl, Nat.le_of_ble_eq_true rfl⟩) hw hA ⟨by decide, by decide⟩ (fun ws H locs hp_v_4 hw hF9 => ?_)
        refine lv_iload hx hb dX5_readCond_86 (lv_at hl 6 rfl) ?_
        refine lv_if_ne (tgt := 100) hx hb dX5_readCond_88 (by decide) (fun c_88 => ?_) (fun c_88 => ?_)
        · have r_x6 : RI x6 1 1 := rc_neL r_x6 rl_0 (ti_ne c_88) (by decide)
          obtain ⟨v_5, e_v_5⟩ : ∃ q9 : Int32, q9 = x5 + Int32.ofInt 1 := ⟨_, rfl⟩
          obtain ⟨t_v_5, r_v_5⟩ := tq_add (lo := 1) (hi := 20) r_x5 (show RI (Int32.ofInt 1) 1 1 by unfold RI; decide +kernel) (by decide +kernel) e_v_5
          have t_v_5 : v_5.toInt = x5.toInt + 1 := t_v_5
          refine lv_iinc (v := v_5) (lv' := [(5, .int v_5), (4, .int v_3), (0, .ref p0), (1, .ref p1), (2, .ref p2), (3, .int p3), (6, .int x6)]) hx hb dX5_readCond_100 hl (k := 5) rfl e_v_5.symm (by decide) rfl (fun ls hl => ?_)
          refine lv_goto (tgt := 13) hx hb dX5_readCond_103 (by decide) ?_
          exact ih13 v_3 v_5 ws _ _ ls (by have q0 := r_v_5.1; have u0 := r_v_5.2; have o0 := r_x5.1; have p0 := r_x5.2; omega) r_p3 r_v_3 (r_v_5.to (by decide)) hw (lv_sub hl [2, 3, 4, 5, 1, 0] rfl)
        · have r_x6 : RI x6 0 0 := rc_eq1 r_x6 rl_0 (ti_eq c_88) (by decide)
          refine lv_aload_n hx hb dX5_readCond_91 rfl (lv_at hl 1 rfl) ?_
          refine lv_sipush (v := 145) hx hb dX5_readCond_92 (by decide) ?_
          refine lv_iconst (v := 0) hx hb dX5_readCond_95 (by decide) ?_
          refine lv_iconst (v := 0) hx hb dX5_readCond_96 (by decide) ?_
          refine tk_v (va_runV (As := [.int 145, .int 0, .int 0]) (rest := []) ⟨hx, hb, hml, hown, hts⟩ (c_X5_addStep l D cy z H.size Ps ws hw.1 p0 145 0 0 h_p0 (rl_145.to (by decide)) (rl_0.to (by decide)) (rl_0.to (by decide))) (cwV 3 hts (gV tw_983 tw_985 ts_33 tw_23 tw_986) rfl rfl rfl (by decide +kernel) ⟨Nat.le_of_ble_eq_true rfl, Nat.le_of_ble_eq_true rfl⟩) (tg_preV hw hK hSD hA (ci := 5) (q := (RX5, TX5, 5)) rfl h_p0 rfl) rfl rfl hl.1 rfl (lv_room (Nat.le_of_ble_eq_true rfl)) dX5_readCond_97 ⟨Nat.le_of_ble_eq_true rfl, Nat.le_of_ble_eq_true rfl⟩) hw hA ⟨by decide, by decide⟩ (fun ws H locs hp_v_6 hw hF9 => ?_)
          obtain ⟨v_7, m_v_7, r_v_7⟩ := (hp_v_6.1)
          obtain ⟨v_8, e_v_8⟩ : ∃ q9 : Int32, q9 = x5 + Int32.ofInt 1 := ⟨_, rfl⟩
          obtain ⟨t_v_8, r_v_8⟩ := tq_add (lo := 1) (hi := 20) r_x5 (show RI (Int32.ofInt 1) 1 1 by unfold RI; decide +kernel) (by decide +kernel) e_v_8
          have t_v_8 : v_8.toInt = x5.toInt + 1 := t_v_8
          refine lv_iinc (v := v_8) (lv' := [(5, .int v_8), (4, .int v_3), (0, .ref p0), (1, .ref p1), (2, .ref p2), (3, .int p3), (6, .int x6)]) hx hb dX5_readCond_100 hl (k := 5) rfl e_v_8.symm (by decide) rfl (fun ls hl => ?_)
          refine lv_goto (tgt := 13) hx hb dX5_readCond_103 (by decide) ?_
          exact ih13 v_3 v_8 ws _ _ ls (by have q0 := r_v_8.1; have u0 := r_v_8.2; have o0 := r_x5.1; have p0 := r_x5.2; omega) r_p3 r_v_3 (r_v_8.to (by decide)) hw (lv_sub hl [2, 3, 4, 5, 1, 0] rfl)
      have B40 : ∀ (x4 : Int32) (x5 : Int32) (ws : va_W) (H : Heap) (locs : List Loc) (ls : Array Slot), RI p3 6 6 → RI x4 (-2147483648) 2147483647 → RI x5 0 19 → 20 - x5.toInt < ((nf13 + 1 : Nat) : Int) → WD D cy GG A s wr_X5_readCond__5 wa_X5_readCond__5 Ps w0 Ps ws H locs → lv_has ls 7 [(0, .ref p0), (1, .ref p1), (2, .ref p2), (3, .int p3), (4, .int x4), (5, .int x5)] → W p l e (headSpec (Cond.code yX5_readCond cX5_readCond 7 none :: gT) ({ frames := 10, cells := 0, slots := 0, locals := 2000 } : Room)).room s m ([.ref p0, .ref p1, .ref p2, .int p3] : List Value).toArray below meth c H locs 0 0 Q (F0 m 40 ls []) := by
        intro x4 x5 ws H locs ls r_p3 r_x4 r_x5 hn13 hw hl
        refine lv_aload_n hx hb dX5_readCond_40 rfl (lv_at hl 1 rfl) ?_
        refine lv_sipush (v := 144) hx hb dX5_readCond_41 (by decide) ?_
        refine tk_ir (va_runV (As := [.int 144]) (rest := []) ⟨hx, hb, hml, hown, hts⟩ (c_X7_sees l D cy z H.size Ps ws hw.1 p1 144 h_p1 (rl_144.to (by decide))) (cwV 1 hts (gV tw_994 tw_995 tw_996 tw_2 tw_997) rfl rfl rfl (by decide +kernel) ⟨Nat.le_of_ble_eq_true rfl, Nat.le_of_ble_eq_true rfl⟩) (tg_preV hw hK hSD hA (ci := 7) (q := (RX7, TX7, 12)) rfl h_p1 rfl) rfl rfl hl.1 rfl (lv_room (Nat.le_of_ble_eq_true rfl)) dX5_readCond_44 ⟨Nat.le_of_ble_eq_true rfl, Nat.le_of_ble_eq_true rfl⟩) hw hA (fun v_9  H locs hp_v_9 hw => ?_)
        have r_v_9 : RI v_9 0 1 := hp_v_9.1
        refine lv_istore (lv' := [(6, .int v_9), (0, .ref p0), (1, .ref p1), (2, .ref p2), (3, .int p3), (4, .int x4), (5, .int x5)]) hx hb dX5_readCond_47 hl (by decide) rfl (fun ls hl => ?_)
        refine lv_aload_n hx hb dX5_readCond_49 rfl (lv_at hl 2 rfl) ?_
        refine tk_v (va_runV (As := []) (rest := []) ⟨hx, hb, hml, hown, hts⟩ (c_X7_pass l D cy z H.size Ps ws hw.1 p1 h_p1) (cwV 0 hts (gV tw_982 tw_425 tw_426 tw_2 tw_427) rfl rfl rfl (by decide +kernel) ⟨Nat.le_of_ble_eq_true rfl, Nat.le_of_ble_eq_true rfl⟩) (tg_preV hw hK hSD hA (ci := 7) (q := (RX7, TX7, 12)) rfl h_p1 rfl) rfl rfl hl.1 rfl (lv_room (Nat.le_of_ble_eq_true rfl)) dX5_readCond_50 ⟨Nat.le_of_ble_eq_true rfl, Nat.le_of_ble_eq_true rfl⟩) hw hA ⟨by decide, by decide⟩ (fun ws H locs hp_v_10 hw hF9 => ?_)
        refine lv_iload hx hb dX5_readCond_53 (lv_at hl 0 rfl) ?_
        refine lv_if_eq (tgt := 72) hx hb dX5_readCond_55 (by decide) (fun c_55 => ?_) (fun c_55 => ?_)
        · have r_v_9 : RI v_9 0 0 := rc_eq1 r_v_9 rl_0 (ti_eq c_55) (by decide)
          exact B72 x4 x5 v_9 ws _ _ ls r_p3 r_x4 r_x5 (r_v_9.to (by decide)) (by have q0 := r_x5.1; have u0 := r_x5.2; omega) hw (lv_sub hl [1, 2, 3, 4, 5, 6, 0] rfl)
        · have r_v_9 : RI v_9 1 1 := rc_neL r_v_9 rl_0 (ti_ne c_55) (by decide)
          refine lv_iload hx hb dX5_readCond_58 (lv_at hl 5 rfl) ?_
          refine lv_if_eq (tgt := 72) hx hb dX5_readCond_60 (by decide) (fun c_60 => ?_) (fun c_60 => ?_)
          · have r_x4 : RI x4 0 0 := rc_eq1 r_x4 rl_0 (ti_eq c_60) (by decide)
            exact B72 x4 x5 v_9 ws _ _ ls r_p3 (r_x4.to (by decide)) r_x5 (r_v_9.to (by decide)) (by have q0 := r_x5.1; have u0 := r_x5.2; omega) hw (lv_sub hl [1, 2, 3, 4, 5, 6, 0] rfl)
          · refine lv_aload_n hx hb dX5_readCond_63 rfl (lv_at hl 1 rfl) ?_
            refine lv_sipush (v := 144) hx hb dX5_readCond_64 (by decide) ?_
            refine lv_iconst (v := 0) hx hb dX5_readCond_67 (by decide) ?_
            refine lv_iconst (v := 0) hx hb dX5_readCond_68 (by decide) ?_
            refine tk_v (va_runV (As := [.int 144, .int 0, .int 0]) (rest := []) ⟨hx, hb, hml, hown, hts⟩ (c_X5_addStep l D cy z H.size Ps ws hw.1 p0 144 0 0 h_p0 (rl_144.to (by decide)) (rl_0.to (by decide)) (rl_0.to (by decide))) (cwV 3 hts (gV tw_983 tw_985 ts_33 tw_23 tw_986) rfl rfl rfl (by decide +kernel) ⟨Nat.le_of_ble_eq_true rfl, Nat.le_of_ble_eq_true rfl⟩) (tg_preV hw hK hSD hA (ci := 5) (q := (RX5, TX5, 5)) rfl h_p0 rfl) rfl rfl hl.1 rfl (lv_room (Nat.le_of_ble_eq_true rfl)) dX5_readCond_69 ⟨Nat.le_of_ble_eq_true rfl, Nat.le_of_ble_eq_true rfl⟩) hw hA ⟨by decide, by decide⟩ (fun ws H locs hp_v_11 hw hF9 => ?_)
            obtain ⟨v_12, m_v_12, r_v_12⟩ := (hp_v_11.1)
            exact B72 x4 x5 v_9 ws _ _ ls r_p3 r_x4 r_x5 (r_v_9.to (by decide)) (by have q0 := r_x5.1; have u0 := r_x5.2; omega) hw (lv_sub hl [1, 2, 3, 4, 5, 6, 0] rfl)
      intro x4 x5 ws H locs ls hn13 r_p3 r_x4 r_x5 hw hl
      refine lv_iload hx hb dX5_readCond_13 (lv_at hl 5 rfl) ?_
      refine lv_bipush (v := 20) hx hb dX5_readCond_15 (by decide) ?_
      refine lv_icmp_ge (tgt := 106) hx hb dX5_readCond_17 (by decide) (fun c_17 => ?_) (fun c_17 => ?_)
      · have r_x5 : RI x5 20 20 := rc_le2 rl_20 r_x5 (ti_le c_17) (by decide)
        exact B106 x4 x5 ws _ _ ls r_p3 r_x4 (r_x5.to (by decide)) hw hl
      · have r_x5 : RI x5 0 19 := rc_lt1 r_x5 rl_20 (ti_nle c_17) (by decide)
        refine lv_aload_n hx hb dX5_readCond_20 rfl (lv_at hl 1 rfl) ?_
        refine lv_sipush (v := 144) hx hb dX5_readCond_21 (by decide) ?_
        refine tk_ir (va_runV (As := [.int 144]) (rest := []) ⟨hx, hb, hml, hown, hts⟩ (c_X7_sees l D cy z H.size Ps ws hw.1 p1 144 h_p1 (rl_144.to (by decide))) (cwV 1 hts (gV tw_994 tw_995 tw_996 tw_2 tw_997) rfl rfl rfl (by decide +kernel) ⟨Nat.le_of_ble_eq_true rfl, Nat.le_of_ble_eq_true rfl⟩) (tg_preV hw hK hSD hA (ci := 7) (q := (RX7, TX7, 12)) rfl h_p1 rfl) rfl rfl hl.1 rfl (lv_room (Nat.le_of_ble_eq_true rfl)) dX5_readCond_24 ⟨Nat.le_of_ble_eq_true rfl, Nat.le_of_ble_eq_true rfl⟩) hw hA (fun v_13  H locs hp_v_13 hw => ?_)
        have r_v_13 : RI v_13 0 1 := hp_v_13.1
        refine lv_if_ne (tgt := 40) hx hb dX5_readCond_27 (by decide) (fun c_27 => ?_) (fun c_27 => ?_)
        · have r_v_13 : RI v_13 1 1 := rc_neL r_v_13 rl_0 (ti_ne c_27) (by decide)
          exact B40 x4 x5 ws _ _ ls r_p3 r_x4 r_x5 (by have q0 := r_x5.1; have u0 := r_x5.2; omega) hw hl
        · have r_v_13 : RI v_13 0 0 := rc_eq1 r_v_13 rl_0 (ti_eq c_27) (by decide)
          refine lv_aload_n hx hb dX5_readCond_30 rfl (lv_at hl 1 rfl) ?_
          refine lv_sipush (v := 145) hx hb dX5_readCond_31 (by decide) ?_
          refine tk_ir (va_runV (As := [.int 145]) (rest := []) ⟨hx, hb, hml, hown, hts⟩ (c_X7_sees l D cy z H.size Ps ws hw.1 p1 145 h_p1 (rl_145.to (by decide))) (cwV 1 hts (gV tw_994 tw_995 tw_996 tw_2 tw_997) rfl rfl rfl (by decide +kernel) ⟨Nat.le_of_ble_eq_true rfl, Nat.le_of_ble_eq_true rfl⟩) (tg_preV hw hK hSD hA (ci := 7) (q := (RX7, TX7, 12)) rfl h_p1 rfl) rfl rfl hl.1 rfl (lv_room (Nat.le_of_ble_eq_true rfl)) dX5_readCond_34 ⟨Nat.le_of_ble_eq_true rfl, Nat.le_of_ble_eq_true rfl⟩) hw hA (fun v_14  H locs hp_v_14 hw => ?_)
          have r_v_14 : RI v_14 0 1 := hp_v_14.1
          refine lv_if_eq (tgt := 106) hx hb dX5_readCond_37 (by decide) (fun c_37 => ?_) (fun c_37 => ?_)
          · have r_v_14 : RI v_14 0 0 := rc_eq1 r_v_14 rl_0 (ti_eq c_37) (by decide)
            exact B106 x4 x5 ws _ _ ls r_p3 r_x4 (r_x5.to (by decide)) hw hl
          · have r_v_14 : RI v_14 1 1 := rc_neL r_v_14 rl_0 (ti_ne c_37) (by decide)
            exact B40 x4 x5 ws _ _ ls r_p3 r_x4 r_x5 (by have q0 := r_x5.1; have u0 := r_x5.2; omega) hw hl
  refine lv_iconst (v := 0) hx hb dX5_readCond_0 (by decide) ?_
  refine lv_istore (lv' := [(4, .int 0), (0, .ref p0), (1, .ref p1), (2, .ref p2), (3, .int p3)]) hx hb dX5_readCond_1 hl (by decide) rfl (fun ls hl => ?_)
  refine lv_aload_n hx hb dX5_readCond_3 rfl (lv_at hl 1 rfl) ?_
  refine lv_aload_n hx hb dX5_readCond_4 rfl (lv_at hl 2 rfl) ?_
  refine lv_aload_n hx hb dX5_readCond_5 rfl (lv_at hl 3 rfl) ?_
  refine lv_iload_n hx hb dX5_readCond_6 rfl (lv_at hl 4 rfl) ?_
  refine tk_v (va_runV (As := [.ref p1, .ref p2, .int p3]) (rest := []) ⟨hx, hb, hml, hown, hts⟩ (c_X5_readOne__5 l D cy z s.heap.size Ps w0 hw.1 p0 p1 p2 p3 h_p0 h_p1 h_p2 r_p3) (cwV 3 hts (gV tw_977 tw_979 ts_32 tw_23 tw_980) rfl rfl rfl (by decide +kernel) ⟨Nat.le_of_ble_eq_true rfl, Nat.le_of_ble_eq_true rfl⟩) (tg_preV hw hK hSD hA (ci := 5) (q := (RX5, TX5, 5)) rfl h_p0 rfl) rfl rfl hl.1 rfl (lv_room (Nat.le_of_ble_eq_true rfl)) dX5_readCond_7 ⟨Nat.le_of_ble_eq_true rfl, Nat.le_of_ble_eq_true rfl⟩) hw hA ⟨by decide, by decide⟩ (fun ws H locs hp_v_15 hw hF9 => ?_)
  refine lv_iconst (v := 0) hx hb dX5_readCond_10 (by decide) ?_
  refine lv_istore (lv' := [(5, .int 0), (4, .int 0), (0, .ref p0), (1, .ref p1), (2, .ref p2), (3, .int p3)]) hx hb dX5_readCond_11 hl (by decide) rfl (fun ls hl => ?_)
  exact B13 4294967298 0 0 ws _ _ ls (by have q0 := rl_0.1; have u0 := rl_0.2; omega) r_p3 (rl_0.to (by decide)) (rl_0.to (by decide)) hw (lv_sub hl [2, 3, 4, 5, 1, 0] rfl)
abbrev wr_X5_readOne__4 : List (Nat × Nat) := [(5, 3), (5, 4), (7, 5), (7, 6), (7, 7), (7, 8), (7, 9), (7, 10), (7, 11)]
abbrev wa_X5_readOne__4 : List Nat := [21]
set_option maxHeartbeats 4000000 in
set_option maxRecDepth 100000 in
theorem c_X5_readOne__4 (l : Launch) (D : va_G) (cy : Nat → ClassId) (z : Nat → Nat) (sz : Nat) (Ps : PSI) (w0 : va_W) (hT : HT cy GG Ps w0) (p0 : Nat) (p1 : Nat) (p2 : Nat) (p3 : Int32) (h_p0 : (p0, 32) ∈ Ps) (h_p1 : (p1, 26) ∈ Ps) (h_p2 : (p2, 25) ∈ Ps) (r_p3 : RI p3 5 5) : Met l yX5_readOne (Cond.code yX5_readOne cX5_readOne 5 none :: gT) ({ frames := 11, cells := 0, slots := 0, locals := 2200 } : Room) (va_Pc [.ref p0, .ref p1, .ref p2, .int p3] (PRE D cy z w0 sz)) (va_Qv (fun (u : va_W) => (True) ∧ HT cy GG Ps u ∧ FR wr_X5_readOne__4 wa_X5_readOne__4 Ps w0 u) (BB D cy (va_A w0 sz) (fun (u : va_W) => u)) (va_A w0 sz)) 0 0 (va_A w0 sz) := by
  refine Met.ofW (cc := cX5_readOne) (maxL := 5) (ret := none) (by decide) rfl ?_
  intro p e s m args below meth c s₁ B hml hv
  obtain ⟨rfl, hsz, hP, hK, hD0, hSD⟩ := hv
  have hx := B.exec
  have hb := B.bytes
  have hr := B.returns
  have hlocks := B.notSynchronized
  have hts : ∀ w ∈ gT, w.before _ s = true := fun w h => atoms_spec (ws := Cond.code yX5_readOne cX5_readOne 5 none :: gT) B.pre w (List.mem_cons_of_mem _ h)
  have hown : s.vm.findClass RX5 = some m.cls := findClass_of_methodNamed B.named
  subst hsz
  have hD := hD0.self (sz := s.heap.size)
  generalize hAe : va_A w0 s.heap.size = A at hD hSD ⊢
  have hA : ∀ q : Nat, s.heap.size ≤ q → A q := fun q h => by rw [← hAe]; exact Or.inr h
  have hl := lv_entry ([.ref p0, .ref p1, .ref p2, .int p3]) (n := 5) (Nat.le_of_ble_eq_true rfl)
  rw [lg_entry_eq]
  generalize (lg_sl ([.ref p0, .ref p1, .ref p2, .int p3]) ++ List.replicate (5 - (lg_sl ([.ref p0, .ref p1, .ref p2, .int p3])).length) Slot.unset).toArray = ls at hl ⊢
  have hl : lv_has ls 5 [(0, .ref p0), (1, .ref p1), (2, .ref p2), (3, .int p3)] := hl
  refine nameQ (fun Q hQ => ?_)
  have hw : WD D cy GG A s wr_X5_readOne__4 wa_X5_readOne__4 Ps w0 Ps w0 s.heap [] := ⟨hT, hP, hD, va_S.rf, FR.rf, hT.1, [], (List.append_nil _).symm⟩
  have B57 : ∀ (x4 : Int32) (ws : va_W) (H : Heap) (locs : List Loc) (ls : Array Slot), RI p3 5 5 → RI x4 (-2147483648) 2147483647 → WD D cy GG A s wr_X5_readOne__4 wa_X5_readOne__4 Ps w0 Ps ws H locs → lv_has ls 5 [(0, .ref p0), (1, .ref p1), (2, .ref p2), (3, .int p3), (4, .int x4)] → W p l e (headSpec (Cond.code yX5_readOne cX5_readOne 5 none :: gT) ({ frames := 11, cells := 0, slots := 0, locals := 2200 } : Room)).room s m ([.ref p0, .ref p1, .ref p2, .int p3] : List Value).toArray below meth c H locs 0 0 Q (F0 m 57 ls []) := by
    intro x4 ws H locs ls r_p3 r_x4 hw hl
    refine lv_aload_n hx hb dX5_readOne_57 rfl (lv_at hl 1 rfl) ?_
    refine tg_getN (ci := 7) (ts := ty_TAPE) (C := RX7) (T := TX7) (N := 12) hx hb hts inX7 hown hK hw h_p1 rfl rfl 10 (by decide) (hSD.nest tn_103) (fun _ h9 => h9) (ft := vI 0 4) rfl dX5_readOne_58 (fun u_1 hv_u_1 m_u_1 => ?_)
    obtain ⟨vu_1, rfl, r_vu_1⟩ := hv_u_1
    refine lv_if_eq (tgt := 65) hx hb dX5_readOne_61 (by decide) (fun c_61 => ?_) (fun c_61 => ?_)
    · have r_vu_1 : RI vu_1 0 0 := rc_eq1 r_vu_1 rl_0 (ti_eq c_61) (by decide)
      refine lv_aload_n hx hb dX5_readOne_65 rfl (lv_at hl 1 rfl) ?_
      refine tk_v (va_runV (As := []) (rest := []) ⟨hx, hb, hml, hown, hts⟩ (c_X7_pass l D cy z H.size Ps ws hw.1 p1 h_p1) (cwV 0 hts (gV tw_982 tw_425 tw_426 tw_2 tw_427) rfl rfl rfl (by decide +kernel) ⟨Nat.le_of_ble_eq_true rfl, Nat.le_of_ble_eq_true rfl⟩) (tg_preV hw hK hSD hA (ci := 7) (q := (RX7, TX7, 12)) rfl h_p1 rfl) rfl rfl hl.1 rfl (lv_room (Nat.le_of_ble_eq_true rfl)) dX5_readOne_66 ⟨Nat.le_of_ble_eq_true rfl, Nat.le_of_ble_eq_true rfl⟩) hw hA ⟨by decide, by decide⟩ (fun ws H locs hp_v_2 hw hF9 => ?_)
      have m_u_1 := FLD.over hF9 m_u_1 (by decide)
      refine lv_aload_n hx hb dX5_readOne_69 rfl (lv_at hl 0 rfl) ?_
      refine lv_dup hx hb dX5_readOne_70 rfl ?_
      refine tg_get (ci := 5) (ts := ty_SENT) (C := RX5) (T := TX5) (N := 5) hx hb hts inX5 hown hK hw h_p0 rfl rfl 4 (by decide) (hts _ tw_955) (fun _ h9 => h9) (ft := vI (-2147483648) 2147483647) rfl dX5_readOne_71 (fun u_3 hv_u_3 m_u_3 => ?_)
      obtain ⟨vu_3, rfl, r_vu_3⟩ := hv_u_3
      refine lv_iconst (v := 1) hx hb dX5_readOne_74 (by decide) ?_
      refine lv_iadd hx hb dX5_readOne_75 (lv_topi (fun v_4 e_v_4 => ?_))
      have r_v_4 := ri_any v_4
      refine tg_put (ci := 5) (ts := ty_SENT) (v := .int v_4) (ty := .int) (C := RX5) (T := TX5) (N := 5) hx hb hts inX5 tyX5 tyX5_ok nmX5 hown hK hw h_p0 rfl rfl 4 (by decide) (hts _ tw_955) (fun _ h9 => h9) rfl (by decide +kernel) rfl rfl (ft := vI (-2147483648) 2147483647) rfl ⟨_, rfl, r_v_4⟩ (by decide) dX5_readOne_76 (fun ws H locs hw n_k_5 hF9 => ?_)
      have m_u_1 := FLD.over hF9 m_u_1 (by decide)
      refine lv_iload hx hb dX5_readOne_79 (lv_at hl 4 rfl) ?_
      refine lv_sipush (v := 146) hx hb dX5_readOne_81 (by decide) ?_
      refine lv_icmp_ne (tgt := 108) hx hb dX5_readOne_84 (by decide) (fun c_84 => ?_) (fun c_84 => ?_)
      · refine lv_iload hx hb dX5_readOne_108 (lv_at hl 4 rfl) ?_
        refine lv_bipush (v := 40) hx hb dX5_readOne_110 (by decide) ?_
        refine lv_icmp_ne (tgt := 133) hx hb dX5_readOne_112 (by decide) (fun c_112 => ?_) (fun c_112 => ?_)
        · refine lv_aload_n hx hb dX5_readOne_133 rfl (lv_at hl 0 rfl) ?_
          refine lv_aload_n hx hb dX5_readOne_134 rfl (lv_at hl 1 rfl) ?_
          refine lv_aload_n hx hb dX5_readOne_135 rfl (lv_at hl 2 rfl) ?_
          refine lv_iload hx hb dX5_readOne_136 (lv_at hl 4 rfl) ?_
          refine tk_v (va_runV (As := [.ref p1, .ref p2, .int x4]) (rest := []) ⟨hx, hb, hml, hown, hts⟩ (c_X5_readPlain l D cy z H.size Ps ws hw.1 p0 p1 p2 x4 h_p0 h_p1 h_p2 r_x4) (cwV 3 hts (gV tw_988 tw_990 ts_34 tw_23 tw_991) rfl rfl rfl (by decide +kernel) ⟨Nat.le_of_ble_eq_true rfl, Nat.le_of_ble_eq_true rfl⟩) (tg_preV hw hK hSD hA (ci := 5) (q := (RX5, TX5, 5)) rfl h_p0 rfl) rfl rfl hl.1 rfl (lv_room (Nat.le_of_ble_eq_true rfl)) dX5_readOne_138 ⟨Nat.le_of_ble_eq_true rfl, Nat.le_of_ble_eq_true rfl⟩) hw hA ⟨by decide, by decide⟩ (fun ws H locs hp_v_6 hw hF9 => ?_)
          have n_k_5 := FLD.over hF9 n_k_5 (by decide)
          obtain ⟨v_7, m_v_7, r_v_7⟩ := (hp_v_6.1)
          subst hQ
          exact W.vret hx hb hr (fun t ht hW => ⟨⟨ws, rfl, ⟨trivial, hw.1, hw.2.2.2.2.1⟩, by rw [ht]; exact hw.2.1, va_K.moved hW.alike hK, hw.2.2.1⟩, hw.2.2.2.1.F ht⟩) hw.2.2.2.1.2.2 dX5_readOne_141
        · have r_x4 : RI x4 40 40 := rc_eq1 r_x4 rl_40 (ti_eq c_112) (by decide)
          refine lv_aload_n hx hb dX5_readOne_115 rfl (lv_at hl 0 rfl) ?_
          refine lv_aload_n hx hb dX5_readOne_116 rfl (lv_at hl 1 rfl) ?_
          refine lv_aload_n hx hb dX5_readOne_117 rfl (lv_at hl 2 rfl) ?_
          refine lv_iload_n hx hb dX5_readOne_118 rfl (lv_at hl 3 rfl) ?_
          refine lv_iconst (v := 1) hx hb dX5_readOne_119 (by decide) ?_
          refine lv_iadd hx hb dX5_readOne_120 (lv_topi (fun v_8 e_v_8 => ?_))
          obtain ⟨t_v_8, r_v_8⟩ := tq_add (lo := 6) (hi := 6) r_p3 rl_1 (by decide +kernel) e_v_8
          have t_v_8 : v_8.toInt = p3.toInt + 1 := t_v_8
          refine tk_v (va_runV (As := [.ref p1, .ref p2, .int v_8]) (rest := []) ⟨hx, hb, hml, hown, hts⟩ (c_X5_readCond__5 l D cy z H.size Ps ws hw.1 p0 p1 p2 v_8 h_p0 h_p1 h_p2 r_v_8) (cwV 3 hts (gV tw_973 tw_975 ts_31 tw_23 tw_976) rfl rfl rfl (by decide +kernel) ⟨Nat.le_of_ble_eq_true rfl, Nat.le_of_ble_eq_true rfl⟩) (tg_preV hw hK hSD hA (ci := 5) (q := (RX5, TX5, 5)) rfl h_p0 rfl) rfl rfl hl.1 rfl (lv_room (Nat.le_of_ble_eq_true rfl)) dX5_readOne_121 ⟨Nat.le_of_ble_eq_true rfl, Nat.le_of_ble_eq_true rfl⟩) hw hA ⟨by decide, by decide⟩ (fun ws H locs hp_v_9 hw hF9 => ?_)
          refine lv_aload_n hx hb dX5_readOne_124 rfl (lv_at hl 1 rfl) ?_
          refine lv_bipush (v := 41) hx hb dX5_readOne_125 (by decide) ?_
          refine tk_v (va_runV (As := [.int 41]) (rest := []) ⟨hx, hb, hml, hown, hts⟩ (c_X7_passOnly l D cy z H.size Ps ws hw.1 p1 41 h_p1 (rl_41.to (by decide))) (cwV 1 hts (gV tw_987 tw_514 tw_515 tw_2 tw_516) rfl rfl rfl (by decide +kernel) ⟨Nat.le_of_ble_eq_true rfl, Nat.le_of_ble_eq_true rfl⟩) (tg_preV hw hK hSD hA (ci := 7) (q := (RX7, TX7, 12)) rfl h_p1 rfl) rfl rfl hl.1 rfl (lv_room (Nat.le_of_ble_eq_true rfl)) dX5_readOne_127 ⟨Nat.le_of_ble_eq_true rfl, Nat.le_of_ble_eq_true rfl⟩) hw hA ⟨by decide, by decide⟩ (fun ws H locs hp_v_10 hw hF9 => ?_)
          refine lv_goto (tgt := 141) hx hb dX5_readOne_130 (by decide) ?_
          subst hQ
          exact W.vret hx hb hr (fun t ht hW => ⟨⟨ws, rfl, ⟨trivial, hw.1, hw.2.2.2.2.1⟩, by rw [ht]; exact hw.2.1, va_K.moved hW.alike hK, hw.2.2.1⟩, hw.2.2.2.1.F ht⟩) hw.2.2.2.1.2.2 dX5_readOne_141
      · have r_x4 : RI x4 146 146 := rc_eq1 r_x4 rl_146 (ti_eq c_84) (by decide)
        refine lv_aload_n hx hb dX5_readOne_87 rfl (lv_at hl 0 rfl) ?_
        refine lv_aload_n hx hb dX5_readOne_88 rfl (lv_at hl 1 rfl) ?_
        refine lv_aload_n hx hb dX5_readOne_89 rfl (lv_at hl 2 rfl) ?_
        refine lv_iload_n hx hb dX5_readOne_90 rfl (lv_at hl 3 rfl) ?_
        refine lv_iconst (v := 1) hx hb dX5_readOne_91 (by decide) ?_
        refine lv_iadd hx hb dX5_readOne_92 (lv_topi (fun v_11 e_v_11 => ?_))
        obtain ⟨t_v_11, r_v_11⟩ := tq_add (lo := 6) (hi := 6) r_p3 rl_1 (by decide +kernel) e_v_11
        have t_v_11 : v_11.toInt = p3.toInt + 1 := t_v_11
        refine tk_v (va_runV (As := [.ref p1, .ref p2, .int v_11]) (rest := []) ⟨hx, hb, hml, hown, hts⟩ (c_X5_readOne__5 l D cy z H.size Ps ws hw.1 p0 p1 p2 v_11 h_p0 h_p1 h_p2 r_v_11) (cwV 3 hts (gV tw_977 tw_979 ts_32 tw_23 tw_980) rfl rfl rfl (by decide +kernel) ⟨Nat.le_of_ble_eq_true rfl, Nat.le_of_ble_eq_true rfl⟩) (tg_preV hw hK hSD hA (ci := 5) (q := (RX5, TX5, 5)) rfl h_p0 rfl) rfl rfl hl.1 rfl (lv_room (Nat.le_of_ble_eq_true rfl)) dX5_readOne_93 ⟨Nat.le_of_ble_eq_true rfl, Nat.le_of_ble_eq_true rfl⟩) hw hA ⟨by decide, by decide⟩ (fun ws H locs hp_v_12 hw hF9 => ?_)
        refine lv_aload_n hx hb dX5_readOne_96 rfl (lv_at hl 0 rfl) ?_
        refine lv_sipush (v := 146) hx hb dX5_readOne_97 (by decide) ?_
        refine lv_iconst (v := 0) hx hb dX5_readOne_100 (by decide) ?_
        refine lv_iconst (v := 0) hx hb dX5_readOne_101 (by decide) ?_
        refine tk_v (va_runV (As := [.int 146, .int 0, .int 0]) (rest := []) ⟨hx, hb, hml, hown, hts⟩ (c_X5_addStep l D cy z H.size Ps ws hw.1 p0 146 0 0 h_p0 (rl_146.to (by decide)) (rl_0.to (by decide)) (rl_0.to (by decide))) (cwV 3 hts (gV tw_983 tw_985 ts_33 tw_23 tw_986) rfl rfl rfl (by decide +kernel) ⟨Nat.le_of_ble_eq_true rfl, Nat.le_of_ble_eq_true rfl⟩) (tg_preV hw hK hSD hA (ci := 5) (q := (RX5, TX5, 5)) rfl h_p0 rfl) rfl rfl hl.1 rfl (lv_room (Nat.le_of_ble_eq_true rfl)) dX5_readOne_102 ⟨Nat.le_of_ble_eq_true rfl, Nat.le_of_ble_eq_true rfl⟩) hw hA ⟨by decide, by decide⟩ (fun ws H locs hp_v_13 hw hF9 => ?_)
        obtain ⟨v_14, m_v_14, r_v_14⟩ := (hp_v_13.1)
        refine lv_goto (tgt := 141) hx hb dX5_readOne_105 (by decide) ?_
        subst hQ
        exact W.vret hx hb hr (fun t ht hW => ⟨⟨ws, rfl, ⟨trivial, hw.1, hw.2.2.2.2.1⟩, by rw [ht]; exact hw.2.1, va_K.moved hW.alike hK, hw.2.2.1⟩, hw.2.2.2.1.F ht⟩) hw.2.2.2.1.2.2 dX5_readOne_141
    · have r_vu_1 : RI vu_1 1 4 := rc_neL r_vu_1 rl_0 (ti_ne c_61) (by decide)
      subst hQ
      exact W.vret hx hb hr (fun t ht hW => ⟨⟨ws, rfl, ⟨trivial, hw.1, hw.2.2.2.2.1⟩, by rw [ht]; exact hw.2.1, va_K.moved hW.alike hK, hw.2.2.1⟩, hw.2.2.2.1.F ht⟩) hw.2.2.2.1.2.2 dX5_readOne_64
  have B52 : ∀ (x4 : Int32) (z0_4 : Int32) (z1_7 : Int32) (ws : va_W) (H : Heap) (locs : List Loc) (ls : Array Slot), RI p3 5 5 → RI x4 40 155 → RI z0_4 20 2147483647 → FLD ws p0 5 4 (.int z0_4) → RI z1_7 40 155 → FLD ws p1 7 7 (.int z1_7) → WD D cy GG A s wr_X5_readOne__4 wa_X5_readOne__4 Ps w0 Ps ws H locs → lv_has ls 5 [(0, .ref p0), (1, .ref p1), (2, .ref p2), (3, .int p3), (4, .int x4)] → W p l e (headSpec (Cond.code yX5_readOne cX5_readOne 5 none :: gT) ({ frames := 11, cells := 0, slots := 0, locals := 2200 } : Room)).room s m ([.ref p0, .ref p1, .ref p2, .int p3] : List Value).toArray below meth c H locs 0 0 Q (F0 m 52 ls []) := by
    intro x4 z0_4 z1_7 ws H locs ls r_p3 r_x4 r_z0_4 m_z0_4 r_z1_7 m_z1_7 hw hl
    refine lv_aload_n hx hb dX5_readOne_52 rfl (lv_at hl 1 rfl) ?_
    refine lv_iconst (v := 4) hx hb dX5_readOne_53 (by decide) ?_
    refine tk_v (va_runV (As := [.int 4]) (rest := []) ⟨hx, hb, hml, hown, hts⟩ (c_X7_refuse l D cy z H.size Ps ws hw.1 p1 4 h_p1 (rl_4.to (by decide))) (cwV 1 hts (gV tw_981 tw_443 tw_444 tw_2 tw_445) rfl rfl rfl (by decide +kernel) ⟨Nat.le_of_ble_eq_true rfl, Nat.le_of_ble_eq_true rfl⟩) (tg_preV hw hK hSD hA (ci := 7) (q := (RX7, TX7, 12)) rfl h_p1 rfl) rfl rfl hl.1 rfl (lv_room (Nat.le_of_ble_eq_true rfl)) dX5_readOne_54 ⟨Nat.le_of_ble_eq_true rfl, Nat.le_of_ble_eq_true rfl⟩) hw hA ⟨by decide, by decide⟩ (fun ws H locs hp_v_15 hw hF9 => ?_)
    have m_z0_4 := FLD.over hF9 m_z0_4 (by decide)
    have m_z1_7 := FLD.over hF9 m_z1_7 (by decide)
    obtain ⟨v_16, m_v_16, r_v_16⟩ := (hp_v_15.1)
    exact B57 x4 ws _ _ ls r_p3 (r_x4.to (by decide)) hw hl
  have B37 : ∀ (x4 : Int32) (z1_7 : Int32) (ws : va_W) (H : Heap) (locs : List Loc) (ls : Array Slot), RI p3 5 5 → RI x4 40 155 → RI z1_7 40 155 → FLD ws p1 7 7 (.int z1_7) → WD D cy GG A s wr_X5_readOne__4 wa_X5_readOne__4 Ps w0 Ps ws H locs → lv_has ls 5 [(0, .ref p0), (1, .ref p1), (2, .ref p2), (3, .int p3), (4, .int x4)] → W p l e (headSpec (Cond.code yX5_readOne cX5_readOne 5 none :: gT) ({ frames := 11, cells := 0, slots := 0, locals := 2200 } : Room)).room s m ([.ref p0, .ref p1, .ref p2, .int p3] : List Value).toArray below meth c H locs 0 0 Q (F0 m 37 ls []) := by
    intro x4 z1_7 ws H locs ls r_p3 r_x4 r_z1_7 m_z1_7 hw hl
    refine lv_aload_n hx hb dX5_readOne_37 rfl (lv_at hl 0 rfl) ?_
    refine tg_get (ci := 5) (ts := ty_SENT) (C := RX5) (T := TX5) (N := 5) hx hb hts inX5 hown hK hw h_p0 rfl rfl 4 (by decide) (hts _ tw_955) (fun _ h9 => h9) (ft := vI (-2147483648) 2147483647) rfl dX5_readOne_38 (fun u_17 hv_u_17 m_u_17 => ?_)
    obtain ⟨vu_17, rfl, r_vu_17⟩ := hv_u_17
    refine lv_bipush (v := 20) hx hb dX5_readOne_41 (by decide) ?_
    refine lv_icmp_ge (tgt := 52) hx hb dX5_readOne_43 (by decide) (fun c_43 => ?_) (fun c_43 => ?_)
    · have r_vu_17 : RI vu_17 20 2147483647 := rc_le2 rl_20 r_vu_17 (ti_le c_43) (by decide)
      exact B52 x4 vu_17 z1_7 ws _ _ ls r_p3 r_x4 r_vu_17 m_u_17 r_z1_7 m_z1_7 hw hl
    · have r_vu_17 : RI vu_17 (-2147483648) 19 := rc_lt1 r_vu_17 rl_20 (ti_nle c_43) (by decide)
      refine lv_iload_n hx hb dX5_readOne_46 rfl (lv_at hl 3 rfl) ?_
      refine lv_bipush (v := 8) hx hb dX5_readOne_47 (by decide) ?_
      refine lv_icmp_le (tgt := 57) hx hb dX5_readOne_49 (by decide) (fun c_49 => ?_) (fun c_49 => ?_)
      · exact B57 x4 ws _ _ ls r_p3 (r_x4.to (by decide)) hw hl
      · have r_p3 : RI p3 9 5 := rc_lt2 rl_8 r_p3 (ti_nle c_49) (by decide)
        exact (r_p3.no (by decide)).elim
  have B29 : ∀ (x4 : Int32) (ws : va_W) (H : Heap) (locs : List Loc) (ls : Array Slot), RI p3 5 5 → RI x4 (-2147483648) 2147483647 → WD D cy GG A s wr_X5_readOne__4 wa_X5_readOne__4 Ps w0 Ps ws H locs → lv_has ls 5 [(0, .ref p0), (1, .ref p1), (2, .ref p2), (3, .int p3), (4, .int x4)] → W p l e (headSpec (Cond.code yX5_readOne cX5_readOne 5 none :: gT) ({ frames := 11, cells := 0, slots := 0, locals := 2200 } : Room)).room s m ([.ref p0, .ref p1, .ref p2, .int p3] : List Value).toArray below meth c H locs 0 0 Q (F0 m 29 ls []) := by
    intro x4 ws H locs ls r_p3 r_x4 hw hl
    refine lv_aload_n hx hb dX5_readOne_29 rfl (lv_at hl 1 rfl) ?_
    refine lv_iconst (v := 1) hx hb dX5_readOne_30 (by decide) ?_
    refine tk_v (va_runV (As := [.int 1]) (rest := []) ⟨hx, hb, hml, hown, hts⟩ (c_X7_refuse l D cy z H.size Ps ws hw.1 p1 1 h_p1 (rl_1.to (by decide))) (cwV 1 hts (gV tw_981 tw_443 tw_444 tw_2 tw_445) rfl rfl rfl (by decide +kernel) ⟨Nat.le_of_ble_eq_true rfl, Nat.le_of_ble_eq_true rfl⟩) (tg_preV hw hK hSD hA (ci := 7) (q := (RX7, TX7, 12)) rfl h_p1 rfl) rfl rfl hl.1 rfl (lv_room (Nat.le_of_ble_eq_true rfl)) dX5_readOne_31 ⟨Nat.le_of_ble_eq_true rfl, Nat.le_of_ble_eq_true rfl⟩) hw hA ⟨by decide, by decide⟩ (fun ws H locs hp_v_18 hw hF9 => ?_)
    obtain ⟨v_19, m_v_19, r_v_19⟩ := (hp_v_18.1)
    refine lv_goto (tgt := 57) hx hb dX5_readOne_34 (by decide) ?_
    exact B57 x4 ws _ _ ls r_p3 r_x4 hw hl
  refine lv_aload_n hx hb dX5_readOne_0 rfl (lv_at hl 1 rfl) ?_
  refine tg_getN (ci := 7) (ts := ty_TAPE) (C := RX7) (T := TX7) (N := 12) hx hb hts inX7 hown hK hw h_p1 rfl rfl 7 (by decide) (hSD.nest tn_96) (fun _ h9 => h9) (ft := vI (-2147483648) 2147483647) rfl dX5_readOne_1 (fun u_20 hv_u_20 m_u_20 => ?_)
  obtain ⟨vu_20, rfl, r_vu_20⟩ := hv_u_20
  refine lv_istore (lv' := [(4, .int vu_20), (0, .ref p0), (1, .ref p1), (2, .ref p2), (3, .int p3)]) hx hb dX5_readOne_4 hl (by decide) rfl (fun ls hl => ?_)
  refine lv_iload hx hb dX5_readOne_6 (lv_at hl 0 rfl) ?_
  refine lv_bipush (v := 40) hx hb dX5_readOne_8 (by decide) ?_
  refine lv_icmp_eq (tgt := 37) hx hb dX5_readOne_10 (by decide) (fun c_10 => ?_) (fun c_10 => ?_)
  · have r_vu_20 : RI vu_20 40 40 := rc_eq1 r_vu_20 rl_40 (ti_eq c_10) (by decide)
    exact B37 vu_20 vu_20 w0 _ _ ls r_p3 (r_vu_20.to (by decide)) (r_vu_20.to (by decide)) m_u_20 hw (lv_sub hl [1, 2, 3, 4, 0] rfl)
  · refine lv_iload hx hb dX5_readOne_13 (lv_at hl 0 rfl) ?_
    refine lv_sipush (v := 146) hx hb dX5_readOne_15 (by decide) ?_
    refine lv_icmp_lt (tgt := 29) hx hb dX5_readOne_18 (by decide) (fun c_18 => ?_) (fun c_18 => ?_)
    · have r_vu_20 : RI vu_20 (-2147483648) 145 := rc_lt1 r_vu_20 rl_146 (ti_lt c_18) (by decide)
      exact B29 vu_20 w0 _ _ ls r_p3 (r_vu_20.to (by decide)) hw (lv_sub hl [1, 2, 3, 4, 0] rfl)
    · have r_vu_20 : RI vu_20 146 2147483647 := rc_le2 rl_146 r_vu_20 (ti_nlt c_18) (by decide)
      refine lv_iload hx hb dX5_readOne_21 (lv_at hl 0 rfl) ?_
      refine lv_sipush (v := 155) hx hb dX5_readOne_23 (by decide) ?_
      refine lv_icmp_le (tgt := 37) hx hb dX5_readOne_26 (by decide) (fun c_26 => ?_) (fun c_26 => ?_)
      · have r_vu_20 : RI vu_20 146 155 := rc_le1 r_vu_20 rl_155 (ti_le c_26) (by decide)
        exact B37 vu_20 vu_20 w0 _ _ ls r_p3 (r_vu_20.to (by decide)) (r_vu_20.to (by decide)) m_u_20 hw (lv_sub hl [1, 2, 3, 4, 0] rfl)
      · have r_vu_20 : RI vu_20 156 2147483647 := rc_lt2 rl_155 r_vu_20 (ti_nle c_26) (by decide)
        exact B29 vu_20 w0 _ _ ls r_p3 (r_vu_20.to (by decide)) hw (lv_sub hl [1, 2, 3, 4, 0] rfl)
abbrev wr_X5_readCond__4 : List (Nat × Nat) := [(5, 3), (5, 4), (7, 5), (7, 6), (7, 7), (7, 8), (7, 9), (7, 10), (7, 11)]
abbrev wa_X5_readCond__4 : List Nat := [21]
set_option maxHeartbeats 4000000 in
set_option maxRecDepth 100000 in
theorem c_X5_readCond__4 (l : Launch) (D : va_G) (cy : Nat → ClassId) (z : Nat → Nat) (sz : Nat) (Ps : PSI) (w0 : va_W) (hT : HT cy GG Ps w0) (p0 : Nat) (p1 : Nat) (p2 : Nat) (p3 : Int32) (h_p0 : (p0, 32) ∈ Ps) (h_p1 : (p1, 26) ∈ Ps) (h_p2 : (p2, 25) ∈ Ps) (r_p3 : RI p3 5 5) : Met l yX5_readCond (Cond.code yX5_readCond cX5_readCond 7 none :: gT) ({ frames := 12, cells := 0, slots := 0, locals := 2400 } : Room) (va_Pc [.ref p0, .ref p1, .ref p2, .int p3] (PRE D cy z w0 sz)) (va_Qv (fun (u : va_W) => (True) ∧ HT cy GG Ps u ∧ FR wr_X5_readCond__4 wa_X5_readCond__4 Ps w0 u) (BB D cy (va_A w0 sz) (fun (u : va_W) => u)) (va_A w0 sz)) 0 0 (va_A w0 sz) := by
  refine Met.ofW (cc := cX5_readCond) (maxL := 7) (ret := none) (by decide) rfl ?_
  intro p e s m args below meth c s₁ B hml hv
  obtain ⟨rfl, hsz, hP, hK, hD0, hSD⟩ := hv
  have hx := B.exec
  have hb := B.bytes
  have hr := B.returns
  have hlocks := B.notSynchronized
  have hts : ∀ w ∈ gT, w.before _ s = true := fun w h => atoms_spec (ws := Cond.code yX5_readCond cX5_readCond 7 none :: gT) B.pre w (List.mem_cons_of_mem _ h)
  have hown : s.vm.findClass RX5 = some m.cls := findClass_of_methodNamed B.named
  subst hsz
  have hD := hD0.self (sz := s.heap.size)
  generalize hAe : va_A w0 s.heap.size = A at hD hSD ⊢
  have hA : ∀ q : Nat, s.heap.size ≤ q → A q := fun q h => by rw [← hAe]; exact Or.inr h
  have hl := lv_entry ([.ref p0, .ref p1, .ref p2, .int p3]) (n := 7) (Nat.le_of_ble_eq_true rfl)
  rw [lg_entry_eq]
  generalize (lg_sl ([.ref p0, .ref p1, .ref p2, .int p3]) ++ List.replicate (7 - (lg_sl ([.ref p0, .ref p1, .ref p2, .int p3])).length) Slot.unset).toArray = ls at hl ⊢
  have hl : lv_has ls 7 [(0, .ref p0), (1, .ref p1), (2, .ref p2), (3, .int p3)] := hl
  refine nameQ (fun Q hQ => ?_)
  have hw : WD D cy GG A s wr_X5_readCond__4 wa_X5_readCond__4 Ps w0 Ps w0 s.heap [] := ⟨hT, hP, hD, va_S.rf, FR.rf, hT.1, [], (List.append_nil _).symm⟩
  have B106 : ∀ (x4 : Int32) (x5 : Int32) (ws : va_W) (H : Heap) (locs : List Loc) (ls : Array Slot), RI p3 5 5 → RI x4 (-2147483648) 2147483647 → RI x5 0 21 → WD D cy GG A s wr_X5_readCond__4 wa_X5_readCond__4 Ps w0 Ps ws H locs → lv_has ls 7 [(0, .ref p0), (1, .ref p1), (2, .ref p2), (3, .int p3), (4, .int x4), (5, .int x5)] → W p l e (headSpec (Cond.code yX5_readCond cX5_readCond 7 none :: gT) ({ frames := 12, cells := 0, slots := 0, locals := 2400 } : Room)).room s m ([.ref p0, .ref p1, .ref p2, .int p3] : List Value).toArray below meth c H locs 0 0 Q (F0 m 106 ls []) := by
    intro x4 x5 ws H locs ls r_p3 r_x4 r_x5 hw hl
    refine lv_iload hx hb dX5_readCond_106 (lv_at hl 4 rfl) ?_
    refine lv_if_eq (tgt := 120) hx hb dX5_readCond_108 (by decide) (fun c_108 => ?_) (fun c_108 => ?_)
    · have r_x4 : RI x4 0 0 := rc_eq1 r_x4 rl_0 (ti_eq c_108) (by decide)
      subst hQ
      exact W.vret hx hb hr (fun t ht hW => ⟨⟨ws, rfl, ⟨trivial, hw.1, hw.2.2.2.2.1⟩, by rw [ht]; exact hw.2.1, va_K.moved hW.alike hK, hw.2.2.1⟩, hw.2.2.2.1.F ht⟩) hw.2.2.2.1.2.2 dX5_readCond_120
    · refine lv_aload_n hx hb dX5_readCond_111 rfl (lv_at hl 0 rfl) ?_
      refine lv_sipush (v := 144) hx hb dX5_readCond_112 (by decide) ?_
      refine lv_iconst (v := 0) hx hb dX5_readCond_115 (by decide) ?_
      refine lv_iconst (v := 0) hx hb dX5_readCond_116 (by decide) ?_
      refine tk_v (va_runV (As := [.int 144, .int 0, .int 0]) (rest := []) ⟨hx, hb, hml, hown, hts⟩ (c_X5_addStep l D cy z H.size Ps ws hw.1 p0 144 0 0 h_p0 (rl_144.to (by decide)) (rl_0.to (by decide)) (rl_0.to (by decide))) (cwV 3 hts (gV tw_983 tw_985 ts_33 tw_23 tw_986) rfl rfl rfl (by decide +kernel) ⟨Nat.le_of_ble_eq_true rfl, Nat.le_of_ble_eq_true rfl⟩) (tg_preV hw hK hSD hA (ci := 5) (q := (RX5, TX5, 5)) rfl h_p0 rfl) rfl rfl hl.1 rfl (lv_room (Nat.le_of_ble_eq_true rfl)) dX5_readCond_117 ⟨Nat.le_of_ble_eq_true rfl, Nat.le_of_ble_eq_true rfl⟩) hw hA ⟨by decide, by decide⟩ (fun ws H locs hp_v_1 hw hF9 => ?_)
      obtain ⟨v_2, m_v_2, r_v_2⟩ := (hp_v_1.1)
      subst hQ
      exact W.vret hx hb hr (fun t ht hW => ⟨⟨ws, rfl, ⟨trivial, hw.1, hw.2.2.2.2.1⟩, by rw [ht]; exact hw.2.1, va_K.moved hW.alike hK, hw.2.2.1⟩, hw.2.2.2.1.F ht⟩) hw.2.2.2.1.2.2 dX5_readCond_120
  have B13 : ∀ (nf : Nat) (x4 : Int32) (x5 : Int32) (ws : va_W) (H : Heap) (locs : List Loc) (ls : Array Slot), 20 - x5.toInt < (nf : Int) → RI p3 5 5 → RI x4 (-2147483648) 2147483647 → RI x5 0 20 → WD D cy GG A s wr_X5_readCond__4 wa_X5_readCond__4 Ps w0 Ps ws H locs → lv_has ls 7 [(0, .ref p0), (1, .ref p1), (2, .ref p2), (3, .int p3), (4, .int x4), (5, .int x5)] → W p l e (headSpec (Cond.code yX5_readCond cX5_readCond 7 none :: gT) ({ frames := 12, cells := 0, slots := 0, locals := 2400 } : Room)).room s m ([.ref p0, .ref p1, .ref p2, .int p3] : List Value).toArray below meth c H locs 0 0 Q (F0 m 13 ls []) := by
    intro nf13
    induction nf13 with
    | zero =>
      intro x4 x5 ws H locs ls hn13 r_p3 r_x4 r_x5 hw hl
      exact absurd hn13 (by have q0 := r_x5.1; have u0 := r_x5.2; omega)
    | succ nf13 ih13 =>
      have B72 : ∀ (x4 : Int32) (x5 : Int32) (x6 : Int32) (ws : va_W) (H : Heap) (locs : List Loc) (ls : Array Slot), RI p3 5 5 → RI x4 (-2147483648) 2147483647 → RI x5 0 19 → RI x6 0 1 → 20 - x5.toInt < ((nf13 + 1 : Nat) : Int) → WD D cy GG A s wr_X5_readCond__4 wa_X5_readCond__4 Ps w0 Ps ws H locs → lv_has ls 7 [(0, .ref p0), (1, .ref p1), (2, .ref p2), (3, .int p3), (4, .int x4), (5, .int x5), (6, .int x6)] → W p l e (headSpec (Cond.code yX5_readCond cX5_readCond 7 none :: gT) ({ frames := 12, cells := 0, slots := 0, locals := 2400 } : Room)).room s m ([.ref p0, .ref p1, .ref p2, .int p3] : List Value).toArray below meth c H locs 0 0 Q (F0 m 72 ls []) := by
        intro x4 x5 x6 ws H locs ls r_p3 r_x4 r_x5 r_x6 hn13 hw hl
        refine lv_iload hx hb dX5_readCond_72 (lv_at hl 4 rfl) ?_
        refine lv_iload hx hb dX5_readCond_74 (lv_at hl 6 rfl) ?_
        refine lv_ior hx hb dX5_readCond_76 (lv_topi (fun v_3 e_v_3 => ?_))
        have r_v_3 := ri_any v_3
        refine lv_istore (lv' := [(4, .int v_3), (0, .ref p0), (1, .ref p1), (2, .ref p2), (3, .int p3), (5, .int x5), (6, .int x6)]) hx hb dX5_readCond_77 hl (by decide) rfl (fun ls hl => ?_)
        refine lv_aload_n hx hb dX5_readCond_79 rfl (lv_at hl 1 rfl) ?_
        refine lv_aload_n hx hb dX5_readCond_80 rfl (lv_at hl 2 rfl) ?_
        refine lv_aload_n hx hb dX5_readCond_81 rfl (lv_at hl 3 rfl) ?_
        refine lv_iload_n hx hb dX5_readCond_82 rfl (lv_at hl 4 rfl) ?_
        refine tk_v (va_runV (As := [.ref p1, .ref p2, .int p3]) (rest := []) ⟨hx, hb, hml, hown, hts⟩ (c_X5_readOne__4 l D cy z H.size Ps ws hw.1 p0 p1 p2 p3 h_p0 h_p1 h_p2 r_p3) (cwV 3 hts (gV tw_977 tw_979 ts_32 tw_23 tw_980) rfl rfl rfl (by decide +kernel) ⟨Nat.le_of_ble_eq_true rfl, Nat.le_of_ble_eq_true rfl⟩) (tg_preV hw hK hSD hA (ci := 5) (q := (RX5, TX5, 5)) rfl h_p0 rfl) rfl rfl hl.1 rfl (lv_room (Nat.le_of_ble_eq_true rfl)) dX5_readCond_83 ⟨Nat.le_of_ble_eq_true rfl, Nat.le_of_ble_eq_true rfl⟩) hw hA ⟨by decide, by decide⟩ (fun ws H locs hp_v_4 hw hF9 => ?_)
        refine lv_iload hx hb dX5_readCond_86 (lv_at hl 6 rfl) ?_
        refine lv_if_ne (tgt := 100) hx hb dX5_readCond_88 (by decide) (fun c_88 => ?_) (fun c_88 => ?_)
        · have r_x6 : RI x6 1 1 := rc_neL r_x6 rl_0 (ti_ne c_88) (by decide)
          obtain ⟨v_5, e_v_5⟩ : ∃ q9 : Int32, q9 = x5 + Int32.ofInt 1 := ⟨_, rfl⟩
          obtain ⟨t_v_5, r_v_5⟩ := tq_add (lo := 1) (hi := 20) r_x5 (show RI (Int32.ofInt 1) 1 1 by unfold RI; decide +kernel) (by decide +kernel) e_v_5
          have t_v_5 : v_5.toInt = x5.toInt + 1 := t_v_5
          refine lv_iinc (v := v_5) (lv' := [(5, .int v_5), (4, .int v_3), (0, .ref p0), (1, .ref p1), (2, .ref p2), (3, .int p3), (6, .int x6)]) hx hb dX5_readCond_100 hl (k := 5) rfl e_v_5.symm (by decide) rfl (fun ls hl => ?_)
          refine lv_goto (tgt := 13) hx hb dX5_readCond_103 (by decide) ?_
          exact ih13 v_3 v_5 ws _ _ ls (by have q0 := r_v_5.1; have u0 := r_v_5.2; have o0 := r_x5.1; have p0 := r_x5.2; omega) r_p3 r_v_3 (r_v_5.to (by decide)) hw (lv_sub hl [2, 3, 4, 5, 1, 0] rfl)
        · have r_x6 : RI x6 0 0 := rc_eq1 r_x6 rl_0 (ti_eq c_88) (by decide)
          refine lv_aload_n hx hb dX5_readCond_91 rfl (lv_at hl 1 rfl) ?_
          refine lv_sipush (v := 145) hx hb dX5_readCond_92 (by decide) ?_
          refine lv_iconst (v := 0) hx hb dX5_readCond_95 (by decide) ?_
          refine lv_iconst (v := 0) hx hb dX5_readCond_96 (by decide) ?_
          refine tk_v (va_runV (As := [.int 145, .int 0, .int 0]) (rest := []) ⟨hx, hb, hml, hown, hts⟩ (c_X5_addStep l D cy z H.size Ps ws hw.1 p0 145 0 0 h_p0 (rl_145.to (by decide)) (rl_0.to (by decide)) (rl_0.to (by decide))) (cwV 3 hts (gV tw_983 tw_985 ts_33 tw_23 tw_986) rfl rfl rfl (by decide +kernel) ⟨Nat.le_of_ble_eq_true rfl, Nat.le_of_ble_eq_true rfl⟩) (tg_preV hw hK hSD hA (ci := 5) (q := (RX5, TX5, 5)) rfl h_p0 rfl) rfl rfl hl.1 rfl (lv_room (Nat.le_of_ble_eq_true rfl)) dX5_readCond_97 ⟨Nat.le_of_ble_eq_true rfl, Nat.le_of_ble_eq_true rfl⟩) hw hA ⟨by decide, by decide⟩ (fun ws H locs hp_v_6 hw hF9 => ?_)
          obtain ⟨v_7, m_v_7, r_v_7⟩ := (hp_v_6.1)
          obtain ⟨v_8, e_v_8⟩ : ∃ q9 : Int32, q9 = x5 + Int32.ofInt 1 := ⟨_, rfl⟩
          obtain ⟨t_v_8, r_v_8⟩ := tq_add (lo := 1) (hi := 20) r_x5 (show RI (Int32.ofInt 1) 1 1 by unfold RI; decide +kernel) (by decide +kernel) e_v_8
          have t_v_8 : v_8.toInt = x5.toInt + 1 := t_v_8
          refine lv_iinc (v := v_8) (lv' := [(5, .int v_8), (4, .int v_3), (0, .ref p0), (1, .ref p1), (2, .ref p2), (3, .int p3), (6, .int x6)]) hx hb dX5_readCond_100 hl (k := 5) rfl e_v_8.symm (by decide) rfl (fun ls hl => ?_)
          refine lv_goto (tgt := 13) hx hb dX5_readCond_103 (by decide) ?_
          exact ih13 v_3 v_8 ws _ _ ls (by have q0 := r_v_8.1; have u0 := r_v_8.2; have o0 := r_x5.1; have p0 := r_x5.2; omega) r_p3 r_v_3 (r_v_8.to (by decide)) hw (lv_sub hl [2, 3, 4, 5, 1, 0] rfl)
      have B40 : ∀ (x4 : Int32) (x5 : Int32) (ws : va_W) (H : Heap) (locs : List Loc) (ls : Array Slot), RI p3 5 5 → RI x4 (-2147483648) 2147483647 → RI x5 0 19 → 20 - x5.toInt < ((nf13 + 1 : Nat) : Int) → WD D cy GG A s wr_X5_readCond__4 wa_X5_readCond__4 Ps w0 Ps ws H locs → lv_has ls 7 [(0, .ref p0), (1, .ref p1), (2, .ref p2), (3, .int p3), (4, .int x4), (5, .int x5)] → W p l e (headSpec (Cond.code yX5_readCond cX5_readCond 7 none :: gT) ({ frames := 12, cells := 0, slots := 0, locals := 2400 } : Room)).room s m ([.ref p0, .ref p1, .ref p2, .int p3] : List Value).toArray below meth c H locs 0 0 Q (F0 m 40 ls []) := by
        intro x4 x5 ws H locs ls r_p3 r_x4 r_x5 hn13 hw hl
        refine lv_aload_n hx hb dX5_readCond_40 rfl (lv_at hl 1 rfl) ?_
        refine lv_sipush (v := 144) hx hb dX5_readCond_41 (by decide) ?_
        refine tk_ir (va_runV (As := [.int 144]) (rest := []) ⟨hx, hb, hml, hown, hts⟩ (c_X7_sees l D cy z H.size Ps ws hw.1 p1 144 h_p1 (rl_144.to (by decide))) (cwV 1 hts (gV tw_994 tw_995 tw_996 tw_2 tw_997) rfl rfl rfl (by decide +kernel) ⟨Nat.le_of_ble_eq_true rfl, Nat.le_of_ble_eq_true rfl⟩) (tg_preV hw hK hSD hA (ci := 7) (q := (RX7, TX7, 12)) rfl h_p1 rfl) rfl rfl hl.1 rfl (lv_room (Nat.le_of_ble_eq_true rfl)) dX5_readCond_44 ⟨Nat.le_of_ble_eq_true rfl, Nat.le_of_ble_eq_true rfl⟩) hw hA (fun v_9  H locs hp_v_9 hw => ?_)
        have r_v_9 : RI v_9 0 1 := hp_v_9.1
        refine lv_istore (lv' := [(6, .int v_9), (0, .ref p0), (1, .ref p1), (2, .ref p2), (3, .int p3), (4, .int x4), (5, .int x5)]) hx hb dX5_readCond_47 hl (by decide) rfl (fun ls hl => ?_)
        refine lv_aload_n hx hb dX5_readCond_49 rfl (lv_at hl 2 rfl) ?_
        refine tk_v (va_runV (As := []) (rest := []) ⟨hx, hb, hml, hown, hts⟩ (c_X7_pass l D cy z H.size Ps ws hw.1 p1 h_p1) (cwV 0 hts (gV tw_982 tw_425 tw_426 tw_2 tw_427) rfl rfl rfl (by decide +kernel) ⟨Nat.le_of_ble_eq_true rfl, Nat.le_of_ble_eq_true rfl⟩) (tg_preV hw hK hSD hA (ci := 7) (q := (RX7, TX7, 12)) rfl h_p1 rfl) rfl rfl hl.1 rfl (lv_room (Nat.le_of_ble_eq_true rfl)) dX5_readCond_50 ⟨Nat.le_of_ble_eq_true rfl, Nat.le_of_ble_eq_true rfl⟩) hw hA ⟨by decide, by decide⟩ (fun ws H locs hp_v_10 hw hF9 => ?_)
        refine lv_iload hx hb dX5_readCond_53 (lv_at hl 0 rfl) ?_
        refine lv_if_eq (tgt := 72) hx hb dX5_readCond_55 (by decide) (fun c_55 => ?_) (fun c_55 => ?_)
        · have r_v_9 : RI v_9 0 0 := rc_eq1 r_v_9 rl_0 (ti_eq c_55) (by decide)
          exact B72 x4 x5 v_9 ws _ _ ls r_p3 r_x4 r_x5 (r_v_9.to (by decide)) (by have q0 := r_x5.1; have u0 := r_x5.2; omega) hw (lv_sub hl [1, 2, 3, 4, 5, 6, 0] rfl)
        · have r_v_9 : RI v_9 1 1 := rc_neL r_v_9 rl_0 (ti_ne c_55) (by decide)
          refine lv_iload hx hb dX5_readCond_58 (lv_at hl 5 rfl) ?_
          refine lv_if_eq (tgt := 72) hx hb dX5_readCond_60 (by decide) (fun c_60 => ?_) (fun c_60 => ?_)
          · have r_x4 : RI x4 0 0 := rc_eq1 r_x4 rl_0 (ti_eq c_60) (by decide)
            exact B72 x4 x5 v_9 ws _ _ ls r_p3 (r_x4.to (by decide)) r_x5 (r_v_9.to (by decide)) (by have q0 := r_x5.1; have u0 := r_x5.2; omega) hw (lv_sub hl [1, 2, 3, 4, 5, 6, 0] rfl)
          · refine lv_aload_n hx hb dX5_readCond_63 rfl (lv_at hl 1 rfl) ?_
            refine lv_sipush (v := 144) hx hb dX5_readCond_64 (by decide) ?_
            refine lv_iconst (v := 0) hx hb dX5_readCond_67 (by decide) ?_
            refine lv_iconst (v := 0) hx hb dX5_readCond_68 (by decide) ?_
            refine tk_v (va_runV (As := [.int 144, .int 0, .int 0]) (rest := []) ⟨hx, hb, hml, hown, hts⟩ (c_X5_addStep l D cy z H.size Ps ws hw.1 p0 144 0 0 h_p0 (rl_144.to (by decide)) (rl_0.to (by decide)) (rl_0.to (by decide))) (cwV 3 hts (gV tw_983 tw_985 ts_33 tw_23 tw_986) rfl rfl rfl (by decide +kernel) ⟨Nat.le_of_ble_eq_true rfl, Nat.le_of_ble_eq_true rfl⟩) (tg_preV hw hK hSD hA (ci := 5) (q := (RX5, TX5, 5)) rfl h_p0 rfl) rfl rfl hl.1 rfl (lv_room (Nat.le_of_ble_eq_true rfl)) dX5_readCond_69 ⟨Nat.le_of_ble_eq_true rfl, Nat.le_of_ble_eq_true rfl⟩) hw hA ⟨by decide, by decide⟩ (fun ws H locs hp_v_11 hw hF9 => ?_)
            obtain ⟨v_12, m_v_12, r_v_12⟩ := (hp_v_11.1)
            exact B72 x4 x5 v_9 ws _ _ ls r_p3 r_x4 r_x5 (r_v_9.to (by decide)) (by have q0 := r_x5.1; have u0 := r_x5.2; omega) hw (lv_sub hl [1, 2, 3, 4, 5, 6, 0] rfl)
      intro x4 x5 ws H locs ls hn13 r_p3 r_x4 r_x5 hw hl
      refine lv_iload hx hb dX5_readCond_13 (lv_at hl 5 rfl) ?_
      refine lv_bipush (v := 20) hx hb dX5_readCond_15 (by decide) ?_
      refine lv_icmp_ge (tgt := 106) hx hb dX5_readCond_17 (by decide) (fun c_17 => ?_) (fun c_17 => ?_)
      · have r_x5 : RI x5 20 20 := rc_le2 rl_20 r_x5 (ti_le c_17) (by decide)
        exact B106 x4 x5 ws _ _ ls r_p3 r_x4 (r_x5.to (by decide)) hw hl
      · have r_x5 : RI x5 0 19 := rc_lt1 r_x5 rl_20 (ti_nle c_17) (by decide)
        refine lv_aload_n hx hb dX5_readCond_20 rfl (lv_at hl 1 rfl) ?_
        refine lv_sipush (v := 144) hx hb dX5_readCond_21 (by decide) ?_
        refine tk_ir (va_runV (As := [.int 144]) (rest := []) ⟨hx, hb, hml, hown, hts⟩ (c_X7_sees l D cy z H.size Ps ws hw.1 p1 144 h_p1 (rl_144.to (by decide))) (cwV 1 hts (gV tw_994 tw_995 tw_996 tw_2 tw_997) rfl rfl rfl (by decide +kernel) ⟨Nat.le_of_ble_eq_true rfl, Nat.le_of_ble_eq_true rfl⟩) (tg_preV hw hK hSD hA (ci := 7) (q := (RX7, TX7, 12)) rfl h_p1 rfl) rfl rfl hl.1 rfl (lv_room (Nat.le_of_ble_eq_true rfl)) dX5_readCond_24 ⟨Nat.le_of_ble_eq_true rfl, Nat.le_of_ble_eq_true rfl⟩) hw hA (fun v_13  H locs hp_v_13 hw => ?_)
        have r_v_13 : RI v_13 0 1 := hp_v_13.1
        refine lv_if_ne (tgt := 40) hx hb dX5_readCond_27 (by decide) (fun c_27 => ?_) (fun c_27 => ?_)
        · have r_v_13 : RI v_13 1 1 := rc_neL r_v_13 rl_0 (ti_ne c_27) (by decide)
          exact B40 x4 x5 ws _ _ ls r_p3 r_x4 r_x5 (by have q0 := r_x5.1; have u0 := r_x5.2; omega) hw hl
        · have r_v_13 : RI v_13 0 0 := rc_eq1 r_v_13 rl_0 (ti_eq c_27) (by decide)
          refine lv_aload_n hx hb dX5_readCond_30 rfl (lv_at hl 1 rfl) ?_
          refine lv_sipush (v := 145) hx hb dX5_readCond_31 (by decide) ?_
          refine tk_ir (va_runV (As := [.int 145]) (rest := []) ⟨hx, hb, hml, hown, hts⟩ (c_X7_sees l D cy z H.size Ps ws hw.1 p1 145 h_p1 (rl_145.to (by decide))) (cwV 1 hts (gV tw_994 tw_995 tw_996 tw_2 tw_997) rfl rfl rfl (by decide +kernel) ⟨Nat.le_of_ble_eq_true rfl, Nat.le_of_ble_eq_true rfl⟩) (tg_preV hw hK hSD hA (ci := 7) (q := (RX7, TX7, 12)) rfl h_p1 rfl) rfl rfl hl.1 rfl (lv_room (Nat.le_of_ble_eq_true rfl)) dX5_readCond_34 ⟨Nat.le_of_ble_eq_true rfl, Nat.le_of_ble_eq_true rfl⟩) hw hA (fun v_14  H locs hp_v_14 hw => ?_)
          have r_v_14 : RI v_14 0 1 := hp_v_14.1
          refine lv_if_eq (tgt := 106) hx hb dX5_readCond_37 (by decide) (fun c_37 => ?_) (fun c_37 => ?_)
          · have r_v_14 : RI v_14 0 0 := rc_eq1 r_v_14 rl_0 (ti_eq c_37) (by decide)
            exact B106 x4 x5 ws _ _ ls r_p3 r_x4 (r_x5.to (by decide)) hw hl
          · have r_v_14 : RI v_14 1 1 := rc_neL r_v_14 rl_0 (ti_ne c_37) (by decide)
            exact B40 x4 x5 ws _ _ ls r_p3 r_x4 r_x5 (by have q0 := r_x5.1; have u0 := r_x5.2; omega) hw hl
  refine lv_iconst (v := 0) hx hb dX5_readCond_0 (by decide) ?_
  refine lv_istore (lv' := [(4, .int 0), (0, .ref p0), (1, .ref p1), (2, .ref p2), (3, .int p3)]) hx hb dX5_readCond_1 hl (by decide) rfl (fun ls hl => ?_)
  refine lv_aload_n hx hb dX5_readCond_3 rfl (lv_at hl 1 rfl) ?_
  refine lv_aload_n hx hb dX5_readCond_4 rfl (lv_at hl 2 rfl) ?_
  refine lv_aload_n hx hb dX5_readCond_5 rfl (lv_at hl 3 rfl) ?_
  refine lv_iload_n hx hb dX5_readCond_6 rfl (lv_at hl 4 rfl) ?_
  refine tk_v (va_runV (As := [.ref p1, .ref p2, .int p3]) (rest := []) ⟨hx, hb, hml, hown, hts⟩ (c_X5_readOne__4 l D cy z s.heap.size Ps w0 hw.1 p0 p1 p2 p3 h_p0 h_p1 h_p2 r_p3) (cwV 3 hts (gV tw_977 tw_979 ts_32 tw_23 tw_980) rfl rfl rfl (by decide +kernel) ⟨Nat.le_of_ble_eq_true rfl, Nat.le_of_ble_eq_true rfl⟩) (tg_preV hw hK hSD hA (ci := 5) (q := (RX5, TX5, 5)) rfl h_p0 rfl) rfl rfl hl.1 rfl (lv_room (Nat.le_of_ble_eq_true rfl)) dX5_readCond_7 ⟨Nat.le_of_ble_eq_true rfl, Nat.le_of_ble_eq_true rfl⟩) hw hA ⟨by decide, by decide⟩ (fun ws H locs hp_v_15 hw hF9 => ?_)
  refine lv_iconst (v := 0) hx hb dX5_readCond_10 (by decide) ?_
  refine lv_istore (lv' := [(5, .int 0), (4, .int 0), (0, .ref p0), (1, .ref p1), (2, .ref p2), (3, .int p3)]) hx hb dX5_readCond_11 hl (by decide) rfl (fun ls hl => ?_)
  exact B13 4294967298 0 0 ws _ _ ls (by have q0 := rl_0.1; have u0 := rl_0.2; omega) r_p3 (rl_0.to (by decide)) (rl_0.to (by decide)) hw (lv_sub hl [2, 3, 4, 5, 1, 0] rfl)
abbrev wr_X5_readOne__3 : List (Nat × Nat) := [(5, 3), (5, 4), (7, 5), (7, 6), (7, 7), (7, 8), (7, 9), (7, 10), (7, 11)]
abbrev wa_X5_readOne__3 : List Nat := [21]
set_option maxHeartbeats 4000000 in
set_option maxRecDepth 100000 in
theorem c_X5_readOne__3 (l : Launch) (D : va_G) (cy : Nat → ClassId) (z : Nat → Nat) (sz : Nat) (Ps : PSI) (w0 : va_W) (hT : HT cy GG Ps w0) (p0 : Nat) (p1 : Nat) (p2 : Nat) (p3 : Int32) (h_p0 : (p0, 32) ∈ Ps) (h_p1 : (p1, 26) ∈ Ps) (h_p2 : (p2, 25) ∈ Ps) (r_p3 : RI p3 4 4) : Met l yX5_readOne (Cond.code yX5_readOne cX5_readOne 5 none :: gT) ({ frames := 13, cells := 0, slots := 0, locals := 2600 } : Room) (va_Pc [.ref p0, .ref p1, .ref p2, .int p3] (PRE D cy z w0 sz)) (va_Qv (fun (u : va_W) => (True) ∧ HT cy GG Ps u ∧ FR wr_X5_readOne__3 wa_X5_readOne__3 Ps w0 u) (BB D cy (va_A w0 sz) (fun (u : va_W) => u)) (va_A w0 sz)) 0 0 (va_A w0 sz) := by
  refine Met.ofW (cc := cX5_readOne) (maxL := 5) (ret := none) (by decide) rfl ?_
  intro p e s m args below meth c s₁ B hml hv
  obtain ⟨rfl, hsz, hP, hK, hD0, hSD⟩ := hv
  have hx := B.exec
  have hb := B.bytes
  have hr := B.returns
  have hlocks := B.notSynchronized
  have hts : ∀ w ∈ gT, w.before _ s = true := fun w h => atoms_spec (ws := Cond.code yX5_readOne cX5_readOne 5 none :: gT) B.pre w (List.mem_cons_of_mem _ h)
  have hown : s.vm.findClass RX5 = some m.cls := findClass_of_methodNamed B.named
  subst hsz
  have hD := hD0.self (sz := s.heap.size)
  generalize hAe : va_A w0 s.heap.size = A at hD hSD ⊢
  have hA : ∀ q : Nat, s.heap.size ≤ q → A q := fun q h => by rw [← hAe]; exact Or.inr h
  have hl := lv_entry ([.ref p0, .ref p1, .ref p2, .int p3]) (n := 5) (Nat.le_of_ble_eq_true rfl)
  rw [lg_entry_eq]
  generalize (lg_sl ([.ref p0, .ref p1, .ref p2, .int p3]) ++ List.replicate (5 - (lg_sl ([.ref p0, .ref p1, .ref p2, .int p3])).length) Slot.unset).toArray = ls at hl ⊢
  have hl : lv_has ls 5 [(0, .ref p0), (1, .ref p1), (2, .ref p2), (3, .int p3)] := hl
  refine nameQ (fun Q hQ => ?_)
  have hw : WD D cy GG A s wr_X5_readOne__3 wa_X5_readOne__3 Ps w0 Ps w0 s.heap [] := ⟨hT, hP, hD, va_S.rf, FR.rf, hT.1, [], (List.append_nil _).symm⟩
  have B57 : ∀ (x4 : Int32) (ws : va_W) (H : Heap) (locs : List Loc) (ls : Array Slot), RI p3 4 4 → RI x4 (-2147483648) 2147483647 → WD D cy GG A s wr_X5_readOne__3 wa_X5_readOne__3 Ps w0 Ps ws H locs → lv_has ls 5 [(0, .ref p0), (1, .ref p1), (2, .ref p2), (3, .int p3), (4, .int x4)] → W p l e (headSpec (Cond.code yX5_readOne cX5_readOne 5 none :: gT) ({ frames := 13, cells := 0, slots := 0, locals := 2600 } : Room)).room s m ([.ref p0, .ref p1, .ref p2, .int p3] : List Value).toArray below meth c H locs 0 0 Q (F0 m 57 ls []) := by
    intro x4 ws H locs ls r_p3 r_x4 hw hl
    refine lv_aload_n hx hb dX5_readOne_57 rfl (lv_at hl 1 rfl) ?_
    refine tg_getN (ci := 7) (ts := ty_TAPE) (C := RX7) (T := TX7) (N := 12) hx hb hts inX7 hown hK hw h_p1 rfl rfl 10 (by decide) (hSD.nest tn_103) (fun _ h9 => h9) (ft := vI 0 4) rfl dX5_readOne_58 (fun u_1 hv_u_1 m_u_1 => ?_)
    obtain ⟨vu_1, rfl, r_vu_1⟩ := hv_u_1
    refine lv_if_eq (tgt := 65) hx hb dX5_readOne_61 (by decide) (fun c_61 => ?_) (fun c_61 => ?_)
    · have r_vu_1 : RI vu_1 0 0 := rc_eq1 r_vu_1 rl_0 (ti_eq c_61) (by decide)
      refine lv_aload_n hx hb dX5_readOne_65 rfl (lv_at hl 1 rfl) ?_
      refine tk_v (va_runV (As := []) (rest := []) ⟨hx, hb, hml, hown, hts⟩ (c_X7_pass l D cy z H.size Ps ws hw.1 p1 h_p1) (cwV 0 hts (gV tw_982 tw_425 tw_426 tw_2 tw_427) rfl rfl rfl (by decide +kernel) ⟨Nat.le_of_ble_eq_true rfl, Nat.le_of_ble_eq_true rfl⟩) (tg_preV hw hK hSD hA (ci := 7) (q := (RX7, TX7, 12)) rfl h_p1 rfl) rfl rfl hl.1 rfl (lv_room (Nat.le_of_ble_eq_true rfl)) dX5_readOne_66 ⟨Nat.le_of_ble_eq_true rfl, Nat.le_of_ble_eq_true rfl⟩) hw hA ⟨by decide, by decide⟩ (fun ws H locs hp_v_2 hw hF9 => ?_)
      have m_u_1 := FLD.over hF9 m_u_1 (by decide)
      refine lv_aload_n hx hb dX5_readOne_69 rfl (lv_at hl 0 rfl) ?_
      refine lv_dup hx hb dX5_readOne_70 rfl ?_
      refine tg_get (ci := 5) (ts := ty_SENT) (C := RX5) (T := TX5) (N := 5) hx hb hts inX5 hown hK hw h_p0 rfl rfl 4 (by decide) (hts _ tw_955) (fun _ h9 => h9) (ft := vI (-2147483648) 2147483647) rfl dX5_readOne_71 (fun u_3 hv_u_3 m_u_3 => ?_)
      obtain ⟨vu_3, rfl, r_vu_3⟩ := hv_u_3
      refine lv_iconst (v := 1) hx hb dX5_readOne_74 (by decide) ?_
      refine lv_iadd hx hb dX5_readOne_75 (lv_topi (fun v_4 e_v_4 => ?_))
      have r_v_4 := ri_any v_4
      refine tg_put (ci := 5) (ts := ty_SENT) (v := .int v_4) (ty := .int) (C := RX5) (T := TX5) (N := 5) hx hb hts inX5 tyX5 tyX5_ok nmX5 hown hK hw h_p0 rfl rfl 4 (by decide) (hts _ tw_955) (fun _ h9 => h9) rfl (by decide +kernel) rfl rfl (ft := vI (-2147483648) 2147483647) rfl ⟨_, rfl, r_v_4⟩ (by decide) dX5_readOne_76 (fun ws H locs hw n_k_5 hF9 => ?_)
      have m_u_1 := FLD.over hF9 m_u_1 (by decide)
      refine lv_iload hx hb dX5_readOne_79 (lv_at hl 4 rfl) ?_
      refine lv_sipush (v := 146) hx hb dX5_readOne_81 (by decide) ?_
      refine lv_icmp_ne (tgt := 108) hx hb dX5_readOne_84 (by decide) (fun c_84 => ?_) (fun c_84 => ?_)
      · refine lv_iload hx hb dX5_readOne_108 (lv_at hl 4 rfl) ?_
        refine lv_bipush (v := 40) hx hb dX5_readOne_110 (by decide) ?_
        refine lv_icmp_ne (tgt := 133) hx hb dX5_readOne_112 (by decide) (fun c_112 => ?_) (fun c_112 => ?_)
        · refine lv_aload_n hx hb dX5_readOne_133 rfl (lv_at hl 0 rfl) ?_
          refine lv_aload_n hx hb dX5_readOne_134 rfl (lv_at hl 1 rfl) ?_
          refine lv_aload_n hx hb dX5_readOne_135 rfl (lv_at hl 2 rfl) ?_
          refine lv_iload hx hb dX5_readOne_136 (lv_at hl 4 rfl) ?_
          refine tk_v (va_runV (As := [.ref p1, .ref p2, .int x4]) (rest := []) ⟨hx, hb, hml, hown, hts⟩ (c_X5_readPlain l D cy z H.size Ps ws hw.1 p0 p1 p2 x4 h_p0 h_p1 h_p2 r_x4) (cwV 3 hts (gV tw_988 tw_990 ts_34 tw_23 tw_991) rfl rfl rfl (by decide +kernel) ⟨Nat.le_of_ble_eq_true rfl, Nat.le_of_ble_eq_true rfl⟩) (tg_preV hw hK hSD hA (ci := 5) (q := (RX5, TX5, 5)) rfl h_p0 rfl) rfl rfl hl.1 rfl (lv_room (Nat.le_of_ble_eq_true rfl)) dX5_readOne_138 ⟨Nat.le_of_ble_eq_true rfl, Nat.le_of_ble_eq_true rfl⟩) hw hA ⟨by decide, by decide⟩ (fun ws H locs hp_v_6 hw hF9 => ?_)
          have n_k_5 := FLD.over hF9 n_k_5 (by decide)
          obtain ⟨v_7, m_v_7, r_v_7⟩ := (hp_v_6.1)
          subst hQ
          exact W.vret hx hb hr (fun t ht hW => ⟨⟨ws, rfl, ⟨trivial, hw.1, hw.2.2.2.2.1⟩, by rw [ht]; exact hw.2.1, va_K.moved hW.alike hK, hw.2.2.1⟩, hw.2.2.2.1.F ht⟩) hw.2.2.2.1.2.2 dX5_readOne_141
        · have r_x4 : RI x4 40 40 := rc_eq1 r_x4 rl_40 (ti_eq c_112) (by decide)
          refine lv_aload_n hx hb dX5_readOne_115 rfl (lv_at hl 0 rfl) ?_
          refine lv_aload_n hx hb dX5_readOne_116 rfl (lv_at hl 1 rfl) ?_
          refine lv_aload_n hx hb dX5_readOne_117 rfl (lv_at hl 2 rfl) ?_
          refine lv_iload_n hx hb dX5_readOne_118 rfl (lv_at hl 3 rfl) ?_
          refine lv_iconst (v := 1) hx hb dX5_readOne_119 (by decide) ?_
          refine lv_iadd hx hb dX5_readOne_120 (lv_topi (fun v_8 e_v_8 => ?_))
          obtain ⟨t_v_8, r_v_8⟩ := tq_add (lo := 5) (hi := 5) r_p3 rl_1 (by decide +kernel) e_v_8
          have t_v_8 : v_8.toInt = p3.toInt + 1 := t_v_8
          refine tk_v (va_runV (As := [.ref p1, .ref p2, .int v_8]) (rest := []) ⟨hx, hb, hml, hown, hts⟩ (c_X5_readCond__4 l D cy z H.size Ps ws hw.1 p0 p1 p2 v_8 h_p0 h_p1 h_p2 r_v_8) (cwV 3 hts (gV tw_973 tw_975 ts_31 tw_23 tw_976) rfl rfl rfl (by decide +kernel) ⟨Nat.le_of_ble_eq_true rfl, Nat.le_of_ble_eq_true rfl⟩) (tg_preV hw hK hSD hA (ci := 5) (q := (RX5, TX5, 5)) rfl h_p0 rfl) rfl rfl hl.1 rfl (lv_room (Nat.le_of_ble_eq_true rfl)) dX5_readOne_121 ⟨Nat.le_of_ble_eq_true rfl, Nat.le_of_ble_eq_true rfl⟩) hw hA ⟨by decide, by decide⟩ (fun ws H locs hp_v_9 hw hF9 => ?_)
          refine lv_aload_n hx hb dX5_readOne_124 rfl (lv_at hl 1 rfl) ?_
          refine lv_bipush (v := 41) hx hb dX5_readOne_125 (by decide) ?_
          refine tk_v (va_runV (As := [.int 41]) (rest := []) ⟨hx, hb, hml, hown, hts⟩ (c_X7_passOnly l D cy z H.size Ps ws hw.1 p1 41 h_p1 (rl_41.to (by decide))) (cwV 1 hts (gV tw_987 tw_514 tw_515 tw_2 tw_516) rfl rfl rfl (by decide +kernel) ⟨Nat.le_of_ble_eq_true rfl, Nat.le_of_ble_eq_true rfl⟩) (tg_preV hw hK hSD hA (ci := 7) (q := (RX7, TX7, 12)) rfl h_p1 rfl) rfl rfl hl.1 rfl (lv_room (Nat.le_of_ble_eq_true rfl)) dX5_readOne_127 ⟨Nat.le_of_ble_eq_true rfl, Nat.le_of_ble_eq_true rfl⟩) hw hA ⟨by decide, by decide⟩ (fun ws H locs hp_v_10 hw hF9 => ?_)
          refine lv_goto (tgt := 141) hx hb dX5_readOne_130 (by decide) ?_
          subst hQ
          exact W.vret hx hb hr (fun t ht hW => ⟨⟨ws, rfl, ⟨trivial, hw.1, hw.2.2.2.2.1⟩, by rw [ht]; exact hw.2.1, va_K.moved hW.alike hK, hw.2.2.1⟩, hw.2.2.2.1.F ht⟩) hw.2.2.2.1.2.2 dX5_readOne_141
      · have r_x4 : RI x4 146 146 := rc_eq1 r_x4 rl_146 (ti_eq c_84) (by decide)
        refine lv_aload_n hx hb dX5_readOne_87 rfl (lv_at hl 0 rfl) ?_
        refine lv_aload_n hx hb dX5_readOne_88 rfl (lv_at hl 1 rfl) ?_
        refine lv_aload_n hx hb dX5_readOne_89 rfl (lv_at hl 2 rfl) ?_
        refine lv_iload_n hx hb dX5_readOne_90 rfl (lv_at hl 3 rfl) ?_
        refine lv_iconst (v := 1) hx hb dX5_readOne_91 (by decide) ?_
        refine lv_iadd hx hb dX5_readOne_92 (lv_topi (fun v_11 e_v_11 => ?_))
        obtain ⟨t_v_11, r_v_11⟩ := tq_add (lo := 5) (hi := 5) r_p3 rl_1 (by decide +kernel) e_v_11
        have t_v_11 : v_11.toInt = p3.toInt + 1 := t_v_11
        refine tk_v (va_runV (As := [.ref p1, .ref p2, .int v_11]) (rest := []) ⟨hx, hb, hml, hown, hts⟩ (c_X5_readOne__4 l D cy z H.size Ps ws hw.1 p0 p1 p2 v_11 h_p0 h_p1 h_p2 r_v_11) (cwV 3 hts (gV tw_977 tw_979 ts_32 tw_23 tw_980) rfl rfl rfl (by decide +kernel) ⟨Nat.le_of_ble_eq_true rfl, Nat.le_of_ble_eq_true rfl⟩) (tg_preV hw hK hSD hA (ci := 5) (q := (RX5, TX5, 5)) rfl h_p0 rfl) rfl rfl hl.1 rfl (lv_room (Nat.le_of_ble_eq_true rfl)) dX5_readOne_93 ⟨Nat.le_of_ble_eq_true rfl, Nat.le_of_ble_eq_true rfl⟩) hw hA ⟨by decide, by decide⟩ (fun ws H locs hp_v_12 hw hF9 => ?_)
        refine lv_aload_n hx hb dX5_readOne_96 rfl (lv_at hl 0 rfl) ?_
        refine lv_sipush (v := 146) hx hb dX5_readOne_97 (by decide) ?_
        refine lv_iconst (v := 0) hx hb dX5_readOne_100 (by decide) ?_
        refine lv_iconst (v := 0) hx hb dX5_readOne_101 (by decide) ?_
        refine tk_v (va_runV (As := [.int 146, .int 0, .int 0]) (rest := []) ⟨hx, hb, hml, hown, hts⟩ (c_X5_addStep l D cy z H.size Ps ws hw.1 p0 146 0 0 h_p0 (rl_146.to (by decide)) (rl_0.to (by decide)) (rl_0.to (by decide))) (cwV 3 hts (gV tw_983 tw_985 ts_33 tw_23 tw_986) rfl rfl rfl (by decide +kernel) ⟨Nat.le_of_ble_eq_true rfl, Nat.le_of_ble_eq_true rfl⟩) (tg_preV hw hK hSD hA (ci := 5) (q := (RX5, TX5, 5)) rfl h_p0 rfl) rfl rfl hl.1 rfl (lv_room (Nat.le_of_ble_eq_true rfl)) dX5_readOne_102 ⟨Nat.le_of_ble_eq_true rfl, Nat.le_of_ble_eq_true rfl⟩) hw hA ⟨by decide, by decide⟩ (fun ws H locs hp_v_13 hw hF9 => ?_)
        obtain ⟨v_14, m_v_14, r_v_14⟩ := (hp_v_13.1)
        refine lv_goto (tgt := 141) hx hb dX5_readOne_105 (by decide) ?_
        subst hQ
        exact W.vret hx hb hr (fun t ht hW => ⟨⟨ws, rfl, ⟨trivial, hw.1, hw.2.2.2.2.1⟩, by rw [ht]; exact hw.2.1, va_K.moved hW.alike hK, hw.2.2.1⟩, hw.2.2.2.1.F ht⟩) hw.2.2.2.1.2.2 dX5_readOne_141
    · have r_vu_1 : RI vu_1 1 4 := rc_neL r_vu_1 rl_0 (ti_ne c_61) (by decide)
      subst hQ
      exact W.vret hx hb hr (fun t ht hW => ⟨⟨ws, rfl, ⟨trivial, hw.1, hw.2.2.2.2.1⟩, by rw [ht]; exact hw.2.1, va_K.moved hW.alike hK, hw.2.2.1⟩, hw.2.2.2.1.F ht⟩) hw.2.2.2.1.2.2 dX5_readOne_64
  have B52 : ∀ (x4 : Int32) (z0_4 : Int32) (z1_7 : Int32) (ws : va_W) (H : Heap) (locs : List Loc) (ls : Array Slot), RI p3 4 4 → RI x4 40 155 → RI z0_4 20 2147483647 → FLD ws p0 5 4 (.int z0_4) → RI z1_7 40 155 → FLD ws p1 7 7 (.int z1_7) → WD D cy GG A s wr_X5_readOne__3 wa_X5_readOne__3 Ps w0 Ps ws H locs → lv_has ls 5 [(0, .ref p0), (1, .ref p1), (2, .ref p2), (3, .int p3), (4, .int x4)] → W p l e (headSpec (Cond.code yX5_readOne cX5_readOne 5 none :: gT) ({ frames := 13, cells := 0, slots := 0, locals := 2600 } : Room)).room s m ([.ref p0, .ref p1, .ref p2, .int p3] : List Value).toArray below meth c H locs 0 0 Q (F0 m 52 ls []) := by
    intro x4 z0_4 z1_7 ws H locs ls r_p3 r_x4 r_z0_4 m_z0_4 r_z1_7 m_z1_7 hw hl
    refine lv_aload_n hx hb dX5_readOne_52 rfl (lv_at hl 1 rfl) ?_
    refine lv_iconst (v := 4) hx hb dX5_readOne_53 (by decide) ?_
    refine tk_v (va_runV (As := [.int 4]) (rest := []) ⟨hx, hb, hml, hown, hts⟩ (c_X7_refuse l D cy z H.size Ps ws hw.1 p1 4 h_p1 (rl_4.to (by decide))) (cwV 1 hts (gV tw_981 tw_443 tw_444 tw_2 tw_445) rfl rfl rfl (by decide +kernel) ⟨Nat.le_of_ble_eq_true rfl, Nat.le_of_ble_eq_true rfl⟩) (tg_preV hw hK hSD hA (ci := 7) (q := (RX7, TX7, 12)) rfl h_p1 rfl) rfl rfl hl.1 rfl (lv_room (Nat.le_of_ble_eq_true rfl)) dX5_readOne_54 ⟨Nat.le_of_ble_eq_true rfl, Nat.le_of_ble_eq_true rfl⟩) hw hA ⟨by decide, by decide⟩ (fun ws H locs hp_v_15 hw hF9 => ?_)
    have m_z0_4 := FLD.over hF9 m_z0_4 (by decide)
    have m_z1_7 := FLD.over hF9 m_z1_7 (by decide)
    obtain ⟨v_16, m_v_16, r_v_16⟩ := (hp_v_15.1)
    exact B57 x4 ws _ _ ls r_p3 (r_x4.to (by decide)) hw hl
  have B37 : ∀ (x4 : Int32) (z1_7 : Int32) (ws : va_W) (H : Heap) (locs : List Loc) (ls : Array Slot), RI p3 4 4 → RI x4 40 155 → RI z1_7 40 155 → FLD ws p1 7 7 (.int z1_7) → WD D cy GG A s wr_X5_readOne__3 wa_X5_readOne__3 Ps w0 Ps ws H locs → lv_has ls 5 [(0, .ref p0), (1, .ref p1), (2, .ref p2), (3, .int p3), (4, .int x4)] → W p l e (headSpec (Cond.code yX5_readOne cX5_readOne 5 none :: gT) ({ frames := 13, cells := 0, slots := 0, locals := 2600 } : Room)).room s m ([.ref p0, .ref p1, .ref p2, .int p3] : List Value).toArray below meth c H locs 0 0 Q (F0 m 37 ls []) := by
    intro x4 z1_7 ws H locs ls r_p3 r_x4 r_z1_7 m_z1_7 hw hl
    refine lv_aload_n hx hb dX5_readOne_37 rfl (lv_at hl 0 rfl) ?_
    refine tg_get (ci := 5) (ts := ty_SENT) (C := RX5) (T := TX5) (N := 5) hx hb hts inX5 hown hK hw h_p0 rfl rfl 4 (by decide) (hts _ tw_955) (fun _ h9 => h9) (ft := vI (-2147483648) 2147483647) rfl dX5_readOne_38 (fun u_17 hv_u_17 m_u_17 => ?_)
    obtain ⟨vu_17, rfl, r_vu_17⟩ := hv_u_17
    refine lv_bipush (v := 20) hx hb dX5_readOne_41 (by decide) ?_
    refine lv_icmp_ge (tgt := 52) hx hb dX5_readOne_43 (by decide) (fun c_43 => ?_) (fun c_43 => ?_)
    · have r_vu_17 : RI vu_17 20 2147483647 := rc_le2 rl_20 r_vu_17 (ti_le c_43) (by decide)
      exact B52 x4 vu_17 z1_7 ws _ _ ls r_p3 r_x4 r_vu_17 m_u_17 r_z1_7 m_z1_7 hw hl
    · have r_vu_17 : RI vu_17 (-2147483648) 19 := rc_lt1 r_vu_17 rl_20 (ti_nle c_43) (by decide)
      refine lv_iload_n hx hb dX5_readOne_46 rfl (lv_at hl 3 rfl) ?_
      refine lv_bipush (v := 8) hx hb dX5_readOne_47 (by decide) ?_
      refine lv_icmp_le (tgt := 57) hx hb dX5_readOne_49 (by decide) (fun c_49 => ?_) (fun c_49 => ?_)
      · exact B57 x4 ws _ _ ls r_p3 (r_x4.to (by decide)) hw hl
      · have r_p3 : RI p3 9 4 := rc_lt2 rl_8 r_p3 (ti_nle c_49) (by decide)
        exact (r_p3.no (by decide)).elim
  have B29 : ∀ (x4 : Int32) (ws : va_W) (H : Heap) (locs : List Loc) (ls : Array Slot), RI p3 4 4 → RI x4 (-2147483648) 2147483647 → WD D cy GG A s wr_X5_readOne__3 wa_X5_readOne__3 Ps w0 Ps ws H locs → lv_has ls 5 [(0, .ref p0), (1, .ref p1), (2, .ref p2), (3, .int p3), (4, .int x4)] → W p l e (headSpec (Cond.code yX5_readOne cX5_readOne 5 none :: gT) ({ frames := 13, cells := 0, slots := 0, locals := 2600 } : Room)).room s m ([.ref p0, .ref p1, .ref p2, .int p3] : List Value).toArray below meth c H locs 0 0 Q (F0 m 29 ls []) := by
    intro x4 ws H locs ls r_p3 r_x4 hw hl
    refine lv_aload_n hx hb dX5_readOne_29 rfl (lv_at hl 1 rfl) ?_
    refine lv_iconst (v := 1) hx hb dX5_readOne_30 (by decide) ?_
    refine tk_v (va_runV (As := [.int 1]) (rest := []) ⟨hx, hb, hml, hown, hts⟩ (c_X7_refuse l D cy z H.size Ps ws hw.1 p1 1 h_p1 (rl_1.to (by decide))) (cwV 1 hts (gV tw_981 tw_443 tw_444 tw_2 tw_445) rfl rfl rfl (by decide +kernel) ⟨Nat.le_of_ble_eq_true rfl, Nat.le_of_ble_eq_true rfl⟩) (tg_preV hw hK hSD hA (ci := 7) (q := (RX7, TX7, 12)) rfl h_p1 rfl) rfl rfl hl.1 rfl (lv_room (Nat.le_of_ble_eq_true rfl)) dX5_readOne_31 ⟨Nat.le_of_ble_eq_true rfl, Nat.le_of_ble_eq_true rfl⟩) hw hA ⟨by decide, by decide⟩ (fun ws H locs hp_v_18 hw hF9 => ?_)
    obtain ⟨v_19, m_v_19, r_v_19⟩ := (hp_v_18.1)
    refine lv_goto (tgt := 57) hx hb dX5_readOne_34 (by decide) ?_
    exact B57 x4 ws _ _ ls r_p3 r_x4 hw hl
  refine lv_aload_n hx hb dX5_readOne_0 rfl (lv_at hl 1 rfl) ?_
  refine tg_getN (ci := 7) (ts := ty_TAPE) (C := RX7) (T := TX7) (N := 12) hx hb hts inX7 hown hK hw h_p1 rfl rfl 7 (by decide) (hSD.nest tn_96) (fun _ h9 => h9) (ft := vI (-2147483648) 2147483647) rfl dX5_readOne_1 (fun u_20 hv_u_20 m_u_20 => ?_)
  obtain ⟨vu_20, rfl, r_vu_20⟩ := hv_u_20
  refine lv_istore (lv' := [(4, .int vu_20), (0, .ref p0), (1, .ref p1), (2, .ref p2), (3, .int p3)]) hx hb dX5_readOne_4 hl (by decide) rfl (fun ls hl => ?_)
  refine lv_iload hx hb dX5_readOne_6 (lv_at hl 0 rfl) ?_
  refine lv_bipush (v := 40) hx hb dX5_readOne_8 (by decide) ?_
  refine lv_icmp_eq (tgt := 37) hx hb dX5_readOne_10 (by decide) (fun c_10 => ?_) (fun c_10 => ?_)
  · have r_vu_20 : RI vu_20 40 40 := rc_eq1 r_vu_20 rl_40 (ti_eq c_10) (by decide)
    exact B37 vu_20 vu_20 w0 _ _ ls r_p3 (r_vu_20.to (by decide)) (r_vu_20.to (by decide)) m_u_20 hw (lv_sub hl [1, 2, 3, 4, 0] rfl)
  · refine lv_iload hx hb dX5_readOne_13 (lv_at hl 0 rfl) ?_
    refine lv_sipush (v := 146) hx hb dX5_readOne_15 (by decide) ?_
    refine lv_icmp_lt (tgt := 29) hx hb dX5_readOne_18 (by decide) (fun c_18 => ?_) (fun c_18 => ?_)
    · have r_vu_20 : RI vu_20 (-2147483648) 145 := rc_lt1 r_vu_20 rl_146 (ti_lt c_18) (by decide)
      exact B29 vu_20 w0 _ _ ls r_p3 (r_vu_20.to (by decide)) hw (lv_sub hl [1, 2, 3, 4, 0] rfl)
    · have r_vu_20 : RI vu_20 146 2147483647 := rc_le2 rl_146 r_vu_20 (ti_nlt c_18) (by decide)
      refine lv_iload hx hb dX5_readOne_21 (lv_at hl 0 rfl) ?_
      refine lv_sipush (v := 155) hx hb dX5_readOne_23 (by decide) ?_
      refine lv_icmp_le (tgt := 37) hx hb dX5_readOne_26 (by decide) (fun c_26 => ?_) (fun c_26 => ?_)
      · have r_vu_20 : RI vu_20 146 155 := rc_le1 r_vu_20 rl_155 (ti_le c_26) (by decide)
        exact B37 vu_20 vu_20 w0 _ _ ls r_p3 (r_vu_20.to (by decide)) (r_vu_20.to (by decide)) m_u_20 hw (lv_sub hl [1, 2, 3, 4, 0] rfl)
      · have r_vu_20 : RI vu_20 156 2147483647 := rc_lt2 rl_155 r_vu_20 (ti_nle c_26) (by decide)
        exact B29 vu_20 w0 _ _ ls r_p3 (r_vu_20.to (by decide)) hw (lv_sub hl [1, 2, 3, 4, 0] rfl)
abbrev wr_X5_readCond__3 : List (Nat × Nat) := [(5, 3), (5, 4), (7, 5), (7, 6), (7, 7), (7, 8), (7, 9), (7, 10), (7, 11)]
abbrev wa_X5_readCond__3 : List Nat := [21]
set_option maxHeartbeats 4000000 in
set_option maxRecDepth 100000 in
theorem c_X5_readCond__3 (l : Launch) (D : va_G) (cy : Nat → ClassId) (z : Nat → Nat) (sz : Nat) (Ps : PSI) (w0 : va_W) (hT : HT cy GG Ps w0) (p0 : Nat) (p1 : Nat) (p2 : Nat) (p3 : Int32) (h_p0 : (p0, 32) ∈ Ps) (h_p1 : (p1, 26) ∈ Ps) (h_p2 : (p2, 25) ∈ Ps) (r_p3 : RI p3 4 4) : Met l yX5_readCond (Cond.code yX5_readCond cX5_readCond 7 none :: gT) ({ frames := 14, cells := 0, slots := 0, locals := 2800 } : Room) (va_Pc [.ref p0, .ref p1, .ref p2, .int p3] (PRE D cy z w0 sz)) (va_Qv (fun (u : va_W) => (True) ∧ HT cy GG Ps u ∧ FR wr_X5_readCond__3 wa_X5_readCond__3 Ps w0 u) (BB D cy (va_A w0 sz) (fun (u : va_W) => u)) (va_A w0 sz)) 0 0 (va_A w0 sz) := by
  refine Met.ofW (cc := cX5_readCond) (maxL := 7) (ret := none) (by decide) rfl ?_
  intro p e s m args below meth c s₁ B hml hv
  obtain ⟨rfl, hsz, hP, hK, hD0, hSD⟩ := hv
  have hx := B.exec
  have hb := B.bytes
  have hr := B.returns
  have hlocks := B.notSynchronized
  have hts : ∀ w ∈ gT, w.before _ s = true := fun w h => atoms_spec (ws := Cond.code yX5_readCond cX5_readCond 7 none :: gT) B.pre w (List.mem_cons_of_mem _ h)
  have hown : s.vm.findClass RX5 = some m.cls := findClass_of_methodNamed B.named
  subst hsz
  have hD := hD0.self (sz := s.heap.size)
  generalize hAe : va_A w0 s.heap.size = A at hD hSD ⊢
  have hA : ∀ q : Nat, s.heap.size ≤ q → A q := fun q h => by rw [← hAe]; exact Or.inr h
  have hl := lv_entry ([.ref p0, .ref p1, .ref p2, .int p3]) (n := 7) (Nat.le_of_ble_eq_true rfl)
  rw [lg_entry_eq]
  generalize (lg_sl ([.ref p0, .ref p1, .ref p2, .int p3]) ++ List.replicate (7 - (lg_sl ([.ref p0, .ref p1, .ref p2, .int p3])).length) Slot.unset).toArray = ls at hl ⊢
  have hl : lv_has ls 7 [(0, .ref p0), (1, .ref p1), (2, .ref p2), (3, .int p3)] := hl
  refine nameQ (fun Q hQ => ?_)
  have hw : WD D cy GG A s wr_X5_readCond__3 wa_X5_readCond__3 Ps w0 Ps w0 s.heap [] := ⟨hT, hP, hD, va_S.rf, FR.rf, hT.1, [], (List.append_nil _).symm⟩
  have B106 : ∀ (x4 : Int32) (x5 : Int32) (ws : va_W) (H : Heap) (locs : List Loc) (ls : Array Slot), RI p3 4 4 → RI x4 (-2147483648) 2147483647 → RI x5 0 21 → WD D cy GG A s wr_X5_readCond__3 wa_X5_readCond__3 Ps w0 Ps ws H locs → lv_has ls 7 [(0, .ref p0), (1, .ref p1), (2, .ref p2), (3, .int p3), (4, .int x4), (5, .int x5)] → W p l e (headSpec (Cond.code yX5_readCond cX5_readCond 7 none :: gT) ({ frames := 14, cells := 0, slots := 0, locals := 2800 } : Room)).room s m ([.ref p0, .ref p1, .ref p2, .int p3] : List Value).toArray below meth c H locs 0 0 Q (F0 m 106 ls []) := by
    intro x4 x5 ws H locs ls r_p3 r_x4 r_x5 hw hl
    refine lv_iload hx hb dX5_readCond_106 (lv_at hl 4 rfl) ?_
    refine lv_if_eq (tgt := 120) hx hb dX5_readCond_108 (by decide) (fun c_108 => ?_) (fun c_108 => ?_)
    · have r_x4 : RI x4 0 0 := rc_eq1 r_x4 rl_0 (ti_eq c_108) (by decide)
      subst hQ
      exact W.vret hx hb hr (fun t ht hW => ⟨⟨ws, rfl, ⟨trivial, hw.1, hw.2.2.2.2.1⟩, by rw [ht]; exact hw.2.1, va_K.moved hW.alike hK, hw.2.2.1⟩, hw.2.2.2.1.F ht⟩) hw.2.2.2.1.2.2 dX5_readCond_120
    · refine lv_aload_n hx hb dX5_readCond_111 rfl (lv_at hl 0 rfl) ?_
      refine lv_sipush (v := 144) hx hb dX5_readCond_112 (by decide) ?_
      refine lv_iconst (v := 0) hx hb dX5_readCond_115 (by decide) ?_
      refine lv_iconst (v := 0) hx hb dX5_readCond_116 (by decide) ?_
      refine tk_v (va_runV (As := [.int 144, .int 0, .int 0]) (rest := []) ⟨hx, hb, hml, hown, hts⟩ (c_X5_addStep l D cy z H.size Ps ws hw.1 p0 144 0 0 h_p0 (rl_144.to (by decide)) (rl_0.to (by decide)) (rl_0.to (by decide))) (cwV 3 hts (gV tw_983 tw_985 ts_33 tw_23 tw_986) rfl rfl rfl (by decide +kernel) ⟨Nat.le_of_ble_eq_true rfl, Nat.le_of_ble_eq_true rfl⟩) (tg_preV hw hK hSD hA (ci := 5) (q := (RX5, TX5, 5)) rfl h_p0 rfl) rfl rfl hl.1 rfl (lv_room (Nat.le_of_ble_eq_true rfl)) dX5_readCond_117 ⟨Nat.le_of_ble_eq_true rfl, Nat.le_of_ble_eq_true rfl⟩) hw hA ⟨by decide, by decide⟩ (fun ws H locs hp_v_1 hw hF9 => ?_)
      obtain ⟨v_2, m_v_2, r_v_2⟩ := (hp_v_1.1)
      subst hQ
      exact W.vret hx hb hr (fun t ht hW => ⟨⟨ws, rfl, ⟨trivial, hw.1, hw.2.2.2.2.1⟩, by rw [ht]; exact hw.2.1, va_K.moved hW.alike hK, hw.2.2.1⟩, hw.2.2.2.1.F ht⟩) hw.2.2.2.1.2.2 dX5_readCond_120
  have B13 : ∀ (nf : Nat) (x4 : Int32) (x5 : Int32) (ws : va_W) (H : Heap) (locs : List Loc) (ls : Array Slot), 20 - x5.toInt < (nf : Int) → RI p3 4 4 → RI x4 (-2147483648) 2147483647 → RI x5 0 20 → WD D cy GG A s wr_X5_readCond__3 wa_X5_readCond__3 Ps w0 Ps ws H locs → lv_has ls 7 [(0, .ref p0), (1, .ref p1), (2, .ref p2), (3, .int p3), (4, .int x4), (5, .int x5)] → W p l e (headSpec (Cond.code yX5_readCond cX5_readCond 7 none :: gT) ({ frames := 14, cells := 0, slots := 0, locals := 2800 } : Room)).room s m ([.ref p0, .ref p1, .ref p2, .int p3] : List Value).toArray below meth c H locs 0 0 Q (F0 m 13 ls []) := by
    intro nf13
    induction nf13 with
    | zero =>
      intro x4 x5 ws H locs ls hn13 r_p3 r_x4 r_x5 hw hl
      exact absurd hn13 (by have q0 := r_x5.1; have u0 := r_x5.2; omega)
    | succ nf13 ih13 =>
      have B72 : ∀ (x4 : Int32) (x5 : Int32) (x6 : Int32) (ws : va_W) (H : Heap) (locs : List Loc) (ls : Array Slot), RI p3 4 4 → RI x4 (-2147483648) 2147483647 → RI x5 0 19 → RI x6 0 1 → 20 - x5.toInt < ((nf13 + 1 : Nat) : Int) → WD D cy GG A s wr_X5_readCond__3 wa_X5_readCond__3 Ps w0 Ps ws H locs → lv_has ls 7 [(0, .ref p0), (1, .ref p1), (2, .ref p2), (3, .int p3), (4, .int x4), (5, .int x5), (6, .int x6)] → W p l e (headSpec (Cond.code yX5_readCond cX5_readCond 7 none :: gT) ({ frames := 14, cells := 0, slots := 0, locals := 2800 } : Room)).room s m ([.ref p0, .ref p1, .ref p2, .int p3] : List Value).toArray below meth c H locs 0 0 Q (F0 m 72 ls []) := by
        intro x4 x5 x6 ws H locs ls r_p3 r_x4 r_x5 r_x6 hn13 hw hl
        refine lv_iload hx hb dX5_readCond_72 (lv_at hl 4 rfl) ?_
        refine lv_iload hx hb dX5_readCond_74 (lv_at hl 6 rfl) ?_
        refine lv_ior hx hb dX5_readCond_76 (lv_topi (fun v_3 e_v_3 => ?_))
        have r_v_3 := ri_any v_3
        refine lv_istore (lv' := [(4, .int v_3), (0, .ref p0), (1, .ref p1), (2, .ref p2), (3, .int p3), (5, .int x5), (6, .int x6)]) hx hb dX5_readCond_77 hl (by decide) rfl (fun ls hl => ?_)
        refine lv_aload_n hx hb dX5_readCond_79 rfl (lv_at hl 1 rfl) ?_
        refine lv_aload_n hx hb dX5_readCond_80 rfl (lv_at hl 2 rfl) ?_
        refine lv_aload_n hx hb dX5_readCond_81 rfl (lv_at hl 3 rfl) ?_
        refine lv_iload_n hx hb dX5_readCond_82 rfl (lv_at hl 4 rfl) ?_
        refine tk_v (va_runV (As := [.ref p1, .ref p2, .int p3]) (rest := []) ⟨hx, hb, hml, hown, hts⟩ (c_X5_readOne__3 l D cy z H.size Ps ws hw.1 p0 p1 p2 p3 h_p0 h_p1 h_p2 r_p3) (cwV 3 hts (gV tw_977 tw_979 ts_32 tw_23 tw_980) rfl rfl rfl (by decide +kernel) ⟨Nat.le_of_ble_eq_true rfl, Nat.le_of_ble_eq_true rfl⟩) (tg_preV hw hK hSD hA (ci := 5) (q := (RX5, TX5, 5)) rfl h_p0 rfl) rfl rfl hl.1 rfl (lv_room (Nat.le_of_ble_eq_true rfl)) dX5_readCond_83 ⟨Nat.le_of_ble_eq_true rfl, Nat.le_of_ble_eq_true rfl⟩) hw hA ⟨by decide, by decide⟩ (fun ws H locs hp_v_4 hw hF9 => ?_)
        refine lv_iload hx hb dX5_readCond_86 (lv_at hl 6 rfl) ?_
        refine lv_if_ne (tgt := 100) hx hb dX5_readCond_88 (by decide) (fun c_88 => ?_) (fun c_88 => ?_)
        · have r_x6 : RI x6 1 1 := rc_neL r_x6 rl_0 (ti_ne c_88) (by decide)
          obtain ⟨v_5, e_v_5⟩ : ∃ q9 : Int32, q9 = x5 + Int32.ofInt 1 := ⟨_, rfl⟩
          obtain ⟨t_v_5, r_v_5⟩ := tq_add (lo := 1) (hi := 20) r_x5 (show RI (Int32.ofInt 1) 1 1 by unfold RI; decide +kernel) (by decide +kernel) e_v_5
          have t_v_5 : v_5.toInt = x5.toInt + 1 := t_v_5
          refine lv_iinc (v := v_5) (lv' := [(5, .int v_5), (4, .int v_3), (0, .ref p0), (1, .ref p1), (2, .ref p2), (3, .int p3), (6, .int x6)]) hx hb dX5_readCond_100 hl (k := 5) rfl e_v_5.symm (by decide) rfl (fun ls hl => ?_)
          refine lv_goto (tgt := 13) hx hb dX5_readCond_103 (by decide) ?_
          exact ih13 v_3 v_5 ws _ _ ls (by have q0 := r_v_5.1; have u0 := r_v_5.2; have o0 := r_x5.1; have p0 := r_x5.2; omega) r_p3 r_v_3 (r_v_5.to (by decide)) hw (lv_sub hl [2, 3, 4, 5, 1, 0] rfl)
        · have r_x6 : RI x6 0 0 := rc_eq1 r_x6 rl_0 (ti_eq c_88) (by decide)
          refine lv_aload_n hx hb dX5_readCond_91 rfl (lv_at hl 1 rfl) ?_
          refine lv_sipush (v := 145) hx hb dX5_readCond_92 (by decide) ?_
          refine lv_iconst (v := 0) hx hb dX5_readCond_95 (by decide) ?_
          refine lv_iconst (v := 0) hx hb dX5_readCond_96 (by decide) ?_
          refine tk_v (va_runV (As := [.int 145, .int 0, .int 0]) (rest := []) ⟨hx, hb, hml, hown, hts⟩ (c_X5_addStep l D cy z H.size Ps ws hw.1 p0 145 0 0 h_p0 (rl_145.to (by decide)) (rl_0.to (by decide)) (rl_0.to (by decide))) (cwV 3 hts (gV tw_983 tw_985 ts_33 tw_23 tw_986) rfl rfl rfl (by decide +kernel) ⟨Nat.le_of_ble_eq_true rfl, Nat.le_of_ble_eq_true rfl⟩) (tg_preV hw hK hSD hA (ci := 5) (q := (RX5, TX5, 5)) rfl h_p0 rfl) rfl rfl hl.1 rfl (lv_room (Nat.le_of_ble_eq_true rfl)) dX5_readCond_97 ⟨Nat.le_of_ble_eq_true rfl, Nat.le_of_ble_eq_true rfl⟩) hw hA ⟨by decide, by decide⟩ (fun ws H locs hp_v_6 hw hF9 => ?_)
          obtain ⟨v_7, m_v_7, r_v_7⟩ := (hp_v_6.1)
          obtain ⟨v_8, e_v_8⟩ : ∃ q9 : Int32, q9 = x5 + Int32.ofInt 1 := ⟨_, rfl⟩
          obtain ⟨t_v_8, r_v_8⟩ := tq_add (lo := 1) (hi := 20) r_x5 (show RI (Int32.ofInt 1) 1 1 by unfold RI; decide +kernel) (by decide +kernel) e_v_8
          have t_v_8 : v_8.toInt = x5.toInt + 1 := t_v_8
          refine lv_iinc (v := v_8) (lv' := [(5, .int v_8), (4, .int v_3), (0, .ref p0), (1, .ref p1), (2, .ref p2), (3, .int p3), (6, .int x6)]) hx hb dX5_readCond_100 hl (k := 5) rfl e_v_8.symm (by decide) rfl (fun ls hl => ?_)
          refine lv_goto (tgt := 13) hx hb dX5_readCond_103 (by decide) ?_
          exact ih13 v_3 v_8 ws _ _ ls (by have q0 := r_v_8.1; have u0 := r_v_8.2; have o0 := r_x5.1; have p0 := r_x5.2; omega) r_p3 r_v_3 (r_v_8.to (by decide)) hw (lv_sub hl [2, 3, 4, 5, 1, 0] rfl)
      have B40 : ∀ (x4 : Int32) (x5 : Int32) (ws : va_W) (H : Heap) (locs : List Loc) (ls : Array Slot), RI p3 4 4 → RI x4 (-2147483648) 2147483647 → RI x5 0 19 → 20 - x5.toInt < ((nf13 + 1 : Nat) : Int) → WD D cy GG A s wr_X5_readCond__3 wa_X5_readCond__3 Ps w0 Ps ws H locs → lv_has ls 7 [(0, .ref p0), (1, .ref p1), (2, .ref p2), (3, .int p3), (4, .int x4), (5, .int x5)] → W p l e (headSpec (Cond.code yX5_readCond cX5_readCond 7 none :: gT) ({ frames := 14, cells := 0, slots := 0, locals := 2800 } : Room)).room s m ([.ref p0, .ref p1, .ref p2, .int p3] : List Value).toArray below meth c H locs 0 0 Q (F0 m 40 ls []) := by
        intro x4 x5 ws H locs ls r_p3 r_x4 r_x5 hn13 hw hl
        refine lv_aload_n hx hb dX5_readCond_40 rfl (lv_at hl 1 rfl) ?_
        refine lv_sipush (v := 144) hx hb dX5_readCond_41 (by decide) ?_
        refine tk_ir (va_runV (As := [.int 144]) (rest := []) ⟨hx, hb, hml, hown, hts⟩ (c_X7_sees l D cy z H.size Ps ws hw.1 p1 144 h_p1 (rl_144.to (by decide))) (cwV 1 hts (gV tw_994 tw_995 tw_996 tw_2 tw_997) rfl rfl rfl (by decide +kernel) ⟨Nat.le_of_ble_eq_true rfl, Nat.le_of_ble_eq_true rfl⟩) (tg_preV hw hK hSD hA (ci := 7) (q := (RX7, TX7, 12)) rfl h_p1 rfl) rfl rfl hl.1 rfl (lv_room (Nat.le_of_ble_eq_true rfl)) dX5_readCond_44 ⟨Nat.le_of_ble_eq_true rfl, Nat.le_of_ble_eq_true rfl⟩) hw hA (fun v_9  H locs hp_v_9 hw => ?_)
        have r_v_9 : RI v_9 0 1 := hp_v_9.1
        refine lv_istore (lv' := [(6, .int v_9), (0, .ref p0), (1, .ref p1), (2, .ref p2), (3, .int p3), (4, .int x4), (5, .int x5)]) hx hb dX5_readCond_47 hl (by decide) rfl (fun ls hl => ?_)
        refine lv_aload_n hx hb dX5_readCond_49 rfl (lv_at hl 2 rfl) ?_
        refine tk_v (va_runV (As := []) (rest := []) ⟨hx, hb, hml, hown, hts⟩ (c_X7_pass l D cy z H.size Ps ws hw.1 p1 h_p1) (cwV 0 hts (gV tw_982 tw_425 tw_426 tw_2 tw_427) rfl rfl rfl (by decide +kernel) ⟨Nat.le_of_ble_eq_true rfl, Nat.le_of_ble_eq_true rfl⟩) (tg_preV hw hK hSD hA (ci := 7) (q := (RX7, TX7, 12)) rfl h_p1 rfl) rfl rfl hl.1 rfl (lv_room (Nat.le_of_ble_eq_true rfl)) dX5_readCond_50 ⟨Nat.le_of_ble_eq_true rfl, Nat.le_of_ble_eq_true rfl⟩) hw hA ⟨by decide, by decide⟩ (fun ws H locs hp_v_10 hw hF9 => ?_)
        refine lv_iload hx hb dX5_readCond_53 (lv_at hl 0 rfl) ?_
        refine lv_if_eq (tgt := 72) hx hb dX5_readCond_55 (by decide) (fun c_55 => ?_) (fun c_55 => ?_)
        · have r_v_9 : RI v_9 0 0 := rc_eq1 r_v_9 rl_0 (ti_eq c_55) (by decide)
          exact B72 x4 x5 v_9 ws _ _ ls r_p3 r_x4 r_x5 (r_v_9.to (by decide)) (by have q0 := r_x5.1; have u0 := r_x5.2; omega) hw (lv_sub hl [1, 2, 3, 4, 5, 6, 0] rfl)
        · have r_v_9 : RI v_9 1 1 := rc_neL r_v_9 rl_0 (ti_ne c_55) (by decide)
          refine lv_iload hx hb dX5_readCond_58 (lv_at hl 5 rfl) ?_
          refine lv_if_eq (tgt := 72) hx hb dX5_readCond_60 (by decide) (fun c_60 => ?_) (fun c_60 => ?_)
          · have r_x4 : RI x4 0 0 := rc_eq1 r_x4 rl_0 (ti_eq c_60) (by decide)
            exact B72 x4 x5 v_9 ws _ _ ls r_p3 (r_x4.to (by decide)) r_x5 (r_v_9.to (by decide)) (by have q0 := r_x5.1; have u0 := r_x5.2; omega) hw (lv_sub hl [1, 2, 3, 4, 5, 6, 0] rfl)
          · refine lv_aload_n hx hb dX5_readCond_63 rfl (lv_at hl 1 rfl) ?_
            refine lv_sipush (v := 144) hx hb dX5_readCond_64 (by decide) ?_
            refine lv_iconst (v := 0) hx hb dX5_readCond_67 (by decide) ?_
            refine lv_iconst (v := 0) hx hb dX5_readCond_68 (by decide) ?_
            refine tk_v (va_runV (As := [.int 144, .int 0, .int 0]) (rest := []) ⟨hx, hb, hml, hown, hts⟩ (c_X5_addStep l D cy z H.size Ps ws hw.1 p0 144 0 0 h_p0 (rl_144.to (by decide)) (rl_0.to (by decide)) (rl_0.to (by decide))) (cwV 3 hts (gV tw_983 tw_985 ts_33 tw_23 tw_986) rfl rfl rfl (by decide +kernel) ⟨Nat.le_of_ble_eq_true rfl, Nat.le_of_ble_eq_true rfl⟩) (tg_preV hw hK hSD hA (ci := 5) (q := (RX5, TX5, 5)) rfl h_p0 rfl) rfl rfl hl.1 rfl (lv_room (Nat.le_of_ble_eq_true rfl)) dX5_readCond_69 ⟨Nat.le_of_ble_eq_true rfl, Nat.le_of_ble_eq_true rfl⟩) hw hA ⟨by decide, by decide⟩ (fun ws H locs hp_v_11 hw hF9 => ?_)
            obtain ⟨v_12, m_v_12, r_v_12⟩ := (hp_v_11.1)
            exact B72 x4 x5 v_9 ws _ _ ls r_p3 r_x4 r_x5 (r_v_9.to (by decide)) (by have q0 := r_x5.1; have u0 := r_x5.2; omega) hw (lv_sub hl [1, 2, 3, 4, 5, 6, 0] rfl)
      intro x4 x5 ws H locs ls hn13 r_p3 r_x4 r_x5 hw hl
      refine lv_iload hx hb dX5_readCond_13 (lv_at hl 5 rfl) ?_
      refine lv_bipush (v := 20) hx hb dX5_readCond_15 (by decide) ?_
      refine lv_icmp_ge (tgt := 106) hx hb dX5_readCond_17 (by decide) (fun c_17 => ?_) (fun c_17 => ?_)
      · have r_x5 : RI x5 20 20 := rc_le2 rl_20 r_x5 (ti_le c_17) (by decide)
        exact B106 x4 x5 ws _ _ ls r_p3 r_x4 (r_x5.to (by decide)) hw hl
      · have r_x5 : RI x5 0 19 := rc_lt1 r_x5 rl_20 (ti_nle c_17) (by decide)
        refine lv_aload_n hx hb dX5_readCond_20 rfl (lv_at hl 1 rfl) ?_
        refine lv_sipush (v := 144) hx hb dX5_readCond_21 (by decide) ?_
        refine tk_ir (va_runV (As := [.int 144]) (rest := []) ⟨hx, hb, hml, hown, hts⟩ (c_X7_sees l D cy z H.size Ps ws hw.1 p1 144 h_p1 (rl_144.to (by decide))) (cwV 1 hts (gV tw_994 tw_995 tw_996 tw_2 tw_997) rfl rfl rfl (by decide +kernel) ⟨Nat.le_of_ble_eq_true rfl, Nat.le_of_ble_eq_true rfl⟩) (tg_preV hw hK hSD hA (ci := 7) (q := (RX7, TX7, 12)) rfl h_p1 rfl) rfl rfl hl.1 rfl (lv_room (Nat.le_of_ble_eq_true rfl)) dX5_readCond_24 ⟨Nat.le_of_ble_eq_true rfl, Nat.le_of_ble_eq_true rfl⟩) hw hA (fun v_13  H locs hp_v_13 hw => ?_)
        have r_v_13 : RI v_13 0 1 := hp_v_13.1
        refine lv_if_ne (tgt := 40) hx hb dX5_readCond_27 (by decide) (fun c_27 => ?_) (fun c_27 => ?_)
        · have r_v_13 : RI v_13 1 1 := rc_neL r_v_13 rl_0 (ti_ne c_27) (by decide)
          exact B40 x4 x5 ws _ _ ls r_p3 r_x4 r_x5 (by have q0 := r_x5.1; have u0 := r_x5.2; omega) hw hl
        · have r_v_13 : RI v_13 0 0 := rc_eq1 r_v_13 rl_0 (ti_eq c_27) (by decide)
          refine lv_aload_n hx hb dX5_readCond_30 rfl (lv_at hl 1 rfl) ?_
          refine lv_sipush (v := 145) hx hb dX5_readCond_31 (by decide) ?_
          refine tk_ir (va_runV (As := [.int 145]) (rest := []) ⟨hx, hb, hml, hown, hts⟩ (c_X7_sees l D cy z H.size Ps ws hw.1 p1 145 h_p1 (rl_145.to (by decide))) (cwV 1 hts (gV tw_994 tw_995 tw_996 tw_2 tw_997) rfl rfl rfl (by decide +kernel) ⟨Nat.le_of_ble_eq_true rfl, Nat.le_of_ble_eq_true rfl⟩) (tg_preV hw hK hSD hA (ci := 7) (q := (RX7, TX7, 12)) rfl h_p1 rfl) rfl rfl hl.1 rfl (lv_room (Nat.le_of_ble_eq_true rfl)) dX5_readCond_34 ⟨Nat.le_of_ble_eq_true rfl, Nat.le_of_ble_eq_true rfl⟩) hw hA (fun v_14  H locs hp_v_14 hw => ?_)
          have r_v_14 : RI v_14 0 1 := hp_v_14.1
          refine lv_if_eq (tgt := 106) hx hb dX5_readCond_37 (by decide) (fun c_37 => ?_) (fun c_37 => ?_)
          · have r_v_14 : RI v_14 0 0 := rc_eq1 r_v_14 rl_0 (ti_eq c_37) (by decide)
            exact B106 x4 x5 ws _ _ ls r_p3 r_x4 (r_x5.to (by decide)) hw hl
          · have r_v_14 : RI v_14 1 1 := rc_neL r_v_14 rl_0 (ti_ne c_37) (by decide)
            exact B40 x4 x5 ws _ _ ls r_p3 r_x4 r_x5 (by have q0 := r_x5.1; have u0 := r_x5.2; omega) hw hl
  refine lv_iconst (v := 0) hx hb dX5_readCond_0 (by decide) ?_
  refine lv_istore (lv' := [(4, .int 0), (0, .ref p0), (1, .ref p1), (2, .ref p2), (3, .int p3)]) hx hb dX5_readCond_1 hl (by decide) rfl (fun ls hl => ?_)
  refine lv_aload_n hx hb dX5_readCond_3 rfl (lv_at hl 1 rfl) ?_
  refine lv_aload_n hx hb dX5_readCond_4 rfl (lv_at hl 2 rfl) ?_
  refine lv_aload_n hx hb dX5_readCond_5 rfl (lv_at hl 3 rfl) ?_
  refine lv_iload_n hx hb dX5_readCond_6 rfl (lv_at hl 4 rfl) ?_
  refine tk_v (va_runV (As := [.ref p1, .ref p2, .int p3]) (rest := []) ⟨hx, hb, hml, hown, hts⟩ (c_X5_readOne__3 l D cy z s.heap.size Ps w0 hw.1 p0 p1 p2 p3 h_p0 h_p1 h_p2 r_p3) (cwV 3 hts (gV tw_977 tw_979 ts_32 tw_23 tw_980) rfl rfl rfl (by decide +kernel) ⟨Nat.le_of_ble_eq_true rfl, Nat.le_of_ble_eq_true rfl⟩) (tg_preV hw hK hSD hA (ci := 5) (q := (RX5, TX5, 5)) rfl h_p0 rfl) rfl rfl hl.1 rfl (lv_room (Nat.le_of_ble_eq_true rfl)) dX5_readCond_7 ⟨Nat.le_of_ble_eq_true rfl, Nat.le_of_ble_eq_true rfl⟩) hw hA ⟨by decide, by decide⟩ (fun ws H locs hp_v_15 hw hF9 => ?_)
  refine lv_iconst (v := 0) hx hb dX5_readCond_10 (by decide) ?_
  refine lv_istore (lv' := [(5, .int 0), (4, .int 0), (0, .ref p0), (1, .ref p1), (2, .ref p2), (3, .int p3)]) hx hb dX5_readCond_11 hl (by decide) rfl (fun ls hl => ?_)
  exact B13 4294967298 0 0 ws _ _ ls (by have q0 := rl_0.1; have u0 := rl_0.2; omega) r_p3 (rl_0.to (by decide)) (rl_0.to (by decide)) hw (lv_sub hl [2, 3, 4, 5, 1, 0] rfl)
abbrev wr_X5_readOne__2 : List (Nat × Nat) := [(5, 3), (5, 4), (7, 5), (7, 6), (7, 7), (7, 8), (7, 9), (7, 10), (7, 11)]
abbrev wa_X5_readOne__2 : List Nat := [21]
set_option maxHeartbeats 4000000 in
set_option maxRecDepth 100000 in
theorem c_X5_readOne__2 (l : Launch) (D : va_G) (cy : Nat → ClassId) (z : Nat → Nat) (sz : Nat) (Ps : PSI) (w0 : va_W) (hT : HT cy GG Ps w0) (p0 : Nat) (p1 : Nat) (p2 : Nat) (p3 : Int32) (h_p0 : (p0, 32) ∈ Ps) (h_p1 : (p1, 26) ∈ Ps) (h_p2 : (p2, 25) ∈ Ps) (r_p3 : RI p3 3 3) : Met l yX5_readOne (Cond.code yX5_readOne cX5_readOne 5 none :: gT) ({ frames := 15, cells := 0, slots := 0, locals := 3000 } : Room) (va_Pc [.ref p0, .ref p1, .ref p2, .int p3] (PRE D cy z w0 sz)) (va_Qv (fun (u : va_W) => (True) ∧ HT cy GG Ps u ∧ FR wr_X5_readOne__2 wa_X5_readOne__2 Ps w0 u) (BB D cy (va_A w0 sz) (fun (u : va_W) => u)) (va_A w0 sz)) 0 0 (va_A w0 sz) := by
  refine Met.ofW (cc := cX5_readOne) (maxL := 5) (ret := none) (by decide) rfl ?_
  intro p e s m args below meth c s₁ B hml hv
  obtain ⟨rfl, hsz, hP, hK, hD0, hSD⟩ := hv
  have hx := B.exec
  have hb := B.bytes
  have hr := B.returns
  have hlocks := B.notSynchronized
  have hts : ∀ w ∈ gT, w.before _ s = true := fun w h => atoms_spec (ws := Cond.code yX5_readOne cX5_readOne 5 none :: gT) B.pre w (List.mem_cons_of_mem _ h)
  have hown : s.vm.findClass RX5 = some m.cls := findClass_of_methodNamed B.named
  subst hsz
  have hD := hD0.self (sz := s.heap.size)
  generalize hAe : va_A w0 s.heap.size = A at hD hSD ⊢
  have hA : ∀ q : Nat, s.heap.size ≤ q → A q := fun q h => by rw [← hAe]; exact Or.inr h
  have hl := lv_entry ([.ref p0, .ref p1, .ref p2, .int p3]) (n := 5) (Nat.le_of_ble_eq_true rfl)
  rw [lg_entry_eq]
  generalize (lg_sl ([.ref p0, .ref p1, .ref p2, .int p3]) ++ List.replicate (5 - (lg_sl ([.ref p0, .ref p1, .ref p2, .int p3])).length) Slot.unset).toArray = ls at hl ⊢
  have hl : lv_has ls 5 [(0, .ref p0), (1, .ref p1), (2, .ref p2), (3, .int p3)] := hl
  refine nameQ (fun Q hQ => ?_)
  have hw : WD D cy GG A s wr_X5_readOne__2 wa_X5_readOne__2 Ps w0 Ps w0 s.heap [] := ⟨hT, hP, hD, va_S.rf, FR.rf, hT.1, [], (List.append_nil _).symm⟩
  have B57 : ∀ (x4 : Int32) (ws : va_W) (H : Heap) (locs : List Loc) (ls : Array Slot), RI p3 3 3 → RI x4 (-2147483648) 2147483647 → WD D cy GG A s wr_X5_readOne__2 wa_X5_readOne__2 Ps w0 Ps ws H locs → lv_has ls 5 [(0, .ref p0), (1, .ref p1), (2, .ref p2), (3, .int p3), (4, .int x4)] → W p l e (headSpec (Cond.code yX5_readOne cX5_readOne 5 none :: gT) ({ frames := 15, cells := 0, slots := 0, locals := 3000 } : Room)).room s m ([.ref p0, .ref p1, .ref p2, .int p3] : List Value).toArray below meth c H locs 0 0 Q (F0 m 57 ls []) := by
    intro x4 ws H locs ls r_p3 r_x4 hw hl
    refine lv_aload_n hx hb dX5_readOne_57 rfl (lv_at hl 1 rfl) ?_
    refine tg_getN (ci := 7) (ts := ty_TAPE) (C := RX7) (T := TX7) (N := 12) hx hb hts inX7 hown hK hw h_p1 rfl rfl 10 (by decide) (hSD.nest tn_103) (fun _ h9 => h9) (ft := vI 0 4) rfl dX5_readOne_58 (fun u_1 hv_u_1 m_u_1 => ?_)
    obtain ⟨vu_1, rfl, r_vu_1⟩ := hv_u_1
    refine lv_if_eq (tgt := 65) hx hb dX5_readOne_61 (by decide) (fun c_61 => ?_) (fun c_61 => ?_)
    · have r_vu_1 : RI vu_1 0 0 := rc_eq1 r_vu_1 rl_0 (ti_eq c_61) (by decide)
      refine lv_aload_n hx hb dX5_readOne_65 rfl (lv_at hl 1 rfl) ?_
      refine tk_v (va_runV (As := []) (rest := []) ⟨hx, hb, hml, hown, hts⟩ (c_X7_pass l D cy z H.size Ps ws hw.1 p1 h_p1) (cwV 0 hts (gV tw_982 tw_425 tw_426 tw_2 tw_427) rfl rfl rfl (by decide +kernel) ⟨Nat.le_of_ble_eq_true rfl, Nat.le_of_ble_eq_true rfl⟩) (tg_preV hw hK hSD hA (ci := 7) (q := (RX7, TX7, 12)) rfl h_p1 rfl) rfl rfl hl.1 rfl (lv_room (Nat.le_of_ble_eq_true rfl)) dX5_readOne_66 ⟨Nat.le_of_ble_eq_true rfl, Nat.le_of_ble_eq_true rfl⟩) hw hA ⟨by decide, by decide⟩ (fun ws H locs hp_v_2 hw hF9 => ?_)
      have m_u_1 := FLD.over hF9 m_u_1 (by decide)
      refine lv_aload_n hx hb dX5_readOne_69 rfl (lv_at hl 0 rfl) ?_
      refine lv_dup hx hb dX5_readOne_70 rfl ?_
      refine tg_get (ci := 5) (ts := ty_SENT) (C := RX5) (T := TX5) (N := 5) hx hb hts inX5 hown hK hw h_p0 rfl rfl 4 (by decide) (hts _ tw_955) (fun _ h9 => h9) (ft := vI (-2147483648) 2147483647) rfl dX5_readOne_71 (fun u_3 hv_u_3 m_u_3 => ?_)
      obtain ⟨vu_3, rfl, r_vu_3⟩ := hv_u_3
      refine lv_iconst (v := 1) hx hb dX5_readOne_74 (by decide) ?_
      refine lv_iadd hx hb dX5_readOne_75 (lv_topi (fun v_4 e_v_4 => ?_))
      have r_v_4 := ri_any v_4
      refine tg_put (ci := 5) (ts := ty_SENT) (v := .int v_4) (ty := .int) (C := RX5) (T := TX5) (N := 5) hx hb hts inX5 tyX5 tyX5_ok nmX5 hown hK hw h_p0 rfl rfl 4 (by decide) (hts _ tw_955) (fun _ h9 => h9) rfl (by decide +kernel) rfl rfl (ft := vI (-2147483648) 2147483647) rfl ⟨_, rfl, r_v_4⟩ (by decide) dX5_readOne_76 (fun ws H locs hw n_k_5 hF9 => ?_)
      have m_u_1 := FLD.over hF9 m_u_1 (by decide)
      refine lv_iload hx hb dX5_readOne_79 (lv_at hl 4 rfl) ?_
      refine lv_sipush (v := 146) hx hb dX5_readOne_81 (by decide) ?_
      refine lv_icmp_ne (tgt := 108) hx hb dX5_readOne_84 (by decide) (fun c_84 => ?_) (fun c_84 => ?_)
      · refine lv_iload hx hb dX5_readOne_108 (lv_at hl 4 rfl) ?_
        refine lv_bipush (v := 40) hx hb dX5_readOne_110 (by decide) ?_
        refine lv_icmp_ne (tgt := 133) hx hb dX5_readOne_112 (by decide) (fun c_112 => ?_) (fun c_112 => ?_)
        · refine lv_aload_n hx hb dX5_readOne_133 rfl (lv_at hl 0 rfl) ?_
          refine lv_aload_n hx hb dX5_readOne_134 rfl (lv_at hl 1 rfl) ?_
          refine lv_aload_n hx hb dX5_readOne_135 rfl (lv_at hl 2 rfl) ?_
          refine lv_iload hx hb dX5_readOne_136 (lv_at hl 4 rfl) ?_
          refine tk_v (va_runV (As := [.ref p1, .ref p2, .int x4]) (rest := []) ⟨hx, hb, hml, hown, hts⟩ (c_X5_readPlain l D cy z H.size Ps ws hw.1 p0 p1 p2 x4 h_p0 h_p1 h_p2 r_x4) (cwV 3 hts (gV tw_988 tw_990 ts_34 tw_23 tw_991) rfl rfl rfl (by decide +kernel) ⟨Nat.le_of_ble_eq_true rfl, Nat.le_of_ble_eq_true rfl⟩) (tg_preV hw hK hSD hA (ci := 5) (q := (RX5, TX5, 5)) rfl h_p0 rfl) rfl rfl hl.1 rfl (lv_room (Nat.le_of_ble_eq_true rfl)) dX5_readOne_138 ⟨Nat.le_of_ble_eq_true rfl, Nat.le_of_ble_eq_true rfl⟩) hw hA ⟨by decide, by decide⟩ (fun ws H locs hp_v_6 hw hF9 => ?_)
          have n_k_5 := FLD.over hF9 n_k_5 (by decide)
          obtain ⟨v_7, m_v_7, r_v_7⟩ := (hp_v_6.1)
          subst hQ
          exact W.vret hx hb hr (fun t ht hW => ⟨⟨ws, rfl, ⟨trivial, hw.1, hw.2.2.2.2.1⟩, by rw [ht]; exact hw.2.1, va_K.moved hW.alike hK, hw.2.2.1⟩, hw.2.2.2.1.F ht⟩) hw.2.2.2.1.2.2 dX5_readOne_141
        · have r_x4 : RI x4 40 40 := rc_eq1 r_x4 rl_40 (ti_eq c_112) (by decide)
          refine lv_aload_n hx hb dX5_readOne_115 rfl (lv_at hl 0 rfl) ?_
          refine lv_aload_n hx hb dX5_readOne_116 rfl (lv_at hl 1 rfl) ?_
          refine lv_aload_n hx hb dX5_readOne_117 rfl (lv_at hl 2 rfl) ?_
          refine lv_iload_n hx hb dX5_readOne_118 rfl (lv_at hl 3 rfl) ?_
          refine lv_iconst (v := 1) hx hb dX5_readOne_119 (by decide) ?_
          refine lv_iadd hx hb dX5_readOne_120 (lv_topi (fun v_8 e_v_8 => ?_))
          obtain ⟨t_v_8, r_v_8⟩ := tq_add (lo := 4) (hi := 4) r_p3 rl_1 (by decide +kernel) e_v_8
          have t_v_8 : v_8.toInt = p3.toInt + 1 := t_v_8
          refine tk_v (va_runV (As := [.ref p1, .ref p2, .int v_8]) (rest := []) ⟨hx, hb, hml, hown, hts⟩ (c_X5_readCond__3 l D cy z H.size Ps ws hw.1 p0 p1 p2 v_8 h_p0 h_p1 h_p2 r_v_8) (cwV 3 hts (gV tw_973 tw_975 ts_31 tw_23 tw_976) rfl rfl rfl (by decide +kernel) ⟨Nat.le_of_ble_eq_true rfl, Nat.le_of_ble_eq_true rfl⟩) (tg_preV hw hK hSD hA (ci := 5) (q := (RX5, TX5, 5)) rfl h_p0 rfl) rfl rfl hl.1 rfl (lv_room (Nat.le_of_ble_eq_true rfl)) dX5_readOne_121 ⟨Nat.le_of_ble_eq_true rfl, Nat.le_of_ble_eq_true rfl⟩) hw hA ⟨by decide, by decide⟩ (fun ws H locs hp_v_9 hw hF9 => ?_)
          refine lv_aload_n hx hb dX5_readOne_124 rfl (lv_at hl 1 rfl) ?_
          refine lv_bipush (v := 41) hx hb dX5_readOne_125 (by decide) ?_
          refine tk_v (va_runV (As := [.int 41]) (rest := []) ⟨hx, hb, hml, hown, hts⟩ (c_X7_passOnly l D cy z H.size Ps ws hw.1 p1 41 h_p1 (rl_41.to (by decide))) (cwV 1 hts (gV tw_987 tw_514 tw_515 tw_2 tw_516) rfl rfl rfl (by decide +kernel) ⟨Nat.le_of_ble_eq_true rfl, Nat.le_of_ble_eq_true rfl⟩) (tg_preV hw hK hSD hA (ci := 7) (q := (RX7, TX7, 12)) rfl h_p1 rfl) rfl rfl hl.1 rfl (lv_room (Nat.le_of_ble_eq_true rfl)) dX5_readOne_127 ⟨Nat.le_of_ble_eq_true rfl, Nat.le_of_ble_eq_true rfl⟩) hw hA ⟨by decide, by decide⟩ (fun ws H locs hp_v_10 hw hF9 => ?_)
          refine lv_goto (tgt := 141) hx hb dX5_readOne_130 (by decide) ?_
          subst hQ
          exact W.vret hx hb hr (fun t ht hW => ⟨⟨ws, rfl, ⟨trivial, hw.1, hw.2.2.2.2.1⟩, by rw [ht]; exact hw.2.1, va_K.moved hW.alike hK, hw.2.2.1⟩, hw.2.2.2.1.F ht⟩) hw.2.2.2.1.2.2 dX5_readOne_141
      · have r_x4 : RI x4 146 146 := rc_eq1 r_x4 rl_146 (ti_eq c_84) (by decide)
        refine lv_aload_n hx hb dX5_readOne_87 rfl (lv_at hl 0 rfl) ?_
        refine lv_aload_n hx hb dX5_readOne_88 rfl (lv_at hl 1 rfl) ?_
        refine lv_aload_n hx hb dX5_readOne_89 rfl (lv_at hl 2 rfl) ?_
        refine lv_iload_n hx hb dX5_readOne_90 rfl (lv_at hl 3 rfl) ?_
        refine lv_iconst (v := 1) hx hb dX5_readOne_91 (by decide) ?_
        refine lv_iadd hx hb dX5_readOne_92 (lv_topi (fun v_11 e_v_11 => ?_))
        obtain ⟨t_v_11, r_v_11⟩ := tq_add (lo := 4) (hi := 4) r_p3 rl_1 (by decide +kernel) e_v_11
        have t_v_11 : v_11.toInt = p3.toInt + 1 := t_v_11
        refine tk_v (va_runV (As := [.ref p1, .ref p2, .int v_11]) (rest := []) ⟨hx, hb, hml, hown, hts⟩ (c_X5_readOne__3 l D cy z H.size Ps ws hw.1 p0 p1 p2 v_11 h_p0 h_p1 h_p2 r_v_11) (cwV 3 hts (gV tw_977 tw_979 ts_32 tw_23 tw_980) rfl rfl rfl (by decide +kernel) ⟨Nat.le_of_ble_eq_true rfl, Nat.le_of_ble_eq_true rfl⟩) (tg_preV hw hK hSD hA (ci := 5) (q := (RX5, TX5, 5)) rfl h_p0 rfl) rfl rfl hl.1 rfl (lv_room (Nat.le_of_ble_eq_true rfl)) dX5_readOne_93 ⟨Nat.le_of_ble_eq_true rfl, Nat.le_of_ble_eq_true rfl⟩) hw hA ⟨by decide, by decide⟩ (fun ws H locs hp_v_12 hw hF9 => ?_)
        refine lv_aload_n hx hb dX5_readOne_96 rfl (lv_at hl 0 rfl) ?_
        refine lv_sipush (v := 146) hx hb dX5_readOne_97 (by decide) ?_
        refine lv_iconst (v := 0) hx hb dX5_readOne_100 (by decide) ?_
        refine lv_iconst (v := 0) hx hb dX5_readOne_101 (by decide) ?_
        refine tk_v (va_runV (As := [.int 146, .int 0, .int 0]) (rest := []) ⟨hx, hb, hml, hown, hts⟩ (c_X5_addStep l D cy z H.size Ps ws hw.1 p0 146 0 0 h_p0 (rl_146.to (by decide)) (rl_0.to (by decide)) (rl_0.to (by decide))) (cwV 3 hts (gV tw_983 tw_985 ts_33 tw_23 tw_986) rfl rfl rfl (by decide +kernel) ⟨Nat.le_of_ble_eq_true rfl, Nat.le_of_ble_eq_true rfl⟩) (tg_preV hw hK hSD hA (ci := 5) (q := (RX5, TX5, 5)) rfl h_p0 rfl) rfl rfl hl.1 rfl (lv_room (Nat.le_of_ble_eq_true rfl)) dX5_readOne_102 ⟨Nat.le_of_ble_eq_true rfl, Nat.le_of_ble_eq_true rfl⟩) hw hA ⟨by decide, by decide⟩ (fun ws H locs hp_v_13 hw hF9 => ?_)
        obtain ⟨v_14, m_v_14, r_v_14⟩ := (hp_v_13.1)
        refine lv_goto (tgt := 141) hx hb dX5_readOne_105 (by decide) ?_
        subst hQ
        exact W.vret hx hb hr (fun t ht hW => ⟨⟨ws, rfl, ⟨trivial, hw.1, hw.2.2.2.2.1⟩, by rw [ht]; exact hw.2.1, va_K.moved hW.alike hK, hw.2.2.1⟩, hw.2.2.2.1.F ht⟩) hw.2.2.2.1.2.2 dX5_readOne_141
    · have r_vu_1 : RI vu_1 1 4 := rc_neL r_vu_1 rl_0 (ti_ne c_61) (by decide)
      subst hQ
      exact W.vret hx hb hr (fun t ht hW => ⟨⟨ws, rfl, ⟨trivial, hw.1, hw.2.2.2.2.1⟩, by rw [ht]; exact hw.2.1, va_K.moved hW.alike hK, hw.2.2.1⟩, hw.2.2.2.1.F ht⟩) hw.2.2.2.1.2.2 dX5_readOne_64
  have B52 : ∀ (x4 : Int32) (z0_4 : Int32) (z1_7 : Int32) (ws : va_W) (H : Heap) (locs : List Loc) (ls : Array Slot), RI p3 3 3 → RI x4 40 155 → RI z0_4 20 2147483647 → FLD ws p0 5 4 (.int z0_4) → RI z1_7 40 155 → FLD ws p1 7 7 (.int z1_7) → WD D cy GG A s wr_X5_readOne__2 wa_X5_readOne__2 Ps w0 Ps ws H locs → lv_has ls 5 [(0, .ref p0), (1, .ref p1), (2, .ref p2), (3, .int p3), (4, .int x4)] → W p l e (headSpec (Cond.code yX5_readOne cX5_readOne 5 none :: gT) ({ frames := 15, cells := 0, slots := 0, locals := 3000 } : Room)).room s m ([.ref p0, .ref p1, .ref p2, .int p3] : List Value).toArray below meth c H locs 0 0 Q (F0 m 52 ls []) := by
    intro x4 z0_4 z1_7 ws H locs ls r_p3 r_x4 r_z0_4 m_z0_4 r_z1_7 m_z1_7 hw hl
    refine lv_aload_n hx hb dX5_readOne_52 rfl (lv_at hl 1 rfl) ?_
    refine lv_iconst (v := 4) hx hb dX5_readOne_53 (by decide) ?_
    refine tk_v (va_runV (As := [.int 4]) (rest := []) ⟨hx, hb, hml, hown, hts⟩ (c_X7_refuse l D cy z H.size Ps ws hw.1 p1 4 h_p1 (rl_4.to (by decide))) (cwV 1 hts (gV tw_981 tw_443 tw_444 tw_2 tw_445) rfl rfl rfl (by decide +kernel) ⟨Nat.le_of_ble_eq_true rfl, Nat.le_of_ble_eq_true rfl⟩) (tg_preV hw hK hSD hA (ci := 7) (q := (RX7, TX7, 12)) rfl h_p1 rfl) rfl rfl hl.1 rfl (lv_room (Nat.le_of_ble_eq_true rfl)) dX5_readOne_54 ⟨Nat.le_of_ble_eq_true rfl, Nat.le_of_ble_eq_true rfl⟩) hw hA ⟨by decide, by decide⟩ (fun ws H locs hp_v_15 hw hF9 => ?_)
    have m_z0_4 := FLD.over hF9 m_z0_4 (by decide)
    have m_z1_7 := FLD.over hF9 m_z1_7 (by decide)
    obtain ⟨v_16, m_v_16, r_v_16⟩ := (hp_v_15.1)
    exact B57 x4 ws _ _ ls r_p3 (r_x4.to (by decide)) hw hl
  have B37 : ∀ (x4 : Int32) (z1_7 : Int32) (ws : va_W) (H : Heap) (locs : List Loc) (ls : Array Slot), RI p3 3 3 → RI x4 40 155 → RI z1_7 40 155 → FLD ws p1 7 7 (.int z1_7) → WD D cy GG A s wr_X5_readOne__2 wa_X5_readOne__2 Ps w0 Ps ws H locs → lv_has ls 5 [(0, .ref p0), (1, .ref p1), (2, .ref p2), (3, .int p3), (4, .int x4)] → W p l e (headSpec (Cond.code yX5_readOne cX5_readOne 5 none :: gT) ({ frames := 15, cells := 0, slots := 0, locals := 3000 } : Room)).room s m ([.ref p0, .ref p1, .ref p2, .int p3] : List Value).toArray below meth c H locs 0 0 Q (F0 m 37 ls []) := by
    intro x4 z1_7 ws H locs ls r_p3 r_x4 r_z1_7 m_z1_7 hw hl
    refine lv_aload_n hx hb dX5_readOne_37 rfl (lv_at hl 0 rfl) ?_
    refine tg_get (ci := 5) (ts := ty_SENT) (C := RX5) (T := TX5) (N := 5) hx hb hts inX5 hown hK hw h_p0 rfl rfl 4 (by decide) (hts _ tw_955) (fun _ h9 => h9) (ft := vI (-2147483648) 2147483647) rfl dX5_readOne_38 (fun u_17 hv_u_17 m_u_17 => ?_)
    obtain ⟨vu_17, rfl, r_vu_17⟩ := hv_u_17
    refine lv_bipush (v := 20) hx hb dX5_readOne_41 (by decide) ?_
    refine lv_icmp_ge (tgt := 52) hx hb dX5_readOne_43 (by decide) (fun c_43 => ?_) (fun c_43 => ?_)
    · have r_vu_17 : RI vu_17 20 2147483647 := rc_le2 rl_20 r_vu_17 (ti_le c_43) (by decide)
      exact B52 x4 vu_17 z1_7 ws _ _ ls r_p3 r_x4 r_vu_17 m_u_17 r_z1_7 m_z1_7 hw hl
    · have r_vu_17 : RI vu_17 (-2147483648) 19 := rc_lt1 r_vu_17 rl_20 (ti_nle c_43) (by decide)
      refine lv_iload_n hx hb dX5_readOne_46 rfl (lv_at hl 3 rfl) ?_
      refine lv_bipush (v := 8) hx hb dX5_readOne_47 (by decide) ?_
      refine lv_icmp_le (tgt := 57) hx hb dX5_readOne_49 (by decide) (fun c_49 => ?_) (fun c_49 => ?_)
      · exact B57 x4 ws _ _ ls r_p3 (r_x4.to (by decide)) hw hl
      · have r_p3 : RI p3 9 3 := rc_lt2 rl_8 r_p3 (ti_nle c_49) (by decide)
        exact (r_p3.no (by decide)).elim
  have B29 : ∀ (x4 : Int32) (ws : va_W) (H : Heap) (locs : List Loc) (ls : Array Slot), RI p3 3 3 → RI x4 (-2147483648) 2147483647 → WD D cy GG A s wr_X5_readOne__2 wa_X5_readOne__2 Ps w0 Ps ws H locs → lv_has ls 5 [(0, .ref p0), (1, .ref p1), (2, .ref p2), (3, .int p3), (4, .int x4)] → W p l e (headSpec (Cond.code yX5_readOne cX5_readOne 5 none :: gT) ({ frames := 15, cells := 0, slots := 0, locals := 3000 } : Room)).room s m ([.ref p0, .ref p1, .ref p2, .int p3] : List Value).toArray below meth c H locs 0 0 Q (F0 m 29 ls []) := by
    intro x4 ws H locs ls r_p3 r_x4 hw hl
    refine lv_aload_n hx hb dX5_readOne_29 rfl (lv_at hl 1 rfl) ?_
    refine lv_iconst (v := 1) hx hb dX5_readOne_30 (by decide) ?_
    refine tk_v (va_runV (As := [.int 1]) (rest := []) ⟨hx, hb, hml, hown, hts⟩ (c_X7_refuse l D cy z H.size Ps ws hw.1 p1 1 h_p1 (rl_1.to (by decide))) (cwV 1 hts (gV tw_981 tw_443 tw_444 tw_2 tw_445) rfl rfl rfl (by decide +kernel) ⟨Nat.le_of_ble_eq_true rfl, Nat.le_of_ble_eq_true rfl⟩) (tg_preV hw hK hSD hA (ci := 7) (q := (RX7, TX7, 12)) rfl h_p1 rfl) rfl rfl hl.1 rfl (lv_room (Nat.le_of_ble_eq_true rfl)) dX5_readOne_31 ⟨Nat.le_of_ble_eq_true rfl, Nat.le_of_ble_eq_true rfl⟩) hw hA ⟨by decide, by decide⟩ (fun ws H locs hp_v_18 hw hF9 => ?_)
    obtain ⟨v_19, m_v_19, r_v_19⟩ := (hp_v_18.1)
    refine lv_goto (tgt := 57) hx hb dX5_readOne_34 (by decide) ?_
    exact B57 x4 ws _ _ ls r_p3 r_x4 hw hl
  refine lv_aload_n hx hb dX5_readOne_0 rfl (lv_at hl 1 rfl) ?_
  refine tg_getN (ci := 7) (ts := ty_TAPE) (C := RX7) (T := TX7) (N := 12) hx hb hts inX7 hown hK hw h_p1 rfl rfl 7 (by decide) (hSD.nest tn_96) (fun _ h9 => h9) (ft := vI (-2147483648) 2147483647) rfl dX5_readOne_1 (fun u_20 hv_u_20 m_u_20 => ?_)
  obtain ⟨vu_20, rfl, r_vu_20⟩ := hv_u_20
  refine lv_istore (lv' := [(4, .int vu_20), (0, .ref p0), (1, .ref p1), (2, .ref p2), (3, .int p3)]) hx hb dX5_readOne_4 hl (by decide) rfl (fun ls hl => ?_)
  refine lv_iload hx hb dX5_readOne_6 (lv_at hl 0 rfl) ?_
  refine lv_bipush (v := 40) hx hb dX5_readOne_8 (by decide) ?_
  refine lv_icmp_eq (tgt := 37) hx hb dX5_readOne_10 (by decide) (fun c_10 => ?_) (fun c_10 => ?_)
  · have r_vu_20 : RI vu_20 40 40 := rc_eq1 r_vu_20 rl_40 (ti_eq c_10) (by decide)
    exact B37 vu_20 vu_20 w0 _ _ ls r_p3 (r_vu_20.to (by decide)) (r_vu_20.to (by decide)) m_u_20 hw (lv_sub hl [1, 2, 3, 4, 0] rfl)
  · refine lv_iload hx hb dX5_readOne_13 (lv_at hl 0 rfl) ?_
    refine lv_sipush (v := 146) hx hb dX5_readOne_15 (by decide) ?_
    refine lv_icmp_lt (tgt := 29) hx hb dX5_readOne_18 (by decide) (fun c_18 => ?_) (fun c_18 => ?_)
    · have r_vu_20 : RI vu_20 (-2147483648) 145 := rc_lt1 r_vu_20 rl_146 (ti_lt c_18) (by decide)
      exact B29 vu_20 w0 _ _ ls r_p3 (r_vu_20.to (by decide)) hw (lv_sub hl [1, 2, 3, 4, 0] rfl)
    · have r_vu_20 : RI vu_20 146 2147483647 := rc_le2 rl_146 r_vu_20 (ti_nlt c_18) (by decide)
      refine lv_iload hx hb dX5_readOne_21 (lv_at hl 0 rfl) ?_
      refine lv_sipush (v := 155) hx hb dX5_readOne_23 (by decide) ?_
      refine lv_icmp_le (tgt := 37) hx hb dX5_readOne_26 (by decide) (fun c_26 => ?_) (fun c_26 => ?_)
      · have r_vu_20 : RI vu_20 146 155 := rc_le1 r_vu_20 rl_155 (ti_le c_26) (by decide)
        exact B37 vu_20 vu_20 w0 _ _ ls r_p3 (r_vu_20.to (by decide)) (r_vu_20.to (by decide)) m_u_20 hw (lv_sub hl [1, 2, 3, 4, 0] rfl)
      · have r_vu_20 : RI vu_20 156 2147483647 := rc_lt2 rl_155 r_vu_20 (ti_nle c_26) (by decide)
        exact B29 vu_20 w0 _ _ ls r_p3 (r_vu_20.to (by decide)) hw (lv_sub hl [1, 2, 3, 4, 0] rfl)
abbrev wr_X5_readCond__2 : List (Nat × Nat) := [(5, 3), (5, 4), (7, 5), (7, 6), (7, 7), (7, 8), (7, 9), (7, 10), (7, 11)]
abbrev wa_X5_readCond__2 : List Nat := [21]
set_option maxHeartbeats 4000000 in
set_option maxRecDepth 100000 in
theorem c_X5_readCond__2 (l : Launch) (D : va_G) (cy : Nat → ClassId) (z : Nat → Nat) (sz : Nat) (Ps : PSI) (w0 : va_W) (hT : HT cy GG Ps w0) (p0 : Nat) (p1 : Nat) (p2 : Nat) (p3 : Int32) (h_p0 : (p0, 32) ∈ Ps) (h_p1 : (p1, 26) ∈ Ps) (h_p2 : (p2, 25) ∈ Ps) (r_p3 : RI p3 3 3) : Met l yX5_readCond (Cond.code yX5_readCond cX5_readCond 7 none :: gT) ({ frames := 16, cells := 0, slots := 0, locals := 3200 } : Room) (va_Pc [.ref p0, .ref p1, .ref p2, .int p3] (PRE D cy z w0 sz)) (va_Qv (fun (u : va_W) => (True) ∧ HT cy GG Ps u ∧ FR wr_X5_readCond__2 wa_X5_readCond__2 Ps w0 u) (BB D cy (va_A w0 sz) (fun (u : va_W) => u)) (va_A w0 sz)) 0 0 (va_A w0 sz) := by
  refine Met.ofW (cc := cX5_readCond) (maxL := 7) (ret := none) (by decide) rfl ?_
  intro p e s m args below meth c s₁ B hml hv
  obtain ⟨rfl, hsz, hP, hK, hD0, hSD⟩ := hv
  have hx := B.exec
  have hb := B.bytes
  have hr := B.returns
  have hlocks := B.notSynchronized
  have hts : ∀ w ∈ gT, w.before _ s = true := fun w h => atoms_spec (ws := Cond.code yX5_readCond cX5_readCond 7 none :: gT) B.pre w (List.mem_cons_of_mem _ h)
  have hown : s.vm.findClass RX5 = some m.cls := findClass_of_methodNamed B.named
  subst hsz
  have hD := hD0.self (sz := s.heap.size)
  generalize hAe : va_A w0 s.heap.size = A at hD hSD ⊢
  have hA : ∀ q : Nat, s.heap.size ≤ q → A q := fun q h => by rw [← hAe]; exact Or.inr h
  have hl := lv_entry ([.ref p0, .ref p1, .ref p2, .int p3]) (n := 7) (Nat.le_of_ble_eq_true rfl)
  rw [lg_entry_eq]
  generalize (lg_sl ([.ref p0, .ref p1, .ref p2, .int p3]) ++ List.replicate (7 - (lg_sl ([.ref p0, .ref p1, .ref p2, .int p3])).length) Slot.unset).toArray = ls at hl ⊢
  have hl : lv_has ls 7 [(0, .ref p0), (1, .ref p1), (2, .ref p2), (3, .int p3)] := hl
  refine nameQ (fun Q hQ => ?_)
  have hw : WD D cy GG A s wr_X5_readCond__2 wa_X5_readCond__2 Ps w0 Ps w0 s.heap [] := ⟨hT, hP, hD, va_S.rf, FR.rf, hT.1, [], (List.append_nil _).symm⟩
  have B106 : ∀ (x4 : Int32) (x5 : Int32) (ws : va_W) (H : Heap) (locs : List Loc) (ls : Array Slot), RI p3 3 3 → RI x4 (-2147483648) 2147483647 → RI x5 0 21 → WD D cy GG A s wr_X5_readCond__2 wa_X5_readCond__2 Ps w0 Ps ws H locs → lv_has ls 7 [(0, .ref p0), (1, .ref p1), (2, .ref p2), (3, .int p3), (4, .int x4), (5, .int x5)] → W p l e (headSpec (Cond.code yX5_readCond cX5_readCond 7 none :: gT) ({ frames := 16, cells := 0, slots := 0, locals := 3200 } : Room)).room s m ([.ref p0, .ref p1, .ref p2, .int p3] : List Value).toArray below meth c H locs 0 0 Q (F0 m 106 ls []) := by
    intro x4 x5 ws H locs ls r_p3 r_x4 r_x5 hw hl
    refine lv_iload hx hb dX5_readCond_106 (lv_at hl 4 rfl) ?_
    refine lv_if_eq (tgt := 120) hx hb dX5_readCond_108 (by decide) (fun c_108 => ?_) (fun c_108 => ?_)
    · have r_x4 : RI x4 0 0 := rc_eq1 r_x4 rl_0 (ti_eq c_108) (by decide)
      subst hQ
      exact W.vret hx hb hr (fun t ht hW => ⟨⟨ws, rfl, ⟨trivial, hw.1, hw.2.2.2.2.1⟩, by rw [ht]; exact hw.2.1, va_K.moved hW.alike hK, hw.2.2.1⟩, hw.2.2.2.1.F ht⟩) hw.2.2.2.1.2.2 dX5_readCond_120
    · refine lv_aload_n hx hb dX5_readCond_111 rfl (lv_at hl 0 rfl) ?_
      refine lv_sipush (v := 144) hx hb dX5_readCond_112 (by decide) ?_
      refine lv_iconst (v := 0) hx hb dX5_readCond_115 (by decide) ?_
      refine lv_iconst (v := 0) hx hb dX5_readCond_116 (by decide) ?_
      refine tk_v (va_runV (As := [.int 144, .int 0, .int 0]) (rest := []) ⟨hx, hb, hml, hown, hts⟩ (c_X5_addStep l D cy z H.size Ps ws hw.1 p0 144 0 0 h_p0 (rl_144.to (by decide)) (rl_0.to (by decide)) (rl_0.to (by decide))) (cwV 3 hts (gV tw_983 tw_985 ts_33 tw_23 tw_986) rfl rfl rfl (by decide +kernel) ⟨Nat.le_of_ble_eq_true rfl, Nat.le_of_ble_eq_true rfl⟩) (tg_preV hw hK hSD hA (ci := 5) (q := (RX5, TX5, 5)) rfl h_p0 rfl) rfl rfl hl.1 rfl (lv_room (Nat.le_of_ble_eq_true rfl)) dX5_readCond_117 ⟨Nat.le_of_ble_eq_true rfl, Nat.le_of_ble_eq_true rfl⟩) hw hA ⟨by decide, by decide⟩ (fun ws H locs hp_v_1 hw hF9 => ?_)
      obtain ⟨v_2, m_v_2, r_v_2⟩ := (hp_v_1.1)
      subst hQ
      exact W.vret hx hb hr (fun t ht hW => ⟨⟨ws, rfl, ⟨trivial, hw.1, hw.2.2.2.2.1⟩, by rw [ht]; exact hw.2.1, va_K.moved hW.alike hK, hw.2.2.1⟩, hw.2.2.2.1.F ht⟩) hw.2.2.2.1.2.2 dX5_readCond_120
  have B13 : ∀ (nf : Nat) (x4 : Int32) (x5 : Int32) (ws : va_W) (H : Heap) (locs : List Loc) (ls : Array Slot), 20 - x5.toInt < (nf : Int) → RI p3 3 3 → RI x4 (-2147483648) 2147483647 → RI x5 0 20 → WD D cy GG A s wr_X5_readCond__2 wa_X5_readCond__2 Ps w0 Ps ws H locs → lv_has ls 7 [(0, .ref p0), (1, .ref p1), (2, .ref p2), (3, .int p3), (4, .int x4), (5, .int x5)] → W p l e (headSpec (Cond.code yX5_readCond cX5_readCond 7 none :: gT) ({ frames := 16, cells := 0, slots := 0, locals := 3200 } : Room)).room s m ([.ref p0, .ref p1, .ref p2, .int p3] : List Value).toArray below meth c H locs 0 0 Q (F0 m 13 ls []) := by
    intro nf13
    induction nf13 with
    | zero =>
      intro x4 x5 ws H locs ls hn13 r_p3 r_x4 r_x5 hw hl
      exact absurd hn13 (by have q0 := r_x5.1; have u0 := r_x5.2; omega)
    | succ nf13 ih13 =>
      have B72 : ∀ (x4 : Int32) (x5 : Int32) (x6 : Int32) (ws : va_W) (H : Heap) (locs : List Loc) (ls : Array Slot), RI p3 3 3 → RI x4 (-2147483648) 2147483647 → RI x5 0 19 → RI x6 0 1 → 20 - x5.toInt < ((nf13 + 1 : Nat) : Int) → WD D cy GG A s wr_X5_readCond__2 wa_X5_readCond__2 Ps w0 Ps ws H locs → lv_has ls 7 [(0, .ref p0), (1, .ref p1), (2, .ref p2), (3, .int p3), (4, .int x4), (5, .int x5), (6, .int x6)] → W p l e (headSpec (Cond.code yX5_readCond cX5_readCond 7 none :: gT) ({ frames := 16, cells := 0, slots := 0, locals := 3200 } : Room)).room s m ([.ref p0, .ref p1, .ref p2, .int p3] : List Value).toArray below meth c H locs 0 0 Q (F0 m 72 ls []) := by
        intro x4 x5 x6 ws H locs ls r_p3 r_x4 r_x5 r_x6 hn13 hw hl
        refine lv_iload hx hb dX5_readCond_72 (lv_at hl 4 rfl) ?_
        refine lv_iload hx hb dX5_readCond_74 (lv_at hl 6 rfl) ?_
        refine lv_ior hx hb dX5_readCond_76 (lv_topi (fun v_3 e_v_3 => ?_))
        have r_v_3 := ri_any v_3
        refine lv_istore (lv' := [(4, .int v_3), (0, .ref p0), (1, .ref p1), (2, .ref p2), (3, .int p3), (5, .int x5), (6, .int x6)]) hx hb dX5_readCond_77 hl (by decide) rfl (fun ls hl => ?_)
        refine lv_aload_n hx hb dX5_readCond_79 rfl (lv_at hl 1 rfl) ?_
        refine lv_aload_n hx hb dX5_readCond_80 rfl (lv_at hl 2 rfl) ?_
        refine lv_aload_n hx hb dX5_readCond_81 rfl (lv_at hl 3 rfl) ?_
        refine lv_iload_n hx hb dX5_readCond_82 rfl (lv_at hl 4 rfl) ?_
        refine tk_v (va_runV (As := [.ref p1, .ref p2, .int p3]) (rest := []) ⟨hx, hb, hml, hown, hts⟩ (c_X5_readOne__2 l D cy z H.size Ps ws hw.1 p0 p1 p2 p3 h_p0 h_p1 h_p2 r_p3) (cwV 3 hts (gV tw_977 tw_979 ts_32 tw_23 tw_980) rfl rfl rfl (by decide +kernel) ⟨Nat.le_of_ble_eq_true rfl, Nat.le_of_ble_eq_true rfl⟩) (tg_preV hw hK hSD hA (ci := 5) (q := (RX5, TX5, 5)) rfl h_p0 rfl) rfl rfl hl.1 rfl (lv_room (Nat.le_of_ble_eq_true rfl)) dX5_readCond_83 ⟨Nat.le_of_ble_eq_true rfl, Nat.le_of_ble_eq_true rfl⟩) hw hA ⟨by decide, by decide⟩ (fun ws H locs hp_v_4 hw hF9 => ?_)
        refine lv_iload hx hb dX5_readCond_86 (lv_at hl 6 rfl) ?_
        refine lv_if_ne (tgt := 100) hx hb dX5_readCond_88 (by decide) (fun c_88 => ?_) (fun c_88 => ?_)
        · have r_x6 : RI x6 1 1 := rc_neL r_x6 rl_0 (ti_ne c_88) (by decide)
          obtain ⟨v_5, e_v_5⟩ : ∃ q9 : Int32, q9 = x5 + Int32.ofInt 1 := ⟨_, rfl⟩
          obtain ⟨t_v_5, r_v_5⟩ := tq_add (lo := 1) (hi := 20) r_x5 (show RI (Int32.ofInt 1) 1 1 by unfold RI; decide +kernel) (by decide +kernel) e_v_5
          have t_v_5 : v_5.toInt = x5.toInt + 1 := t_v_5
          refine lv_iinc (v := v_5) (lv' := [(5, .int v_5), (4, .int v_3), (0, .ref p0), (1, .ref p1), (2, .ref p2), (3, .int p3), (6, .int x6)]) hx hb dX5_readCond_100 hl (k := 5) rfl e_v_5.symm (by decide) rfl (fun ls hl => ?_)
          refine lv_goto (tgt := 13) hx hb dX5_readCond_103 (by decide) ?_
          exact ih13 v_3 v_5 ws _ _ ls (by have q0 := r_v_5.1; have u0 := r_v_5.2; have o0 := r_x5.1; have p0 := r_x5.2; omega) r_p3 r_v_3 (r_v_5.to (by decide)) hw (lv_sub hl [2, 3, 4, 5, 1, 0] rfl)
        · have r_x6 : RI x6 0 0 := rc_eq1 r_x6 rl_0 (ti_eq c_88) (by decide)
          refine lv_aload_n hx hb dX5_readCond_91 rfl (lv_at hl 1 rfl) ?_
          refine lv_sipush (v := 145) hx hb dX5_readCond_92 (by decide) ?_
          refine lv_iconst (v := 0) hx hb dX5_readCond_95 (by decide) ?_
          refine lv_iconst (v := 0) hx hb dX5_readCond_96 (by decide) ?_
          refine tk_v (va_runV (As := [.int 145, .int 0, .int 0]) (rest := []) ⟨hx, hb, hml, hown, hts⟩ (c_X5_addStep l D cy z H.size Ps ws hw.1 p0 145 0 0 h_p0 (rl_145.to (by decide)) (rl_0.to (by decide)) (rl_0.to (by decide))) (cwV 3 hts (gV tw_983 tw_985 ts_33 tw_23 tw_986) rfl rfl rfl (by decide +kernel) ⟨Nat.le_of_ble_eq_true rfl, Nat.le_of_ble_eq_true rfl⟩) (tg_preV hw hK hSD hA (ci := 5) (q := (RX5, TX5, 5)) rfl h_p0 rfl) rfl rfl hl.1 rfl (lv_room (Nat.le_of_ble_eq_true rfl)) dX5_readCond_97 ⟨Nat.le_of_ble_eq_true rfl, Nat.le_of_ble_eq_true rfl⟩) hw hA ⟨by decide, by decide⟩ (fun ws H locs hp_v_6 hw hF9 => ?_)
          obtain ⟨v_7, m_v_7, r_v_7⟩ := (hp_v_6.1)
          obtain ⟨v_8, e_v_8⟩ : ∃ q9 : Int32, q9 = x5 + Int32.ofInt 1 := ⟨_, rfl⟩
          obtain ⟨t_v_8, r_v_8⟩ := tq_add (lo := 1) (hi := 20) r_x5 (show RI (Int32.ofInt 1) 1 1 by unfold RI; decide +kernel) (by decide +kernel) e_v_8
          have t_v_8 : v_8.toInt = x5.toInt + 1 := t_v_8
          refine lv_iinc (v := v_8) (lv' := [(5, .int v_8), (4, .int v_3), (0, .ref p0), (1, .ref p1), (2, .ref p2), (3, .int p3), (6, .int x6)]) hx hb dX5_readCond_100 hl (k := 5) rfl e_v_8.symm (by decide) rfl (fun ls hl => ?_)
          refine lv_goto (tgt := 13) hx hb dX5_readCond_103 (by decide) ?_
          exact ih13 v_3 v_8 ws _ _ ls (by have q0 := r_v_8.1; have u0 := r_v_8.2; have o0 := r_x5.1; have p0 := r_x5.2; omega) r_p3 r_v_3 (r_v_8.to (by decide)) hw (lv_sub hl [2, 3, 4, 5, 1, 0] rfl)
      have B40 : ∀ (x4 : Int32) (x5 : Int32) (ws : va_W) (H : Heap) (locs : List Loc) (ls : Array Slot), RI p3 3 3 → RI x4 (-2147483648) 2147483647 → RI x5 0 19 → 20 - x5.toInt < ((nf13 + 1 : Nat) : Int) → WD D cy GG A s wr_X5_readCond__2 wa_X5_readCond__2 Ps w0 Ps ws H locs → lv_has ls 7 [(0, .ref p0), (1, .ref p1), (2, .ref p2), (3, .int p3), (4, .int x4), (5, .int x5)] → W p l e (headSpec (Cond.code yX5_readCond cX5_readCond 7 none :: gT) ({ frames := 16, cells := 0, slots := 0, locals := 3200 } : Room)).room s m ([.ref p0, .ref p1, .ref p2, .int p3] : List Value).toArray below meth c H locs 0 0 Q (F0 m 40 ls []) := by
        intro x4 x5 ws H locs ls r_p3 r_x4 r_x5 hn13 hw hl
        refine lv_aload_n hx hb dX5_readCond_40 rfl (lv_at hl 1 rfl) ?_
        refine lv_sipush (v := 144) hx hb dX5_readCond_41 (by decide) ?_
        refine tk_ir (va_runV (As := [.int 144]) (rest := []) ⟨hx, hb, hml, hown, hts⟩ (c_X7_sees l D cy z H.size Ps ws hw.1 p1 144 h_p1 (rl_144.to (by decide))) (cwV 1 hts (gV tw_994 tw_995 tw_996 tw_2 tw_997) rfl rfl rfl (by decide +kernel) ⟨Nat.le_of_ble_eq_true rfl, Nat.le_of_ble_eq_true rfl⟩) (tg_preV hw hK hSD hA (ci := 7) (q := (RX7, TX7, 12)) rfl h_p1 rfl) rfl rfl hl.1 rfl (lv_room (Nat.le_of_ble_eq_true rfl)) dX5_readCond_44 ⟨Nat.le_of_ble_eq_true rfl, Nat.le_of_ble_eq_true rfl⟩) hw hA (fun v_9  H locs hp_v_9 hw => ?_)
        have r_v_9 : RI v_9 0 1 := hp_v_9.1
        refine lv_istore (lv' := [(6, .int v_9), (0, .ref p0), (1, .ref p1), (2, .ref p2), (3, .int p3), (4, .int x4), (5, .int x5)]) hx hb dX5_readCond_47 hl (by decide) rfl (fun ls hl => ?_)
        refine lv_aload_n hx hb dX5_readCond_49 rfl (lv_at hl 2 rfl) ?_
        refine tk_v (va_runV (As := []) (rest := []) ⟨hx, hb, hml, hown, hts⟩ (c_X7_pass l D cy z H.size Ps ws hw.1 p1 h_p1) (cwV 0 hts (gV tw_982 tw_425 tw_426 tw_2 tw_427) rfl rfl rfl (by decide +kernel) ⟨Nat.le_of_ble_eq_true rfl, Nat.le_of_ble_eq_true rfl⟩) (tg_preV hw hK hSD hA (ci := 7) (q := (RX7, TX7, 12)) rfl h_p1 rfl) rfl rfl hl.1 rfl (lv_room (Nat.le_of_ble_eq_true rfl)) dX5_readCond_50 ⟨Nat.le_of_ble_eq_true rfl, Nat.le_of_ble_eq_true rfl⟩) hw hA ⟨by decide, by decide⟩ (fun ws H locs hp_v_10 hw hF9 => ?_)
        refine lv_iload hx hb dX5_readCond_53 (lv_at hl 0 rfl) ?_
        refine lv_if_eq (tgt := 72) hx hb dX5_readCond_55 (by decide) (fun c_55 => ?_) (fun c_55 => ?_)
        · have r_v_9 : RI v_9 0 0 := rc_eq1 r_v_9 rl_0 (ti_eq c_55) (by decide)
          exact B72 x4 x5 v_9 ws _ _ ls r_p3 r_x4 r_x5 (r_v_9.to (by decide)) (by have q0 := r_x5.1; have u0 := r_x5.2; omega) hw (lv_sub hl [1, 2, 3, 4, 5, 6, 0] rfl)
        · have r_v_9 : RI v_9 1 1 := rc_neL r_v_9 rl_0 (ti_ne c_55) (by decide)
          refine lv_iload hx hb dX5_readCond_58 (lv_at hl 5 rfl) ?_
          refine lv_if_eq (tgt := 72) hx hb dX5_readCond_60 (by decide) (fun c_60 => ?_) (fun c_60 => ?_)
          · have r_x4 : RI x4 0 0 := rc_eq1 r_x4 rl_0 (ti_eq c_60) (by decide)
            exact B72 x4 x5 v_9 ws _ _ ls r_p3 (r_x4.to (by decide)) r_x5 (r_v_9.to (by decide)) (by have q0 := r_x5.1; have u0 := r_x5.2; omega) hw (lv_sub hl [1, 2, 3, 4, 5, 6, 0] rfl)
          · refine lv_aload_n hx hb dX5_readCond_63 rfl (lv_at hl 1 rfl) ?_
            refine lv_sipush (v := 144) hx hb dX5_readCond_64 (by decide) ?_
            refine lv_iconst (v := 0) hx hb dX5_readCond_67 (by decide) ?_
            refine lv_iconst (v := 0) hx hb dX5_readCond_68 (by decide) ?_
            refine tk_v (va_runV (As := [.int 144, .int 0, .int 0]) (rest := []) ⟨hx, hb, hml, hown, hts⟩ (c_X5_addStep l D cy z H.size Ps ws hw.1 p0 144 0 0 h_p0 (rl_144.to (by decide)) (rl_0.to (by decide)) (rl_0.to (by decide))) (cwV 3 hts (gV tw_983 tw_985 ts_33 tw_23 tw_986) rfl rfl rfl (by decide +kernel) ⟨Nat.le_of_ble_eq_true rfl, Nat.le_of_ble_eq_true rfl⟩) (tg_preV hw hK hSD hA (ci := 5) (q := (RX5, TX5, 5)) rfl h_p0 rfl) rfl rfl hl.1 rfl (lv_room (Nat.le_of_ble_eq_true rfl)) dX5_readCond_69 ⟨Nat.le_of_ble_eq_true rfl, Nat.le_of_ble_eq_true rfl⟩) hw hA ⟨by decide, by decide⟩ (fun ws H locs hp_v_11 hw hF9 => ?_)
            obtain ⟨v_12, m_v_12, r_v_12⟩ := (hp_v_11.1)
            exact B72 x4 x5 v_9 ws _ _ ls r_p3 r_x4 r_x5 (r_v_9.to (by decide)) (by have q0 := r_x5.1; have u0 := r_x5.2; omega) hw (lv_sub hl [1, 2, 3, 4, 5, 6, 0] rfl)
      intro x4 x5 ws H locs ls hn13 r_p3 r_x4 r_x5 hw hl
      refine lv_iload hx hb dX5_readCond_13 (lv_at hl 5 rfl) ?_
      refine lv_bipush (v := 20) hx hb dX5_readCond_15 (by decide) ?_
      refine lv_icmp_ge (tgt := 106) hx hb dX5_readCond_17 (by decide) (fun c_17 => ?_) (fun c_17 => ?_)
      · have r_x5 : RI x5 20 20 := rc_le2 rl_20 r_x5 (ti_le c_17) (by decide)
        exact B106 x4 x5 ws _ _ ls r_p3 r_x4 (r_x5.to (by decide)) hw hl
      · have r_x5 : RI x5 0 19 := rc_lt1 r_x5 rl_20 (ti_nle c_17) (by decide)
        refine lv_aload_n hx hb dX5_readCond_20 rfl (lv_at hl 1 rfl) ?_
        refine lv_sipush (v := 144) hx hb dX5_readCond_21 (by decide) ?_
        refine tk_ir (va_runV (As := [.int 144]) (rest := []) ⟨hx, hb, hml, hown, hts⟩ (c_X7_sees l D cy z H.size Ps ws hw.1 p1 144 h_p1 (rl_144.to (by decide))) (cwV 1 hts (gV tw_994 tw_995 tw_996 tw_2 tw_997) rfl rfl rfl (by decide +kernel) ⟨Nat.le_of_ble_eq_true rfl, Nat.le_of_ble_eq_true rfl⟩) (tg_preV hw hK hSD hA (ci := 7) (q := (RX7, TX7, 12)) rfl h_p1 rfl) rfl rfl hl.1 rfl (lv_room (Nat.le_of_ble_eq_true rfl)) dX5_readCond_24 ⟨Nat.le_of_ble_eq_true rfl, Nat.le_of_ble_eq_true rfl⟩) hw hA (fun v_13  H locs hp_v_13 hw => ?_)
        have r_v_13 : RI v_13 0 1 := hp_v_13.1
        refine lv_if_ne (tgt := 40) hx hb dX5_readCond_27 (by decide) (fun c_27 => ?_) (fun c_27 => ?_)
        · have r_v_13 : RI v_13 1 1 := rc_neL r_v_13 rl_0 (ti_ne c_27) (by decide)
          exact B40 x4 x5 ws _ _ ls r_p3 r_x4 r_x5 (by have q0 := r_x5.1; have u0 := r_x5.2; omega) hw hl
        · have r_v_13 : RI v_13 0 0 := rc_eq1 r_v_13 rl_0 (ti_eq c_27) (by decide)
          refine lv_aload_n hx hb dX5_readCond_30 rfl (lv_at hl 1 rfl) ?_
          refine lv_sipush (v := 145) hx hb dX5_readCond_31 (by decide) ?_
          refine tk_ir (va_runV (As := [.int 145]) (rest := []) ⟨hx, hb, hml, hown, hts⟩ (c_X7_sees l D cy z H.size Ps ws hw.1 p1 145 h_p1 (rl_145.to (by decide))) (cwV 1 hts (gV tw_994 tw_995 tw_996 tw_2 tw_997) rfl rfl rfl (by decide +kernel) ⟨Nat.le_of_ble_eq_true rfl, Nat.le_of_ble_eq_true rfl⟩) (tg_preV hw hK hSD hA (ci := 7) (q := (RX7, TX7, 12)) rfl h_p1 rfl) rfl rfl hl.1 rfl (lv_room (Nat.le_of_ble_eq_true rfl)) dX5_readCond_34 ⟨Nat.le_of_ble_eq_true rfl, Nat.le_of_ble_eq_true rfl⟩) hw hA (fun v_14  H locs hp_v_14 hw => ?_)
          have r_v_14 : RI v_14 0 1 := hp_v_14.1
          refine lv_if_eq (tgt := 106) hx hb dX5_readCond_37 (by decide) (fun c_37 => ?_) (fun c_37 => ?_)
          · have r_v_14 : RI v_14 0 0 := rc_eq1 r_v_14 rl_0 (ti_eq c_37) (by decide)
            exact B106 x4 x5 ws _ _ ls r_p3 r_x4 (r_x5.to (by decide)) hw hl
          · have r_v_14 : RI v_14 1 1 := rc_neL r_v_14 rl_0 (ti_ne c_37) (by decide)
            exact B40 x4 x5 ws _ _ ls r_p3 r_x4 r_x5 (by have q0 := r_x5.1; have u0 := r_x5.2; omega) hw hl
  refine lv_iconst (v := 0) hx hb dX5_readCond_0 (by decide) ?_
  refine lv_istore (lv' := [(4, .int 0), (0, .ref p0), (1, .ref p1), (2, .ref p2), (3, .int p3)]) hx hb dX5_readCond_1 hl (by decide) rfl (fun ls hl => ?_)
  refine lv_aload_n hx hb dX5_readCond_3 rfl (lv_at hl 1 rfl) ?_
  refine lv_aload_n hx hb dX5_readCond_4 rfl (lv_at hl 2 rfl) ?_
  refine lv_aload_n hx hb dX5_readCond_5 rfl (lv_at hl 3 rfl) ?_
  refine lv_iload_n hx hb dX5_readCond_6 rfl (lv_at hl 4 rfl) ?_
  refine tk_v (va_runV (As := [.ref p1, .ref p2, .int p3]) (rest := []) ⟨hx, hb, hml, hown, hts⟩ (c_X5_readOne__2 l D cy z s.heap.size Ps w0 hw.1 p0 p1 p2 p3 h_p0 h_p1 h_p2 r_p3) (cwV 3 hts (gV tw_977 tw_979 ts_32 tw_23 tw_980) rfl rfl rfl (by decide +kernel) ⟨Nat.le_of_ble_eq_true rfl, Nat.le_of_ble_eq_true rfl⟩) (tg_preV hw hK hSD hA (ci := 5) (q := (RX5, TX5, 5)) rfl h_p0 rfl) rfl rfl hl.1 rfl (lv_room (Nat.le_of_ble_eq_true rfl)) dX5_readCond_7 ⟨Nat.le_of_ble_eq_true rfl, Nat.le_of_ble_eq_true rfl⟩) hw hA ⟨by decide, by decide⟩ (fun ws H locs hp_v_15 hw hF9 => ?_)
  refine lv_iconst (v := 0) hx hb dX5_readCond_10 (by decide) ?_
  refine lv_istore (lv' := [(5, .int 0), (4, .int 0), (0, .ref p0), (1, .ref p1), (2, .ref p2), (3, .int p3)]) hx hb dX5_readCond_11 hl (by decide) rfl (fun ls hl => ?_)
  exact B13 4294967298 0 0 ws _ _ ls (by have q0 := rl_0.1; have u0 := rl_0.2; omega) r_p3 (rl_0.to (by decide)) (rl_0.to (by decide)) hw (lv_sub hl [2, 3, 4, 5, 1, 0] rfl)
abbrev wr_X5_readOne__1 : List (Nat × Nat) := [(5, 3), (5, 4), (7, 5), (7, 6), (7, 7), (7, 8), (7, 9), (7, 10), (7, 11)]
abbrev wa_X5_readOne__1 : List Nat := [21]
set_option maxHeartbeats 4000000 in
set_option maxRecDepth 100000 in
theorem c_X5_readOne__1 (l : Launch) (D : va_G) (cy : Nat → ClassId) (z : Nat → Nat) (sz : Nat) (Ps : PSI) (w0 : va_W) (hT : HT cy GG Ps w0) (p0 : Nat) (p1 : Nat) (p2 : Nat) (p3 : Int32) (h_p0 : (p0, 32) ∈ Ps) (h_p1 : (p1, 26) ∈ Ps) (h_p2 : (p2, 25) ∈ Ps) (r_p3 : RI p3 2 2) : Met l yX5_readOne (Cond.code yX5_readOne cX5_readOne 5 none :: gT) ({ frames := 17, cells := 0, slots := 0, locals := 3400 } : Room) (va_Pc [.ref p0, .ref p1, .ref p2, .int p3] (PRE D cy z w0 sz)) (va_Qv (fun (u : va_W) => (True) ∧ HT cy GG Ps u ∧ FR wr_X5_readOne__1 wa_X5_readOne__1 Ps w0 u) (BB D cy (va_A w0 sz) (fun (u : va_W) => u)) (va_A w0 sz)) 0 0 (va_A w0 sz) := by
  refine Met.ofW (cc := cX5_readOne) (maxL := 5) (ret := none) (by decide) rfl ?_
  intro p e s m args below meth c s₁ B hml hv
  obtain ⟨rfl, hsz, hP, hK, hD0, hSD⟩ := hv
  have hx := B.exec
  have hb := B.bytes
  have hr := B.returns
  have hlocks := B.notSynchronized
  have hts : ∀ w ∈ gT, w.before _ s = true := fun w h => atoms_spec (ws := Cond.code yX5_readOne cX5_readOne 5 none :: gT) B.pre w (List.mem_cons_of_mem _ h)
  have hown : s.vm.findClass RX5 = some m.cls := findClass_of_methodNamed B.named
  subst hsz
  have hD := hD0.self (sz := s.heap.size)
  generalize hAe : va_A w0 s.heap.size = A at hD hSD ⊢
  have hA : ∀ q : Nat, s.heap.size ≤ q → A q := fun q h => by rw [← hAe]; exact Or.inr h
  have hl := lv_entry ([.ref p0, .ref p1, .ref p2, .int p3]) (n := 5) (Nat.le_of_ble_eq_true rfl)
  rw [lg_entry_eq]
  generalize (lg_sl ([.ref p0, .ref p1, .ref p2, .int p3]) ++ List.replicate (5 - (lg_sl ([.ref p0, .ref p1, .ref p2, .int p3])).length) Slot.unset).toArray = ls at hl ⊢
  have hl : lv_has ls 5 [(0, .ref p0), (1, .ref p1), (2, .ref p2), (3, .int p3)] := hl
  refine nameQ (fun Q hQ => ?_)
  have hw : WD D cy GG A s wr_X5_readOne__1 wa_X5_readOne__1 Ps w0 Ps w0 s.heap [] := ⟨hT, hP, hD, va_S.rf, FR.rf, hT.1, [], (List.append_nil _).symm⟩
  have B57 : ∀ (x4 : Int32) (ws : va_W) (H : Heap) (locs : List Loc) (ls : Array Slot), RI p3 2 2 → RI x4 (-2147483648) 2147483647 → WD D cy GG A s wr_X5_readOne__1 wa_X5_readOne__1 Ps w0 Ps ws H locs → lv_has ls 5 [(0, .ref p0), (1, .ref p1), (2, .ref p2), (3, .int p3), (4, .int x4)] → W p l e (headSpec (Cond.code yX5_readOne cX5_readOne 5 none :: gT) ({ frames := 17, cells := 0, slots := 0, locals := 3400 } : Room)).room s m ([.ref p0, .ref p1, .ref p2, .int p3] : List Value).toArray below meth c H locs 0 0 Q (F0 m 57 ls []) := by
    intro x4 ws H locs ls r_p3 r_x4 hw hl
    refine lv_aload_n hx hb dX5_readOne_57 rfl (lv_at hl 1 rfl) ?_
    refine tg_getN (ci := 7) (ts := ty_TAPE) (C := RX7) (T := TX7) (N := 12) hx hb hts inX7 hown hK hw h_p1 rfl rfl 10 (by decide) (hSD.nest tn_103) (fun _ h9 => h9) (ft := vI 0 4) rfl dX5_readOne_58 (fun u_1 hv_u_1 m_u_1 => ?_)
    obtain ⟨vu_1, rfl, r_vu_1⟩ := hv_u_1
    refine lv_if_eq (tgt := 65) hx hb dX5_readOne_61 (by decide) (fun c_61 => ?_) (fun c_61 => ?_)
    · have r_vu_1 : RI vu_1 0 0 := rc_eq1 r_vu_1 rl_0 (ti_eq c_61) (by decide)
      refine lv_aload_n hx hb dX5_readOne_65 rfl (lv_at hl 1 rfl) ?_
      refine tk_v (va_runV (As := []) (rest := []) ⟨hx, hb, hml, hown, hts⟩ (c_X7_pass l D cy z H.size Ps ws hw.1 p1 h_p1) (cwV 0 hts (gV tw_982 tw_425 tw_426 tw_2 tw_427) rfl rfl rfl (by decide +kernel) ⟨Nat.le_of_ble_eq_true rfl, Nat.le_of_ble_eq_true rfl⟩) (tg_preV hw hK hSD hA (ci := 7) (q := (RX7, TX7, 12)) rfl h_p1 rfl) rfl rfl hl.1 rfl (lv_room (Nat.le_of_ble_eq_true rfl)) dX5_readOne_66 ⟨Nat.le_of_ble_eq_true rfl, Nat.le_of_ble_eq_true rfl⟩) hw hA ⟨by decide, by decide⟩ (fun ws H locs hp_v_2 hw hF9 => ?_)
      have m_u_1 := FLD.over hF9 m_u_1 (by decide)
      refine lv_aload_n hx hb dX5_readOne_69 rfl (lv_at hl 0 rfl) ?_
      refine lv_dup hx hb dX5_readOne_70 rfl ?_
      refine tg_get (ci := 5) (ts := ty_SENT) (C := RX5) (T := TX5) (N := 5) hx hb hts inX5 hown hK hw h_p0 rfl rfl 4 (by decide) (hts _ tw_955) (fun _ h9 => h9) (ft := vI (-2147483648) 2147483647) rfl dX5_readOne_71 (fun u_3 hv_u_3 m_u_3 => ?_)
      obtain ⟨vu_3, rfl, r_vu_3⟩ := hv_u_3
      refine lv_iconst (v := 1) hx hb dX5_readOne_74 (by decide) ?_
      refine lv_iadd hx hb dX5_readOne_75 (lv_topi (fun v_4 e_v_4 => ?_))
      have r_v_4 := ri_any v_4
      refine tg_put (ci := 5) (ts := ty_SENT) (v := .int v_4) (ty := .int) (C := RX5) (T := TX5) (N := 5) hx hb hts inX5 tyX5 tyX5_ok nmX5 hown hK hw h_p0 rfl rfl 4 (by decide) (hts _ tw_955) (fun _ h9 => h9) rfl (by decide +kernel) rfl rfl (ft := vI (-2147483648) 2147483647) rfl ⟨_, rfl, r_v_4⟩ (by decide) dX5_readOne_76 (fun ws H locs hw n_k_5 hF9 => ?_)
      have m_u_1 := FLD.over hF9 m_u_1 (by decide)
      refine lv_iload hx hb dX5_readOne_79 (lv_at hl 4 rfl) ?_
      refine lv_sipush (v := 146) hx hb dX5_readOne_81 (by decide) ?_
      refine lv_icmp_ne (tgt := 108) hx hb dX5_readOne_84 (by decide) (fun c_84 => ?_) (fun c_84 => ?_)
      · refine lv_iload hx hb dX5_readOne_108 (lv_at hl 4 rfl) ?_
        refine lv_bipush (v := 40) hx hb dX5_readOne_110 (by decide) ?_
        refine lv_icmp_ne (tgt := 133) hx hb dX5_readOne_112 (by decide) (fun c_112 => ?_) (fun c_112 => ?_)
        · refine lv_aload_n hx hb dX5_readOne_133 rfl (lv_at hl 0 rfl) ?_
          refine lv_aload_n hx hb dX5_readOne_134 rfl (lv_at hl 1 rfl) ?_
          refine lv_aload_n hx hb dX5_readOne_135 rfl (lv_at hl 2 rfl) ?_
          refine lv_iload hx hb dX5_readOne_136 (lv_at hl 4 rfl) ?_
          refine tk_v (va_runV (As := [.ref p1, .ref p2, .int x4]) (rest := []) ⟨hx, hb, hml, hown, hts⟩ (c_X5_readPlain l D cy z H.size Ps ws hw.1 p0 p1 p2 x4 h_p0 h_p1 h_p2 r_x4) (cwV 3 hts (gV tw_988 tw_990 ts_34 tw_23 tw_991) rfl rfl rfl (by decide +kernel) ⟨Nat.le_of_ble_eq_true rfl, Nat.le_of_ble_eq_true rfl⟩) (tg_preV hw hK hSD hA (ci := 5) (q := (RX5, TX5, 5)) rfl h_p0 rfl) rfl rfl hl.1 rfl (lv_room (Nat.le_of_ble_eq_true rfl)) dX5_readOne_138 ⟨Nat.le_of_ble_eq_true rfl, Nat.le_of_ble_eq_true rfl⟩) hw hA ⟨by decide, by decide⟩ (fun ws H locs hp_v_6 hw hF9 => ?_)
          have n_k_5 := FLD.over hF9 n_k_5 (by decide)
          obtain ⟨v_7, m_v_7, r_v_7⟩ := (hp_v_6.1)
          subst hQ
          exact W.vret hx hb hr (fun t ht hW => ⟨⟨ws, rfl, ⟨trivial, hw.1, hw.2.2.2.2.1⟩, by rw [ht]; exact hw.2.1, va_K.moved hW.alike hK, hw.2.2.1⟩, hw.2.2.2.1.F ht⟩) hw.2.2.2.1.2.2 dX5_readOne_141
        · have r_x4 : RI x4 40 40 := rc_eq1 r_x4 rl_40 (ti_eq c_112) (by decide)
          refine lv_aload_n hx hb dX5_readOne_115 rfl (lv_at hl 0 rfl) ?_
          refine lv_aload_n hx hb dX5_readOne_116 rfl (lv_at hl 1 rfl) ?_
          refine lv_aload_n hx hb dX5_readOne_117 rfl (lv_at hl 2 rfl) ?_
          refine lv_iload_n hx hb dX5_readOne_118 rfl (lv_at hl 3 rfl) ?_
          refine lv_iconst (v := 1) hx hb dX5_readOne_119 (by decide) ?_
          refine lv_iadd hx hb dX5_readOne_120 (lv_topi (fun v_8 e_v_8 => ?_))
          obtain ⟨t_v_8, r_v_8⟩ := tq_add (lo := 3) (hi := 3) r_p3 rl_1 (by decide +kernel) e_v_8
          have t_v_8 : v_8.toInt = p3.toInt + 1 := t_v_8
          refine tk_v (va_runV (As := [.ref p1, .ref p2, .int v_8]) (rest := []) ⟨hx, hb, hml, hown, hts⟩ (c_X5_readCond__2 l D cy z H.size Ps ws hw.1 p0 p1 p2 v_8 h_p0 h_p1 h_p2 r_v_8) (cwV 3 hts (gV tw_973 tw_975 ts_31 tw_23 tw_976) rfl rfl rfl (by decide +kernel) ⟨Nat.le_of_ble_eq_true rfl, Nat.le_of_ble_eq_true rfl⟩) (tg_preV hw hK hSD hA (ci := 5) (q := (RX5, TX5, 5)) rfl h_p0 rfl) rfl rfl hl.1 rfl (lv_room (Nat.le_of_ble_eq_true rfl)) dX5_readOne_121 ⟨Nat.le_of_ble_eq_true rfl, Nat.le_of_ble_eq_true rfl⟩) hw hA ⟨by decide, by decide⟩ (fun ws H locs hp_v_9 hw hF9 => ?_)
          refine lv_aload_n hx hb dX5_readOne_124 rfl (lv_at hl 1 rfl) ?_
          refine lv_bipush (v := 41) hx hb dX5_readOne_125 (by decide) ?_
          refine tk_v (va_runV (As := [.int 41]) (rest := []) ⟨hx, hb, hml, hown, hts⟩ (c_X7_passOnly l D cy z H.size Ps ws hw.1 p1 41 h_p1 (rl_41.to (by decide))) (cwV 1 hts (gV tw_987 tw_514 tw_515 tw_2 tw_516) rfl rfl rfl (by decide +kernel) ⟨Nat.le_of_ble_eq_true rfl, Nat.le_of_ble_eq_true rfl⟩) (tg_preV hw hK hSD hA (ci := 7) (q := (RX7, TX7, 12)) rfl h_p1 rfl) rfl rfl hl.1 rfl (lv_room (Nat.le_of_ble_eq_true rfl)) dX5_readOne_127 ⟨Nat.le_of_ble_eq_true rfl, Nat.le_of_ble_eq_true rfl⟩) hw hA ⟨by decide, by decide⟩ (fun ws H locs hp_v_10 hw hF9 => ?_)
          refine lv_goto (tgt := 141) hx hb dX5_readOne_130 (by decide) ?_
          subst hQ
          exact W.vret hx hb hr (fun t ht hW => ⟨⟨ws, rfl, ⟨trivial, hw.1, hw.2.2.2.2.1⟩, by rw [ht]; exact hw.2.1, va_K.moved hW.alike hK, hw.2.2.1⟩, hw.2.2.2.1.F ht⟩) hw.2.2.2.1.2.2 dX5_readOne_141
      · have r_x4 : RI x4 146 146 := rc_eq1 r_x4 rl_146 (ti_eq c_84) (by decide)
        refine lv_aload_n hx hb dX5_readOne_87 rfl (lv_at hl 0 rfl) ?_
        refine lv_aload_n hx hb dX5_readOne_88 rfl (lv_at hl 1 rfl) ?_
        refine lv_aload_n hx hb dX5_readOne_89 rfl (lv_at hl 2 rfl) ?_
        refine lv_iload_n hx hb dX5_readOne_90 rfl (lv_at hl 3 rfl) ?_
        refine lv_iconst (v := 1) hx hb dX5_readOne_91 (by decide) ?_
        refine lv_iadd hx hb dX5_readOne_92 (lv_topi (fun v_11 e_v_11 => ?_))
        obtain ⟨t_v_11, r_v_11⟩ := tq_add (lo := 3) (hi := 3) r_p3 rl_1 (by decide +kernel) e_v_11
        have t_v_11 : v_11.toInt = p3.toInt + 1 := t_v_11
        refine tk_v (va_runV (As := [.ref p1, .ref p2, .int v_11]) (rest := []) ⟨hx, hb, hml, hown, hts⟩ (c_X5_readOne__2 l D cy z H.size Ps ws hw.1 p0 p1 p2 v_11 h_p0 h_p1 h_p2 r_v_11) (cwV 3 hts (gV tw_977 tw_979 ts_32 tw_23 tw_980) rfl rfl rfl (by decide +kernel) ⟨Nat.le_of_ble_eq_true rfl, Nat.le_of_ble_eq_true rfl⟩) (tg_preV hw hK hSD hA (ci := 5) (q := (RX5, TX5, 5)) rfl h_p0 rfl) rfl rfl hl.1 rfl (lv_room (Nat.le_of_ble_eq_true rfl)) dX5_readOne_93 ⟨Nat.le_of_ble_eq_true rfl, Nat.le_of_ble_eq_true rfl⟩) hw hA ⟨by decide, by decide⟩ (fun ws H locs hp_v_12 hw hF9 => ?_)
        refine lv_aload_n hx hb dX5_readOne_96 rfl (lv_at hl 0 rfl) ?_
        refine lv_sipush (v := 146) hx hb dX5_readOne_97 (by decide) ?_
        refine lv_iconst (v := 0) hx hb dX5_readOne_100 (by decide) ?_
        refine lv_iconst (v := 0) hx hb dX5_readOne_101 (by decide) ?_
        refine tk_v (va_runV (As := [.int 146, .int 0, .int 0]) (rest := []) ⟨hx, hb, hml, hown, hts⟩ (c_X5_addStep l D cy z H.size Ps ws hw.1 p0 146 0 0 h_p0 (rl_146.to (by decide)) (rl_0.to (by decide)) (rl_0.to (by decide))) (cwV 3 hts (gV tw_983 tw_985 ts_33 tw_23 tw_986) rfl rfl rfl (by decide +kernel) ⟨Nat.le_of_ble_eq_true rfl, Nat.le_of_ble_eq_true rfl⟩) (tg_preV hw hK hSD hA (ci := 5) (q := (RX5, TX5, 5)) rfl h_p0 rfl) rfl rfl hl.1 rfl (lv_room (Nat.le_of_ble_eq_true rfl)) dX5_readOne_102 ⟨Nat.le_of_ble_eq_true rfl, Nat.le_of_ble_eq_true rfl⟩) hw hA ⟨by decide, by decide⟩ (fun ws H locs hp_v_13 hw hF9 => ?_)
        obtain ⟨v_14, m_v_14, r_v_14⟩ := (hp_v_13.1)
        refine lv_goto (tgt := 141) hx hb dX5_readOne_105 (by decide) ?_
        subst hQ
        exact W.vret hx hb hr (fun t ht hW => ⟨⟨ws, rfl, ⟨trivial, hw.1, hw.2.2.2.2.1⟩, by rw [ht]; exact hw.2.1, va_K.moved hW.alike hK, hw.2.2.1⟩, hw.2.2.2.1.F ht⟩) hw.2.2.2.1.2.2 dX5_readOne_141
    · have r_vu_1 : RI vu_1 1 4 := rc_neL r_vu_1 rl_0 (ti_ne c_61) (by decide)
      subst hQ
      exact W.vret hx hb hr (fun t ht hW => ⟨⟨ws, rfl, ⟨trivial, hw.1, hw.2.2.2.2.1⟩, by rw [ht]; exact hw.2.1, va_K.moved hW.alike hK, hw.2.2.1⟩, hw.2.2.2.1.F ht⟩) hw.2.2.2.1.2.2 dX5_readOne_64
  have B52 : ∀ (x4 : Int32) (z0_4 : Int32) (z1_7 : Int32) (ws : va_W) (H : Heap) (locs : List Loc) (ls : Array Slot), RI p3 2 2 → RI x4 40 155 → RI z0_4 20 2147483647 → FLD ws p0 5 4 (.int z0_4) → RI z1_7 40 155 → FLD ws p1 7 7 (.int z1_7) → WD D cy GG A s wr_X5_readOne__1 wa_X5_readOne__1 Ps w0 Ps ws H locs → lv_has ls 5 [(0, .ref p0), (1, .ref p1), (2, .ref p2), (3, .int p3), (4, .int x4)] → W p l e (headSpec (Cond.code yX5_readOne cX5_readOne 5 none :: gT) ({ frames := 17, cells := 0, slots := 0, locals := 3400 } : Room)).room s m ([.ref p0, .ref p1, .ref p2, .int p3] : List Value).toArray below meth c H locs 0 0 Q (F0 m 52 ls []) := by
    intro x4 z0_4 z1_7 ws H locs ls r_p3 r_x4 r_z0_4 m_z0_4 r_z1_7 m_z1_7 hw hl
    refine lv_aload_n hx hb dX5_readOne_52 rfl (lv_at hl 1 rfl) ?_
    refine lv_iconst (v := 4) hx hb dX5_readOne_53 (by decide) ?_
    refine tk_v (va_runV (As := [.int 4]) (rest := []) ⟨hx, hb, hml, hown, hts⟩ (c_X7_refuse l D cy z H.size Ps ws hw.1 p1 4 h_p1 (rl_4.to (by decide))) (cwV 1 hts (gV tw_981 tw_443 tw_444 tw_2 tw_445) rfl rfl rfl (by decide +kernel) ⟨Nat.le_of_ble_eq_true rfl, Nat.le_of_ble_eq_true rfl⟩) (tg_preV hw hK hSD hA (ci := 7) (q := (RX7, TX7, 12)) rfl h_p1 rfl) rfl rfl hl.1 rfl (lv_room (Nat.le_of_ble_eq_true rfl)) dX5_readOne_54 ⟨Nat.le_of_ble_eq_true rfl, Nat.le_of_ble_eq_true rfl⟩) hw hA ⟨by decide, by decide⟩ (fun ws H locs hp_v_15 hw hF9 => ?_)
    have m_z0_4 := FLD.over hF9 m_z0_4 (by decide)
    have m_z1_7 := FLD.over hF9 m_z1_7 (by decide)
    obtain ⟨v_16, m_v_16, r_v_16⟩ := (hp_v_15.1)
    exact B57 x4 ws _ _ ls r_p3 (r_x4.to (by decide)) hw hl
  have B37 : ∀ (x4 : Int32) (z1_7 : Int32) (ws : va_W) (H : Heap) (locs : List Loc) (ls : Array Slot), RI p3 2 2 → RI x4 40 155 → RI z1_7 40 155 → FLD ws p1 7 7 (.int z1_7) → WD D cy GG A s wr_X5_readOne__1 wa_X5_readOne__1 Ps w0 Ps ws H locs → lv_has ls 5 [(0, .ref p0), (1, .ref p1), (2, .ref p2), (3, .int p3), (4, .int x4)] → W p l e (headSpec (Cond.code yX5_readOne cX5_readOne 5 none :: gT) ({ frames := 17, cells := 0, slots := 0, locals := 3400 } : Room)).room s m ([.ref p0, .ref p1, .ref p2, .int p3] : List Value).toArray below meth c H locs 0 0 Q (F0 m 37 ls []) := by
    intro x4 z1_7 ws H locs ls r_p3 r_x4 r_z1_7 m_z1_7 hw hl
    refine lv_aload_n hx hb dX5_readOne_37 rfl (lv_at hl 0 rfl) ?_
    refine tg_get (ci := 5) (ts := ty_SENT) (C := RX5) (T := TX5) (N := 5) hx hb hts inX5 hown hK hw h_p0 rfl rfl 4 (by decide) (hts _ tw_955) (fun _ h9 => h9) (ft := vI (-2147483648) 2147483647) rfl dX5_readOne_38 (fun u_17 hv_u_17 m_u_17 => ?_)
    obtain ⟨vu_17, rfl, r_vu_17⟩ := hv_u_17
    refine lv_bipush (v := 20) hx hb dX5_readOne_41 (by decide) ?_
    refine lv_icmp_ge (tgt := 52) hx hb dX5_readOne_43 (by decide) (fun c_43 => ?_) (fun c_43 => ?_)
    · have r_vu_17 : RI vu_17 20 2147483647 := rc_le2 rl_20 r_vu_17 (ti_le c_43) (by decide)
      exact B52 x4 vu_17 z1_7 ws _ _ ls r_p3 r_x4 r_vu_17 m_u_17 r_z1_7 m_z1_7 hw hl
    · have r_vu_17 : RI vu_17 (-2147483648) 19 := rc_lt1 r_vu_17 rl_20 (ti_nle c_43) (by decide)
      refine lv_iload_n hx hb dX5_readOne_46 rfl (lv_at hl 3 rfl) ?_
      refine lv_bipush (v := 8) hx hb dX5_readOne_47 (by decide) ?_
      refine lv_icmp_le (tgt := 57) hx hb dX5_readOne_49 (by decide) (fun c_49 => ?_) (fun c_49 => ?_)
      · exact B57 x4 ws _ _ ls r_p3 (r_x4.to (by decide)) hw hl
      · have r_p3 : RI p3 9 2 := rc_lt2 rl_8 r_p3 (ti_nle c_49) (by decide)
        exact (r_p3.no (by decide)).elim
  have B29 : ∀ (x4 : Int32) (ws : va_W) (H : Heap) (locs : List Loc) (ls : Array Slot), RI p3 2 2 → RI x4 (-2147483648) 2147483647 → WD D cy GG A s wr_X5_readOne__1 wa_X5_readOne__1 Ps w0 Ps ws H locs → lv_has ls 5 [(0, .ref p0), (1, .ref p1), (2, .ref p2), (3, .int p3), (4, .int x4)] → W p l e (headSpec (Cond.code yX5_readOne cX5_readOne 5 none :: gT) ({ frames := 17, cells := 0, slots := 0, locals := 3400 } : Room)).room s m ([.ref p0, .ref p1, .ref p2, .int p3] : List Value).toArray below meth c H locs 0 0 Q (F0 m 29 ls []) := by
    intro x4 ws H locs ls r_p3 r_x4 hw hl
    refine lv_aload_n hx hb dX5_readOne_29 rfl (lv_at hl 1 rfl) ?_
    refine lv_iconst (v := 1) hx hb dX5_readOne_30 (by decide) ?_
    refine tk_v (va_runV (As := [.int 1]) (rest := []) ⟨hx, hb, hml, hown, hts⟩ (c_X7_refuse l D cy z H.size Ps ws hw.1 p1 1 h_p1 (rl_1.to (by decide))) (cwV 1 hts (gV tw_981 tw_443 tw_444 tw_2 tw_445) rfl rfl rfl (by decide +kernel) ⟨Nat.le_of_ble_eq_true rfl, Nat.le_of_ble_eq_true rfl⟩) (tg_preV hw hK hSD hA (ci := 7) (q := (RX7, TX7, 12)) rfl h_p1 rfl) rfl rfl hl.1 rfl (lv_room (Nat.le_of_ble_eq_true rfl)) dX5_readOne_31 ⟨Nat.le_of_ble_eq_true rfl, Nat.le_of_ble_eq_true rfl⟩) hw hA ⟨by decide, by decide⟩ (fun ws H locs hp_v_18 hw hF9 => ?_)
    obtain ⟨v_19, m_v_19, r_v_19⟩ := (hp_v_18.1)
    refine lv_goto (tgt := 57) hx hb dX5_readOne_34 (by decide) ?_
    exact B57 x4 ws _ _ ls r_p3 r_x4 hw hl
  refine lv_aload_n hx hb dX5_readOne_0 rfl (lv_at hl 1 rfl) ?_
  refine tg_getN (ci := 7) (ts := ty_TAPE) (C := RX7) (T := TX7) (N := 12) hx hb hts inX7 hown hK hw h_p1 rfl rfl 7 (by decide) (hSD.nest tn_96) (fun _ h9 => h9) (ft := vI (-2147483648) 2147483647) rfl dX5_readOne_1 (fun u_20 hv_u_20 m_u_20 => ?_)
  obtain ⟨vu_20, rfl, r_vu_20⟩ := hv_u_20
  refine lv_istore (lv' := [(4, .int vu_20), (0, .ref p0), (1, .ref p1), (2, .ref p2), (3, .int p3)]) hx hb dX5_readOne_4 hl (by decide) rfl (fun ls hl => ?_)
  refine lv_iload hx hb dX5_readOne_6 (lv_at hl 0 rfl) ?_
  refine lv_bipush (v := 40) hx hb dX5_readOne_8 (by decide) ?_
  refine lv_icmp_eq (tgt := 37) hx hb dX5_readOne_10 (by decide) (fun c_10 => ?_) (fun c_10 => ?_)
  · have r_vu_20 : RI vu_20 40 40 := rc_eq1 r_vu_20 rl_40 (ti_eq c_10) (by decide)
    exact B37 vu_20 vu_20 w0 _ _ ls r_p3 (r_vu_20.to (by decide)) (r_vu_20.to (by decide)) m_u_20 hw (lv_sub hl [1, 2, 3, 4, 0] rfl)
  · refine lv_iload hx hb dX5_readOne_13 (lv_at hl 0 rfl) ?_
    refine lv_sipush (v := 146) hx hb dX5_readOne_15 (by decide) ?_
    refine lv_icmp_lt (tgt := 29) hx hb dX5_readOne_18 (by decide) (fun c_18 => ?_) (fun c_18 => ?_)
    · have r_vu_20 : RI vu_20 (-2147483648) 145 := rc_lt1 r_vu_20 rl_146 (ti_lt c_18) (by decide)
      exact B29 vu_20 w0 _ _ ls r_p3 (r_vu_20.to (by decide)) hw (lv_sub hl [1, 2, 3, 4, 0] rfl)
    · have r_vu_20 : RI vu_20 146 2147483647 := rc_le2 rl_146 r_vu_20 (ti_nlt c_18) (by decide)
      refine lv_iload hx hb dX5_readOne_21 (lv_at hl 0 rfl) ?_
      refine lv_sipush (v := 155) hx hb dX5_readOne_23 (by decide) ?_
      refine lv_icmp_le (tgt := 37) hx hb dX5_readOne_26 (by decide) (fun c_26 => ?_) (fun c_26 => ?_)
      · have r_vu_20 : RI vu_20 146 155 := rc_le1 r_vu_20 rl_155 (ti_le c_26) (by decide)
        exact B37 vu_20 vu_20 w0 _ _ ls r_p3 (r_vu_20.to (by decide)) (r_vu_20.to (by decide)) m_u_20 hw (lv_sub hl [1, 2, 3, 4, 0] rfl)
      · have r_vu_20 : RI vu_20 156 2147483647 := rc_lt2 rl_155 r_vu_20 (ti_nle c_26) (by decide)
        exact B29 vu_20 w0 _ _ ls r_p3 (r_vu_20.to (by decide)) hw (lv_sub hl [1, 2, 3, 4, 0] rfl)
abbrev wr_X5_readCond__1 : List (Nat × Nat) := [(5, 3), (5, 4), (7, 5), (7, 6), (7, 7), (7, 8), (7, 9), (7, 10), (7, 11)]
abbrev wa_X5_readCond__1 : List Nat := [21]
set_option maxHeartbeats 4000000 in
set_option maxRecDepth 100000 in
theorem c_X5_readCond__1 (l : Launch) (D : va_G) (cy : Nat → ClassId) (z : Nat → Nat) (sz : Nat) (Ps : PSI) (w0 : va_W) (hT : HT cy GG Ps w0) (p0 : Nat) (p1 : Nat) (p2 : Nat) (p3 : Int32) (h_p0 : (p0, 32) ∈ Ps) (h_p1 : (p1, 26) ∈ Ps) (h_p2 : (p2, 25) ∈ Ps) (r_p3 : RI p3 2 2) : Met l yX5_readCond (Cond.code yX5_readCond cX5_readCond 7 none :: gT) ({ frames := 18, cells := 0, slots := 0, locals := 3600 } : Room) (va_Pc [.ref p0, .ref p1, .ref p2, .int p3] (PRE D cy z w0 sz)) (va_Qv (fun (u : va_W) => (True) ∧ HT cy GG Ps u ∧ FR wr_X5_readCond__1 wa_X5_readCond__1 Ps w0 u) (BB D cy (va_A w0 sz) (fun (u : va_W) => u)) (va_A w0 sz)) 0 0 (va_A w0 sz) := by
  refine Met.ofW (cc := cX5_readCond) (maxL := 7) (ret := none) (by decide) rfl ?_
  intro p e s m args below meth c s₁ B hml hv
  obtain ⟨rfl, hsz, hP, hK, hD0, hSD⟩ := hv
  have hx := B.exec
  have hb := B.bytes
  have hr := B.returns
  have hlocks := B.notSynchronized
  have hts : ∀ w ∈ gT, w.before _ s = true := fun w h => atoms_spec (ws := Cond.code yX5_readCond cX5_readCond 7 none :: gT) B.pre w (List.mem_cons_of_mem _ h)
  have hown : s.vm.findClass RX5 = some m.cls := findClass_of_methodNamed B.named
  subst hsz
  have hD := hD0.self (sz := s.heap.size)
  generalize hAe : va_A w0 s.heap.size = A at hD hSD ⊢
  have hA : ∀ q : Nat, s.heap.size ≤ q → A q := fun q h => by rw [← hAe]; exact Or.inr h
  have hl := lv_entry ([.ref p0, .ref p1, .ref p2, .int p3]) (n := 7) (Nat.le_of_ble_eq_true rfl)
  rw [lg_entry_eq]
  generalize (lg_sl ([.ref p0, .ref p1, .ref p2, .int p3]) ++ List.replicate (7 - (lg_sl ([.ref p0, .ref p1, .ref p2, .int p3])).length) Slot.unset).toArray = ls at hl ⊢
  have hl : lv_has ls 7 [(0, .ref p0), (1, .ref p1), (2, .ref p2), (3, .int p3)] := hl
  refine nameQ (fun Q hQ => ?_)
  have hw : WD D cy GG A s wr_X5_readCond__1 wa_X5_readCond__1 Ps w0 Ps w0 s.heap [] := ⟨hT, hP, hD, va_S.rf, FR.rf, hT.1, [], (List.append_nil _).symm⟩
  have B106 : ∀ (x4 : Int32) (x5 : Int32) (ws : va_W) (H : Heap) (locs : List Loc) (ls : Array Slot), RI p3 2 2 → RI x4 (-2147483648) 2147483647 → RI x5 0 21 → WD D cy GG A s wr_X5_readCond__1 wa_X5_readCond__1 Ps w0 Ps ws H locs → lv_has ls 7 [(0, .ref p0), (1, .ref p1), (2, .ref p2), (3, .int p3), (4, .int x4), (5, .int x5)] → W p l e (headSpec (Cond.code yX5_readCond cX5_readCond 7 none :: gT) ({ frames := 18, cells := 0, slots := 0, locals := 3600 } : Room)).room s m ([.ref p0, .ref p1, .ref p2, .int p3] : List Value).toArray below meth c H locs 0 0 Q (F0 m 106 ls []) := by
    intro x4 x5 ws H locs ls r_p3 r_x4 r_x5 hw hl
    refine lv_iload hx hb dX5_readCond_106 (lv_at hl 4 rfl) ?_
    refine lv_if_eq (tgt := 120) hx hb dX5_readCond_108 (by decide) (fun c_108 => ?_) (fun c_108 => ?_)
    · have r_x4 : RI x4 0 0 := rc_eq1 r_x4 rl_0 (ti_eq c_108) (by decide)
      subst hQ
      exact W.vret hx hb hr (fun t ht hW => ⟨⟨ws, rfl, ⟨trivial, hw.1, hw.2.2.2.2.1⟩, by rw [ht]; exact hw.2.1, va_K.moved hW.alike hK, hw.2.2.1⟩, hw.2.2.2.1.F ht⟩) hw.2.2.2.1.2.2 dX5_readCond_120
    · refine lv_aload_n hx hb dX5_readCond_111 rfl (lv_at hl 0 rfl) ?_
      refine lv_sipush (v := 144) hx hb dX5_readCond_112 (by decide) ?_
      refine lv_iconst (v := 0) hx hb dX5_readCond_115 (by decide) ?_
      refine lv_iconst (v := 0) hx hb dX5_readCond_116 (by decide) ?_
      refine tk_v (va_runV (As := [.int 144, .int 0, .int 0]) (rest := []) ⟨hx, hb, hml, hown, hts⟩ (c_X5_addStep l D cy z H.size Ps ws hw.1 p0 144 0 0 h_p0 (rl_144.to (by decide)) (rl_0.to (by decide)) (rl_0.to (by decide))) (cwV 3 hts (gV tw_983 tw_985 ts_33 tw_23 tw_986) rfl rfl rfl (by decide +kernel) ⟨Nat.le_of_ble_eq_true rfl, Nat.le_of_ble_eq_true rfl⟩) (tg_preV hw hK hSD hA (ci := 5) (q := (RX5, TX5, 5)) rfl h_p0 rfl) rfl rfl hl.1 rfl (lv_room (Nat.le_of_ble_eq_true rfl)) dX5_readCond_117 ⟨Nat.le_of_ble_eq_true rfl, Nat.le_of_ble_eq_true rfl⟩) hw hA ⟨by decide, by decide⟩ (fun ws H locs hp_v_1 hw hF9 => ?_)
      obtain ⟨v_2, m_v_2, r_v_2⟩ := (hp_v_1.1)
      subst hQ
      exact W.vret hx hb hr (fun t ht hW => ⟨⟨ws, rfl, ⟨trivial, hw.1, hw.2.2.2.2.1⟩, by rw [ht]; exact hw.2.1, va_K.moved hW.alike hK, hw.2.2.1⟩, hw.2.2.2.1.F ht⟩) hw.2.2.2.1.2.2 dX5_readCond_120
  have B13 : ∀ (nf : Nat) (x4 : Int32) (x5 : Int32) (ws : va_W) (H : Heap) (locs : List Loc) (ls : Array Slot), 20 - x5.toInt < (nf : Int) → RI p3 2 2 → RI x4 (-2147483648) 2147483647 → RI x5 0 20 → WD D cy GG A s wr_X5_readCond__1 wa_X5_readCond__1 Ps w0 Ps ws H locs → lv_has ls 7 [(0, .ref p0), (1, .ref p1), (2, .ref p2), (3, .int p3), (4, .int x4), (5, .int x5)] → W p l e (headSpec (Cond.code yX5_readCond cX5_readCond 7 none :: gT) ({ frames := 18, cells := 0, slots := 0, locals := 3600 } : Room)).room s m ([.ref p0, .ref p1, .ref p2, .int p3] : List Value).toArray below meth c H locs 0 0 Q (F0 m 13 ls []) := by
    intro nf13
    induction nf13 with
    | zero =>
      intro x4 x5 ws H locs ls hn13 r_p3 r_x4 r_x5 hw hl
      exact absurd hn13 (by have q0 := r_x5.1; have u0 := r_x5.2; omega)
    | succ nf13 ih13 =>
      have B72 : ∀ (x4 : Int32) (x5 : Int32) (x6 : Int32) (ws : va_W) (H : Heap) (locs : List Loc) (ls : Array Slot), RI p3 2 2 → RI x4 (-2147483648) 2147483647 → RI x5 0 19 → RI x6 0 1 → 20 - x5.toInt < ((nf13 + 1 : Nat) : Int) → WD D cy GG A s wr_X5_readCond__1 wa_X5_readCond__1 Ps w0 Ps ws H locs → lv_has ls 7 [(0, .ref p0), (1, .ref p1), (2, .ref p2), (3, .int p3), (4, .int x4), (5, .int x5), (6, .int x6)] → W p l e (headSpec (Cond.code yX5_readCond cX5_readCond 7 none :: gT) ({ frames := 18, cells := 0, slots := 0, locals := 3600 } : Room)).room s m ([.ref p0, .ref p1, .ref p2, .int p3] : List Value).toArray below meth c H locs 0 0 Q (F0 m 72 ls []) := by
        intro x4 x5 x6 ws H locs ls r_p3 r_x4 r_x5 r_x6 hn13 hw hl
        refine lv_iload hx hb dX5_readCond_72 (lv_at hl 4 rfl) ?_
        refine lv_iload hx hb dX5_readCond_74 (lv_at hl 6 rfl) ?_
        refine lv_ior hx hb dX5_readCond_76 (lv_topi (fun v_3 e_v_3 => ?_))
        have r_v_3 := ri_any v_3
        refine lv_istore (lv' := [(4, .int v_3), (0, .ref p0), (1, .ref p1), (2, .ref p2), (3, .int p3), (5, .int x5), (6, .int x6)]) hx hb dX5_readCond_77 hl (by decide) rfl (fun ls hl => ?_)
        refine lv_aload_n hx hb dX5_readCond_79 rfl (lv_at hl 1 rfl) ?_
        refine lv_aload_n hx hb dX5_readCond_80 rfl (lv_at hl 2 rfl) ?_
        refine lv_aload_n hx hb dX5_readCond_81 rfl (lv_at hl 3 rfl) ?_
        refine lv_iload_n hx hb dX5_readCond_82 rfl (lv_at hl 4 rfl) ?_
        refine tk_v (va_runV (As := [.ref p1, .ref p2, .int p3]) (rest := []) ⟨hx, hb, hml, hown, hts⟩ (c_X5_readOne__1 l D cy z H.size Ps ws hw.1 p0 p1 p2 p3 h_p0 h_p1 h_p2 r_p3) (cwV 3 hts (gV tw_977 tw_979 ts_32 tw_23 tw_980) rfl rfl rfl (by decide +kernel) ⟨Nat.le_of_ble_eq_true rfl, Nat.le_of_ble_eq_true rfl⟩) (tg_preV hw hK hSD hA (ci := 5) (q := (RX5, TX5, 5)) rfl h_p0 rfl) rfl rfl hl.1 rfl (lv_room (Nat.le_of_ble_eq_true rfl)) dX5_readCond_83 ⟨Nat.le_of_ble_eq_true rfl, Nat.le_of_ble_eq_true rfl⟩) hw hA ⟨by decide, by decide⟩ (fun ws H locs hp_v_4 hw hF9 => ?_)
        refine lv_iload hx hb dX5_readCond_86 (lv_at hl 6 rfl) ?_
        refine lv_if_ne (tgt := 100) hx hb dX5_readCond_88 (by decide) (fun c_88 => ?_) (fun c_88 => ?_)
        · have r_x6 : RI x6 1 1 := rc_neL r_x6 rl_0 (ti_ne c_88) (by decide)
          obtain ⟨v_5, e_v_5⟩ : ∃ q9 : Int32, q9 = x5 + Int32.ofInt 1 := ⟨_, rfl⟩
          obtain ⟨t_v_5, r_v_5⟩ := tq_add (lo := 1) (hi := 20) r_x5 (show RI (Int32.ofInt 1) 1 1 by unfold RI; decide +kernel) (by decide +kernel) e_v_5
          have t_v_5 : v_5.toInt = x5.toInt + 1 := t_v_5
          refine lv_iinc (v := v_5) (lv' := [(5, .int v_5), (4, .int v_3), (0, .ref p0), (1, .ref p1), (2, .ref p2), (3, .int p3), (6, .int x6)]) hx hb dX5_readCond_100 hl (k := 5) rfl e_v_5.symm (by decide) rfl (fun ls hl => ?_)
          refine lv_goto (tgt := 13) hx hb dX5_readCond_103 (by decide) ?_
          exact ih13 v_3 v_5 ws _ _ ls (by have q0 := r_v_5.1; have u0 := r_v_5.2; have o0 := r_x5.1; have p0 := r_x5.2; omega) r_p3 r_v_3 (r_v_5.to (by decide)) hw (lv_sub hl [2, 3, 4, 5, 1, 0] rfl)
        · have r_x6 : RI x6 0 0 := rc_eq1 r_x6 rl_0 (ti_eq c_88) (by decide)
          refine lv_aload_n hx hb dX5_readCond_91 rfl (lv_at hl 1 rfl) ?_
          refine lv_sipush (v := 145) hx hb dX5_readCond_92 (by decide) ?_
          refine lv_iconst (v := 0) hx hb dX5_readCond_95 (by decide) ?_
          refine lv_iconst (v := 0) hx hb dX5_readCond_96 (by decide) ?_
          refine tk_v (va_runV (As := [.int 145, .int 0, .int 0]) (rest := []) ⟨hx, hb, hml, hown, hts⟩ (c_X5_addStep l D cy z H.size Ps ws hw.1 p0 145 0 0 h_p0 (rl_145.to (by decide)) (rl_0.to (by decide)) (rl_0.to (by decide))) (cwV 3 hts (gV tw_983 tw_985 ts_33 tw_23 tw_986) rfl rfl rfl (by decide +kernel) ⟨Nat.le_of_ble_eq_true rfl, Nat.le_of_ble_eq_true rfl⟩) (tg_preV hw hK hSD hA (ci := 5) (q := (RX5, TX5, 5)) rfl h_p0 rfl) rfl rfl hl.1 rfl (lv_room (Nat.le_of_ble_eq_true rfl)) dX5_readCond_97 ⟨Nat.le_of_ble_eq_true rfl, Nat.le_of_ble_eq_true rfl⟩) hw hA ⟨by decide, by decide⟩ (fun ws H locs hp_v_6 hw hF9 => ?_)
          obtain ⟨v_7, m_v_7, r_v_7⟩ := (hp_v_6.1)
          obtain ⟨v_8, e_v_8⟩ : ∃ q9 : Int32, q9 = x5 + Int32.ofInt 1 := ⟨_, rfl⟩
          obtain ⟨t_v_8, r_v_8⟩ := tq_add (lo := 1) (hi := 20) r_x5 (show RI (Int32.ofInt 1) 1 1 by unfold RI; decide +kernel) (by decide +kernel) e_v_8
          have t_v_8 : v_8.toInt = x5.toInt + 1 := t_v_8
          refine lv_iinc (v := v_8) (lv' := [(5, .int v_8), (4, .int v_3), (0, .ref p0), (1, .ref p1), (2, .ref p2), (3, .int p3), (6, .int x6)]) hx hb dX5_readCond_100 hl (k := 5) rfl e_v_8.symm (by decide) rfl (fun ls hl => ?_)
          refine lv_goto (tgt := 13) hx hb dX5_readCond_103 (by decide) ?_
          exact ih13 v_3 v_8 ws _ _ ls (by have q0 := r_v_8.1; have u0 := r_v_8.2; have o0 := r_x5.1; have p0 := r_x5.2; omega) r_p3 r_v_3 (r_v_8.to (by decide)) hw (lv_sub hl [2, 3, 4, 5, 1, 0] rfl)
      have B40 : ∀ (x4 : Int32) (x5 : Int32) (ws : va_W) (H : Heap) (locs : List Loc) (ls : Array Slot), RI p3 2 2 → RI x4 (-2147483648) 2147483647 → RI x5 0 19 → 20 - x5.toInt < ((nf13 + 1 : Nat) : Int) → WD D cy GG A s wr_X5_readCond__1 wa_X5_readCond__1 Ps w0 Ps ws H locs → lv_has ls 7 [(0, .ref p0), (1, .ref p1), (2, .ref p2), (3, .int p3), (4, .int x4), (5, .int x5)] → W p l e (headSpec (Cond.code yX5_readCond cX5_readCond 7 none :: gT) ({ frames := 18, cells := 0, slots := 0, locals := 3600 } : Room)).room s m ([.ref p0, .ref p1, .ref p2, .int p3] : List Value).toArray below meth c H locs 0 0 Q (F0 m 40 ls []) := by
        intro x4 x5 ws H locs ls r_p3 r_x4 r_x5 hn13 hw hl
        refine lv_aload_n hx hb dX5_readCond_40 rfl (lv_at hl 1 rfl) ?_
        refine lv_sipush (v := 144) hx hb dX5_readCond_41 (by decide) ?_
        refine tk_ir (va_runV (As := [.int 144]) (rest := []) ⟨hx, hb, hml, hown, hts⟩ (c_X7_sees l D cy z H.size Ps ws hw.1 p1 144 h_p1 (rl_144.to (by decide))) (cwV 1 hts (gV tw_994 tw_995 tw_996 tw_2 tw_997) rfl rfl rfl (by decide +kernel) ⟨Nat.le_of_ble_eq_true rfl, Nat.le_of_ble_eq_true rfl⟩) (tg_preV hw hK hSD hA (ci := 7) (q := (RX7, TX7, 12)) rfl h_p1 rfl) rfl rfl hl.1 rfl (lv_room (Nat.le_of_ble_eq_true rfl)) dX5_readCond_44 ⟨Nat.le_of_ble_eq_true rfl, Nat.le_of_ble_eq_true rfl⟩) hw hA (fun v_9  H locs hp_v_9 hw => ?_)
        have r_v_9 : RI v_9 0 1 := hp_v_9.1
        refine lv_istore (lv' := [(6, .int v_9), (0, .ref p0), (1, .ref p1), (2, .ref p2), (3, .int p3), (4, .int x4), (5, .int x5)]) hx hb dX5_readCond_47 hl (by decide) rfl (fun ls hl => ?_)
        refine lv_aload_n hx hb dX5_readCond_49 rfl (lv_at hl 2 rfl) ?_
        refine tk_v (va_runV (As := []) (rest := []) ⟨hx, hb, hml, hown, hts⟩ (c_X7_pass l D cy z H.size Ps ws hw.1 p1 h_p1) (cwV 0 hts (gV tw_982 tw_425 tw_426 tw_2 tw_427) rfl rfl rfl (by decide +kernel) ⟨Nat.le_of_ble_eq_true rfl, Nat.le_of_ble_eq_true rfl⟩) (tg_preV hw hK hSD hA (ci := 7) (q := (RX7, TX7, 12)) rfl h_p1 rfl) rfl rfl hl.1 rfl (lv_room (Nat.le_of_ble_eq_true rfl)) dX5_readCond_50 ⟨Nat.le_of_ble_eq_true rfl, Nat.le_of_ble_eq_true rfl⟩) hw hA ⟨by decide, by decide⟩ (fun ws H locs hp_v_10 hw hF9 => ?_)
        refine lv_iload hx hb dX5_readCond_53 (lv_at hl 0 rfl) ?_
        refine lv_if_eq (tgt := 72) hx hb dX5_readCond_55 (by decide) (fun c_55 => ?_) (fun c_55 => ?_)
        · have r_v_9 : RI v_9 0 0 := rc_eq1 r_v_9 rl_0 (ti_eq c_55) (by decide)
          exact B72 x4 x5 v_9 ws _ _ ls r_p3 r_x4 r_x5 (r_v_9.to (by decide)) (by have q0 := r_x5.1; have u0 := r_x5.2; omega) hw (lv_sub hl [1, 2, 3, 4, 5, 6, 0] rfl)
        · have r_v_9 : RI v_9 1 1 := rc_neL r_v_9 rl_0 (ti_ne c_55) (by decide)
          refine lv_iload hx hb dX5_readCond_58 (lv_at hl 5 rfl) ?_
          refine lv_if_eq (tgt := 72) hx hb dX5_readCond_60 (by decide) (fun c_60 => ?_) (fun c_60 => ?_)
          · have r_x4 : RI x4 0 0 := rc_eq1 r_x4 rl_0 (ti_eq c_60) (by decide)
            exact B72 x4 x5 v_9 ws _ _ ls r_p3 (r_x4.to (by decide)) r_x5 (r_v_9.to (by decide)) (by have q0 := r_x5.1; have u0 := r_x5.2; omega) hw (lv_sub hl [1, 2, 3, 4, 5, 6, 0] rfl)
          · refine lv_aload_n hx hb dX5_readCond_63 rfl (lv_at hl 1 rfl) ?_
            refine lv_sipush (v := 144) hx hb dX5_readCond_64 (by decide) ?_
            refine lv_iconst (v := 0) hx hb dX5_readCond_67 (by decide) ?_
            refine lv_iconst (v := 0) hx hb dX5_readCond_68 (by decide) ?_
            refine tk_v (va_runV (As := [.int 144, .int 0, .int 0]) (rest := []) ⟨hx, hb, hml, hown, hts⟩ (c_X5_addStep l D cy z H.size Ps ws hw.1 p0 144 0 0 h_p0 (rl_144.to (by decide)) (rl_0.to (by decide)) (rl_0.to (by decide))) (cwV 3 hts (gV tw_983 tw_985 ts_33 tw_23 tw_986) rfl rfl rfl (by decide +kernel) ⟨Nat.le_of_ble_eq_true rfl, Nat.le_of_ble_eq_true rfl⟩) (tg_preV hw hK hSD hA (ci := 5) (q := (RX5, TX5, 5)) rfl h_p0 rfl) rfl rfl hl.1 rfl (lv_room (Nat.le_of_ble_eq_true rfl)) dX5_readCond_69 ⟨Nat.le_of_ble_eq_true rfl, Nat.le_of_ble_eq_true rfl⟩) hw hA ⟨by decide, by decide⟩ (fun ws H locs hp_v_11 hw hF9 => ?_)
            obtain ⟨v_12, m_v_12, r_v_12⟩ := (hp_v_11.1)
            exact B72 x4 x5 v_9 ws _ _ ls r_p3 r_x4 r_x5 (r_v_9.to (by decide)) (by have q0 := r_x5.1; have u0 := r_x5.2; omega) hw (lv_sub hl [1, 2, 3, 4, 5, 6, 0] rfl)
      intro x4 x5 ws H locs ls hn13 r_p3 r_x4 r_x5 hw hl
      refine lv_iload hx hb dX5_readCond_13 (lv_at hl 5 rfl) ?_
      refine lv_bipush (v := 20) hx hb dX5_readCond_15 (by decide) ?_
      refine lv_icmp_ge (tgt := 106) hx hb dX5_readCond_17 (by decide) (fun c_17 => ?_) (fun c_17 => ?_)
      · have r_x5 : RI x5 20 20 := rc_le2 rl_20 r_x5 (ti_le c_17) (by decide)
        exact B106 x4 x5 ws _ _ ls r_p3 r_x4 (r_x5.to (by decide)) hw hl
      · have r_x5 : RI x5 0 19 := rc_lt1 r_x5 rl_20 (ti_nle c_17) (by decide)
        refine lv_aload_n hx hb dX5_readCond_20 rfl (lv_at hl 1 rfl) ?_
        refine lv_sipush (v := 144) hx hb dX5_readCond_21 (by decide) ?_
        refine tk_ir (va_runV (As := [.int 144]) (rest := []) ⟨hx, hb, hml, hown, hts⟩ (c_X7_sees l D cy z H.size Ps ws hw.1 p1 144 h_p1 (rl_144.to (by decide))) (cwV 1 hts (gV tw_994 tw_995 tw_996 tw_2 tw_997) rfl rfl rfl (by decide +kernel) ⟨Nat.le_of_ble_eq_true rfl, Nat.le_of_ble_eq_true rfl⟩) (tg_preV hw hK hSD hA (ci := 7) (q := (RX7, TX7, 12)) rfl h_p1 rfl) rfl rfl hl.1 rfl (lv_room (Nat.le_of_ble_eq_true rfl)) dX5_readCond_24 ⟨Nat.le_of_ble_eq_true rfl, Nat.le_of_ble_eq_true rfl⟩) hw hA (fun v_13  H locs hp_v_13 hw => ?_)
        have r_v_13 : RI v_13 0 1 := hp_v_13.1
        refine lv_if_ne (tgt := 40) hx hb dX5_readCond_27 (by decide) (fun c_27 => ?_) (fun c_27 => ?_)
        · have r_v_13 : RI v_13 1 1 := rc_neL r_v_13 rl_0 (ti_ne c_27) (by decide)
          exact B40 x4 x5 ws _ _ ls r_p3 r_x4 r_x5 (by have q0 := r_x5.1; have u0 := r_x5.2; omega) hw hl
        · have r_v_13 : RI v_13 0 0 := rc_eq1 r_v_13 rl_0 (ti_eq c_27) (by decide)
          refine lv_aload_n hx hb dX5_readCond_30 rfl (lv_at hl 1 rfl) ?_
          refine lv_sipush (v := 145) hx hb dX5_readCond_31 (by decide) ?_
          refine tk_ir (va_runV (As := [.int 145]) (rest := []) ⟨hx, hb, hml, hown, hts⟩ (c_X7_sees l D cy z H.size Ps ws hw.1 p1 145 h_p1 (rl_145.to (by decide))) (cwV 1 hts (gV tw_994 tw_995 tw_996 tw_2 tw_997) rfl rfl rfl (by decide +kernel) ⟨Nat.le_of_ble_eq_true rfl, Nat.le_of_ble_eq_true rfl⟩) (tg_preV hw hK hSD hA (ci := 7) (q := (RX7, TX7, 12)) rfl h_p1 rfl) rfl rfl hl.1 rfl (lv_room (Nat.le_of_ble_eq_true rfl)) dX5_readCond_34 ⟨Nat.le_of_ble_eq_true rfl, Nat.le_of_ble_eq_true rfl⟩) hw hA (fun v_14  H locs hp_v_14 hw => ?_)
          have r_v_14 : RI v_14 0 1 := hp_v_14.1
          refine lv_if_eq (tgt := 106) hx hb dX5_readCond_37 (by decide) (fun c_37 => ?_) (fun c_37 => ?_)
          · have r_v_14 : RI v_14 0 0 := rc_eq1 r_v_14 rl_0 (ti_eq c_37) (by decide)
            exact B106 x4 x5 ws _ _ ls r_p3 r_x4 (r_x5.to (by decide)) hw hl
          · have r_v_14 : RI v_14 1 1 := rc_neL r_v_14 rl_0 (ti_ne c_37) (by decide)
            exact B40 x4 x5 ws _ _ ls r_p3 r_x4 r_x5 (by have q0 := r_x5.1; have u0 := r_x5.2; omega) hw hl
  refine lv_iconst (v := 0) hx hb dX5_readCond_0 (by decide) ?_
  refine lv_istore (lv' := [(4, .int 0), (0, .ref p0), (1, .ref p1), (2, .ref p2), (3, .int p3)]) hx hb dX5_readCond_1 hl (by decide) rfl (fun ls hl => ?_)
  refine lv_aload_n hx hb dX5_readCond_3 rfl (lv_at hl 1 rfl) ?_
  refine lv_aload_n hx hb dX5_readCond_4 rfl (lv_at hl 2 rfl) ?_
  refine lv_aload_n hx hb dX5_readCond_5 rfl (lv_at hl 3 rfl) ?_
  refine lv_iload_n hx hb dX5_readCond_6 rfl (lv_at hl 4 rfl) ?_
  refine tk_v (va_runV (As := [.ref p1, .ref p2, .int p3]) (rest := []) ⟨hx, hb, hml, hown, hts⟩ (c_X5_readOne__1 l D cy z s.heap.size Ps w0 hw.1 p0 p1 p2 p3 h_p0 h_p1 h_p2 r_p3) (cwV 3 hts (gV tw_977 tw_979 ts_32 tw_23 tw_980) rfl rfl rfl (by decide +kernel) ⟨Nat.le_of_ble_eq_true rfl, Nat.le_of_ble_eq_true rfl⟩) (tg_preV hw hK hSD hA (ci := 5) (q := (RX5, TX5, 5)) rfl h_p0 rfl) rfl rfl hl.1 rfl (lv_room (Nat.le_of_ble_eq_true rfl)) dX5_readCond_7 ⟨Nat.le_of_ble_eq_true rfl, Nat.le_of_ble_eq_true rfl⟩) hw hA ⟨by decide, by decide⟩ (fun ws H locs hp_v_15 hw hF9 => ?_)
  refine lv_iconst (v := 0) hx hb dX5_readCond_10 (by decide) ?_
  refine lv_istore (lv' := [(5, .int 0), (4, .int 0), (0, .ref p0), (1, .ref p1), (2, .ref p2), (3, .int p3)]) hx hb dX5_readCond_11 hl (by decide) rfl (fun ls hl => ?_)
  exact B13 4294967298 0 0 ws _ _ ls (by have q0 := rl_0.1; have u0 := rl_0.2; omega) r_p3 (rl_0.to (by decide)) (rl_0.to (by decide)) hw (lv_sub hl [2, 3, 4, 5, 1, 0] rfl)
abbrev wr_X5_readOne : List (Nat × Nat) := [(5, 3), (5, 4), (7, 5), (7, 6), (7, 7), (7, 8), (7, 9), (7, 10), (7, 11)]
abbrev wa_X5_readOne : List Nat := [21]
set_option maxHeartbeats 4000000 in
set_option maxRecDepth 100000 in
theorem c_X5_readOne (l : Launch) (D : va_G) (cy : Nat → ClassId) (z : Nat → Nat) (sz : Nat) (Ps : PSI) (w0 : va_W) (hT : HT cy GG Ps w0) (p0 : Nat) (p1 : Nat) (p2 : Nat) (p3 : Int32) (h_p0 : (p0, 32) ∈ Ps) (h_p1 : (p1, 26) ∈ Ps) (h_p2 : (p2, 25) ∈ Ps) (r_p3 : RI p3 1 1) : Met l yX5_readOne (Cond.code yX5_readOne cX5_readOne 5 none :: gT) ({ frames := 19, cells := 0, slots := 0, locals := 3800 } : Room) (va_Pc [.ref p0, .ref p1, .ref p2, .int p3] (PRE D cy z w0 sz)) (va_Qv (fun (u : va_W) => (True) ∧ HT cy GG Ps u ∧ FR wr_X5_readOne wa_X5_readOne Ps w0 u) (BB D cy (va_A w0 sz) (fun (u : va_W) => u)) (va_A w0 sz)) 0 0 (va_A w0 sz) := by
  refine Met.ofW (cc := cX5_readOne) (maxL := 5) (ret := none) (by decide) rfl ?_
  intro p e s m args below meth c s₁ B hml hv
  obtain ⟨rfl, hsz, hP, hK, hD0, hSD⟩ := hv
  have hx := B.exec
  have hb := B.bytes
  have hr := B.returns
  have hlocks := B.notSynchronized
  have hts : ∀ w ∈ gT, w.before _ s = true := fun w h => atoms_spec (ws := Cond.code yX5_readOne cX5_readOne 5 none :: gT) B.pre w (List.mem_cons_of_mem _ h)
  have hown : s.vm.findClass RX5 = some m.cls := findClass_of_methodNamed B.named
  subst hsz
  have hD := hD0.self (sz := s.heap.size)
  generalize hAe : va_A w0 s.heap.size = A at hD hSD ⊢
  have hA : ∀ q : Nat, s.heap.size ≤ q → A q := fun q h => by rw [← hAe]; exact Or.inr h
  have hl := lv_entry ([.ref p0, .ref p1, .ref p2, .int p3]) (n := 5) (Nat.le_of_ble_eq_true rfl)
  rw [lg_entry_eq]
  generalize (lg_sl ([.ref p0, .ref p1, .ref p2, .int p3]) ++ List.replicate (5 - (lg_sl ([.ref p0, .ref p1, .ref p2, .int p3])).length) Slot.unset).toArray = ls at hl ⊢
  have hl : lv_has ls 5 [(0, .ref p0), (1, .ref p1), (2, .ref p2), (3, .int p3)] := hl
  refine nameQ (fun Q hQ => ?_)
  have hw : WD D cy GG A s wr_X5_readOne wa_X5_readOne Ps w0 Ps w0 s.heap [] := ⟨hT, hP, hD, va_S.rf, FR.rf, hT.1, [], (List.append_nil _).symm⟩
  have B57 : ∀ (x4 : Int32) (ws : va_W) (H : Heap) (locs : List Loc) (ls : Array Slot), RI p3 1 1 → RI x4 (-2147483648) 2147483647 → WD D cy GG A s wr_X5_readOne wa_X5_readOne Ps w0 Ps ws H locs → lv_has ls 5 [(0, .ref p0), (1, .ref p1), (2, .ref p2), (3, .int p3), (4, .int x4)] → W p l e (headSpec (Cond.code yX5_readOne cX5_readOne 5 none :: gT) ({ frames := 19, cells := 0, slots := 0, locals := 3800 } : Room)).room s m ([.ref p0, .ref p1, .ref p2, .int p3] : List Value).toArray below meth c H locs 0 0 Q (F0 m 57 ls []) := by
    intro x4 ws H locs ls r_p3 r_x4 hw hl
    refine lv_aload_n hx hb dX5_readOne_57 rfl (lv_at hl 1 rfl) ?_
    refine tg_getN (ci := 7) (ts := ty_TAPE) (C := RX7) (T := TX7) (N := 12) hx hb hts inX7 hown hK hw h_p1 rfl rfl 10 (by decide) (hSD.nest tn_103) (fun _ h9 => h9) (ft := vI 0 4) rfl dX5_readOne_58 (fun u_1 hv_u_1 m_u_1 => ?_)
    obtain ⟨vu_1, rfl, r_vu_1⟩ := hv_u_1
    refine lv_if_eq (tgt := 65) hx hb dX5_readOne_61 (by decide) (fun c_61 => ?_) (fun c_61 => ?_)
    · have r_vu_1 : RI vu_1 0 0 := rc_eq1 r_vu_1 rl_0 (ti_eq c_61) (by decide)
      refine lv_aload_n hx hb dX5_readOne_65 rfl (lv_at hl 1 rfl) ?_
      refine tk_v (va_runV (As := []) (rest := []) ⟨hx, hb, hml, hown, hts⟩ (c_X7_pass l D cy z H.size Ps ws hw.1 p1 h_p1) (cwV 0 hts (gV tw_982 tw_425 tw_426 tw_2 tw_427) rfl rfl rfl (by decide +kernel) ⟨Nat.le_of_ble_eq_true rfl, Nat.le_of_ble_eq_true rfl⟩) (tg_preV hw hK hSD hA (ci := 7) (q := (RX7, TX7, 12)) rfl h_p1 rfl) rfl rfl hl.1 rfl (lv_room (Nat.le_of_ble_eq_true rfl)) dX5_readOne_66 ⟨Nat.le_of_ble_eq_true rfl, Nat.le_of_ble_eq_true rfl⟩) hw hA ⟨by decide, by decide⟩ (fun ws H locs hp_v_2 hw hF9 => ?_)
      have m_u_1 := FLD.over hF9 m_u_1 (by decide)
      refine lv_aload_n hx hb dX5_readOne_69 rfl (lv_at hl 0 rfl) ?_
      refine lv_dup hx hb dX5_readOne_70 rfl ?_
      refine tg_get (ci := 5) (ts := ty_SENT) (C := RX5) (T := TX5) (N := 5) hx hb hts inX5 hown hK hw h_p0 rfl rfl 4 (by decide) (hts _ tw_955) (fun _ h9 => h9) (ft := vI (-2147483648) 2147483647) rfl dX5_readOne_71 (fun u_3 hv_u_3 m_u_3 => ?_)
      obtain ⟨vu_3, rfl, r_vu_3⟩ := hv_u_3
      refine lv_iconst (v := 1) hx hb dX5_readOne_74 (by decide) ?_
      refine lv_iadd hx hb dX5_readOne_75 (lv_topi (fun v_4 e_v_4 => ?_))
      have r_v_4 := ri_any v_4
      refine tg_put (ci := 5) (ts := ty_SENT) (v := .int v_4) (ty := .int) (C := RX5) (T := TX5) (N := 5) hx hb hts inX5 tyX5 tyX5_ok nmX5 hown hK hw h_p0 rfl rfl 4 (by decide) (hts _ tw_955) (fun _ h9 => h9) rfl (by decide +kernel) rfl rfl (ft := vI (-2147483648) 2147483647) rfl ⟨_, rfl, r_v_4⟩ (by decide) dX5_readOne_76 (fun ws H locs hw n_k_5 hF9 => ?_)
      have m_u_1 := FLD.over hF9 m_u_1 (by decide)
      refine lv_iload hx hb dX5_readOne_79 (lv_at hl 4 rfl) ?_
      refine lv_sipush (v := 146) hx hb dX5_readOne_81 (by decide) ?_
      refine lv_icmp_ne (tgt := 108) hx hb dX5_readOne_84 (by decide) (fun c_84 => ?_) (fun c_84 => ?_)
      · refine lv_iload hx hb dX5_readOne_108 (lv_at hl 4 rfl) ?_
        refine lv_bipush (v := 40) hx hb dX5_readOne_110 (by decide) ?_
        refine lv_icmp_ne (tgt := 133) hx hb dX5_readOne_112 (by decide) (fun c_112 => ?_) (fun c_112 => ?_)
        · refine lv_aload_n hx hb dX5_readOne_133 rfl (lv_at hl 0 rfl) ?_
          refine lv_aload_n hx hb dX5_readOne_134 rfl (lv_at hl 1 rfl) ?_
          refine lv_aload_n hx hb dX5_readOne_135 rfl (lv_at hl 2 rfl) ?_
          refine lv_iload hx hb dX5_readOne_136 (lv_at hl 4 rfl) ?_
          refine tk_v (va_runV (As := [.ref p1, .ref p2, .int x4]) (rest := []) ⟨hx, hb, hml, hown, hts⟩ (c_X5_readPlain l D cy z H.size Ps ws hw.1 p0 p1 p2 x4 h_p0 h_p1 h_p2 r_x4) (cwV 3 hts (gV tw_988 tw_990 ts_34 tw_23 tw_991) rfl rfl rfl (by decide +kernel) ⟨Nat.le_of_ble_eq_true rfl, Nat.le_of_ble_eq_true rfl⟩) (tg_preV hw hK hSD hA (ci := 5) (q := (RX5, TX5, 5)) rfl h_p0 rfl) rfl rfl hl.1 rfl (lv_room (Nat.le_of_ble_eq_true rfl)) dX5_readOne_138 ⟨Nat.le_of_ble_eq_true rfl, Nat.le_of_ble_eq_true rfl⟩) hw hA ⟨by decide, by decide⟩ (fun ws H locs hp_v_6 hw hF9 => ?_)
          have n_k_5 := FLD.over hF9 n_k_5 (by decide)
          obtain ⟨v_7, m_v_7, r_v_7⟩ := (hp_v_6.1)
          subst hQ
          exact W.vret hx hb hr (fun t ht hW => ⟨⟨ws, rfl, ⟨trivial, hw.1, hw.2.2.2.2.1⟩, by rw [ht]; exact hw.2.1, va_K.moved hW.alike hK, hw.2.2.1⟩, hw.2.2.2.1.F ht⟩) hw.2.2.2.1.2.2 dX5_readOne_141
        · have r_x4 : RI x4 40 40 := rc_eq1 r_x4 rl_40 (ti_eq c_112) (by decide)
          refine lv_aload_n hx hb dX5_readOne_115 rfl (lv_at hl 0 rfl) ?_
          refine lv_aload_n hx hb dX5_readOne_116 rfl (lv_at hl 1 rfl) ?_
          refine lv_aload_n hx hb dX5_readOne_117 rfl (lv_at hl 2 rfl) ?_
          refine lv_iload_n hx hb dX5_readOne_118 rfl (lv_at hl 3 rfl) ?_
          refine lv_iconst (v := 1) hx hb dX5_readOne_119 (by decide) ?_
          refine lv_iadd hx hb dX5_readOne_120 (lv_topi (fun v_8 e_v_8 => ?_))
          obtain ⟨t_v_8, r_v_8⟩ := tq_add (lo := 2) (hi := 2) r_p3 rl_1 (by decide +kernel) e_v_8
          have t_v_8 : v_8.toInt = p3.toInt + 1 := t_v_8
          refine tk_v (va_runV (As := [.ref p1, .ref p2, .int v_8]) (rest := []) ⟨hx, hb, hml, hown, hts⟩ (c_X5_readCond__1 l D cy z H.size Ps ws hw.1 p0 p1 p2 v_8 h_p0 h_p1 h_p2 r_v_8) (cwV 3 hts (gV tw_973 tw_975 ts_31 tw_23 tw_976) rfl rfl rfl (by decide +kernel) ⟨Nat.le_of_ble_eq_true rfl, Nat.le_of_ble_eq_true rfl⟩) (tg_preV hw hK hSD hA (ci := 5) (q := (RX5, TX5, 5)) rfl h_p0 rfl) rfl rfl hl.1 rfl (lv_room (Nat.le_of_ble_eq_true rfl)) dX5_readOne_121 ⟨Nat.le_of_ble_eq_true rfl, Nat.le_of_ble_eq_true rfl⟩) hw hA ⟨by decide, by decide⟩ (fun ws H locs hp_v_9 hw hF9 => ?_)
          refine lv_aload_n hx hb dX5_readOne_124 rfl (lv_at hl 1 rfl) ?_
          refine lv_bipush (v := 41) hx hb dX5_readOne_125 (by decide) ?_
          refine tk_v (va_runV (As := [.int 41]) (rest := []) ⟨hx, hb, hml, hown, hts⟩ (c_X7_passOnly l D cy z H.size Ps ws hw.1 p1 41 h_p1 (rl_41.to (by decide))) (cwV 1 hts (gV tw_987 tw_514 tw_515 tw_2 tw_516) rfl rfl rfl (by decide +kernel) ⟨Nat.le_of_ble_eq_true rfl, Nat.le_of_ble_eq_true rfl⟩) (tg_preV hw hK hSD hA (ci := 7) (q := (RX7, TX7, 12)) rfl h_p1 rfl) rfl rfl hl.1 rfl (lv_room (Nat.le_of_ble_eq_true rfl)) dX5_readOne_127 ⟨Nat.le_of_ble_eq_true rfl, Nat.le_of_ble_eq_true rfl⟩) hw hA ⟨by decide, by decide⟩ (fun ws H locs hp_v_10 hw hF9 => ?_)
          refine lv_goto (tgt := 141) hx hb dX5_readOne_130 (by decide) ?_
          subst hQ
          exact W.vret hx hb hr (fun t ht hW => ⟨⟨ws, rfl, ⟨trivial, hw.1, hw.2.2.2.2.1⟩, by rw [ht]; exact hw.2.1, va_K.moved hW.alike hK, hw.2.2.1⟩, hw.2.2.2.1.F ht⟩) hw.2.2.2.1.2.2 dX5_readOne_141
      · have r_x4 : RI x4 146 146 := rc_eq1 r_x4 rl_146 (ti_eq c_84) (by decide)
        refine lv_aload_n hx hb dX5_readOne_87 rfl (lv_at hl 0 rfl) ?_
        refine lv_aload_n hx hb dX5_readOne_88 rfl (lv_at hl 1 rfl) ?_
        refine lv_aload_n hx hb dX5_readOne_89 rfl (lv_at hl 2 rfl) ?_
        refine lv_iload_n hx hb dX5_readOne_90 rfl (lv_at hl 3 rfl) ?_
        refine lv_iconst (v := 1) hx hb dX5_readOne_91 (by decide) ?_
        refine lv_iadd hx hb dX5_readOne_92 (lv_topi (fun v_11 e_v_11 => ?_))
        obtain ⟨t_v_11, r_v_11⟩ := tq_add (lo := 2) (hi := 2) r_p3 rl_1 (by decide +kernel) e_v_11
        have t_v_11 : v_11.toInt = p3.toInt + 1 := t_v_11
        refine tk_v (va_runV (As := [.ref p1, .ref p2, .int v_11]) (rest := []) ⟨hx, hb, hml, hown, hts⟩ (c_X5_readOne__1 l D cy z H.size Ps ws hw.1 p0 p1 p2 v_11 h_p0 h_p1 h_p2 r_v_11) (cwV 3 hts (gV tw_977 tw_979 ts_32 tw_23 tw_980) rfl rfl rfl (by decide +kernel) ⟨Nat.le_of_ble_eq_true rfl, Nat.le_of_ble_eq_true rfl⟩) (tg_preV hw hK hSD hA (ci := 5) (q := (RX5, TX5, 5)) rfl h_p0 rfl) rfl rfl hl.1 rfl (lv_room (Nat.le_of_ble_eq_true rfl)) dX5_readOne_93 ⟨Nat.le_of_ble_eq_true rfl, Nat.le_of_ble_eq_true rfl⟩) hw hA ⟨by decide, by decide⟩ (fun ws H locs hp_v_12 hw hF9 => ?_)
        refine lv_aload_n hx hb dX5_readOne_96 rfl (lv_at hl 0 rfl) ?_
        refine lv_sipush (v := 146) hx hb dX5_readOne_97 (by decide) ?_
        refine lv_iconst (v := 0) hx hb dX5_readOne_100 (by decide) ?_
        refine lv_iconst (v := 0) hx hb dX5_readOne_101 (by decide) ?_
        refine tk_v (va_runV (As := [.int 146, .int 0, .int 0]) (rest := []) ⟨hx, hb, hml, hown, hts⟩ (c_X5_addStep l D cy z H.size Ps ws hw.1 p0 146 0 0 h_p0 (rl_146.to (by decide)) (rl_0.to (by decide)) (rl_0.to (by decide))) (cwV 3 hts (gV tw_983 tw_985 ts_33 tw_23 tw_986) rfl rfl rfl (by decide +kernel) ⟨Nat.le_of_ble_eq_true rfl, Nat.le_of_ble_eq_true rfl⟩) (tg_preV hw hK hSD hA (ci := 5) (q := (RX5, TX5, 5)) rfl h_p0 rfl) rfl rfl hl.1 rfl (lv_room (Nat.le_of_ble_eq_true rfl)) dX5_readOne_102 ⟨Nat.le_of_ble_eq_true rfl, Nat.le_of_ble_eq_true rfl⟩) hw hA ⟨by decide, by decide⟩ (fun ws H locs hp_v_13 hw hF9 => ?_)
        obtain ⟨v_14, m_v_14, r_v_14⟩ := (hp_v_13.1)
        refine lv_goto (tgt := 141) hx hb dX5_readOne_105 (by decide) ?_
        subst hQ
        exact W.vret hx hb hr (fun t ht hW => ⟨⟨ws, rfl, ⟨trivial, hw.1, hw.2.2.2.2.1⟩, by rw [ht]; exact hw.2.1, va_K.moved hW.alike hK, hw.2.2.1⟩, hw.2.2.2.1.F ht⟩) hw.2.2.2.1.2.2 dX5_readOne_141
    · have r_vu_1 : RI vu_1 1 4 := rc_neL r_vu_1 rl_0 (ti_ne c_61) (by decide)
      subst hQ
      exact W.vret hx hb hr (fun t ht hW => ⟨⟨ws, rfl, ⟨trivial, hw.1, hw.2.2.2.2.1⟩, by rw [ht]; exact hw.2.1, va_K.moved hW.alike hK, hw.2.2.1⟩, hw.2.2.2.1.F ht⟩) hw.2.2.2.1.2.2 dX5_readOne_64
  have B52 : ∀ (x4 : Int32) (z0_4 : Int32) (z1_7 : Int32) (ws : va_W) (H : Heap) (locs : List Loc) (ls : Array Slot), RI p3 1 1 → RI x4 40 155 → RI z0_4 20 2147483647 → FLD ws p0 5 4 (.int z0_4) → RI z1_7 40 155 → FLD ws p1 7 7 (.int z1_7) → WD D cy GG A s wr_X5_readOne wa_X5_readOne Ps w0 Ps ws H locs → lv_has ls 5 [(0, .ref p0), (1, .ref p1), (2, .ref p2), (3, .int p3), (4, .int x4)] → W p l e (headSpec (Cond.code yX5_readOne cX5_readOne 5 none :: gT) ({ frames := 19, cells := 0, slots := 0, locals := 3800 } : Room)).room s m ([.ref p0, .ref p1, .ref p2, .int p3] : List Value).toArray below meth c H locs 0 0 Q (F0 m 52 ls []) := by
    intro x4 z0_4 z1_7 ws H locs ls r_p3 r_x4 r_z0_4 m_z0_4 r_z1_7 m_z1_7 hw hl
    refine lv_aload_n hx hb dX5_readOne_52 rfl (lv_at hl 1 rfl) ?_
    refine lv_iconst (v := 4) hx hb dX5_readOne_53 (by decide) ?_
    refine tk_v (va_runV (As := [.int 4]) (rest := []) ⟨hx, hb, hml, hown, hts⟩ (c_X7_refuse l D cy z H.size Ps ws hw.1 p1 4 h_p1 (rl_4.to (by decide))) (cwV 1 hts (gV tw_981 tw_443 tw_444 tw_2 tw_445) rfl rfl rfl (by decide +kernel) ⟨Nat.le_of_ble_eq_true rfl, Nat.le_of_ble_eq_true rfl⟩) (tg_preV hw hK hSD hA (ci := 7) (q := (RX7, TX7, 12)) rfl h_p1 rfl) rfl rfl hl.1 rfl (lv_room (Nat.le_of_ble_eq_true rfl)) dX5_readOne_54 ⟨Nat.le_of_ble_eq_true rfl, Nat.le_of_ble_eq_true rfl⟩) hw hA ⟨by decide, by decide⟩ (fun ws H locs hp_v_15 hw hF9 => ?_)
    have m_z0_4 := FLD.over hF9 m_z0_4 (by decide)
    have m_z1_7 := FLD.over hF9 m_z1_7 (by decide)
    obtain ⟨v_16, m_v_16, r_v_16⟩ := (hp_v_15.1)
    exact B57 x4 ws _ _ ls r_p3 (r_x4.to (by decide)) hw hl
  have B37 : ∀ (x4 : Int32) (z1_7 : Int32) (ws : va_W) (H : Heap) (locs : List Loc) (ls : Array Slot), RI p3 1 1 → RI x4 40 155 → RI z1_7 40 155 → FLD ws p1 7 7 (.int z1_7) → WD D cy GG A s wr_X5_readOne wa_X5_readOne Ps w0 Ps ws H locs → lv_has ls 5 [(0, .ref p0), (1, .ref p1), (2, .ref p2), (3, .int p3), (4, .int x4)] → W p l e (headSpec (Cond.code yX5_readOne cX5_readOne 5 none :: gT) ({ frames := 19, cells := 0, slots := 0, locals := 3800 } : Room)).room s m ([.ref p0, .ref p1, .ref p2, .int p3] : List Value).toArray below meth c H locs 0 0 Q (F0 m 37 ls []) := by
    intro x4 z1_7 ws H locs ls r_p3 r_x4 r_z1_7 m_z1_7 hw hl
    refine lv_aload_n hx hb dX5_readOne_37 rfl (lv_at hl 0 rfl) ?_
    refine tg_get (ci := 5) (ts := ty_SENT) (C := RX5) (T := TX5) (N := 5) hx hb hts inX5 hown hK hw h_p0 rfl rfl 4 (by decide) (hts _ tw_955) (fun _ h9 => h9) (ft := vI (-2147483648) 2147483647) rfl dX5_readOne_38 (fun u_17 hv_u_17 m_u_17 => ?_)
    obtain ⟨vu_17, rfl, r_vu_17⟩ := hv_u_17
    refine lv_bipush (v := 20) hx hb dX5_readOne_41 (by decide) ?_
    refine lv_icmp_ge (tgt := 52) hx hb dX5_readOne_43 (by decide) (fun c_43 => ?_) (fun c_43 => ?_)
    · have r_vu_17 : RI vu_17 20 2147483647 := rc_le2 rl_20 r_vu_17 (ti_le c_43) (by decide)
      exact B52 x4 vu_17 z1_7 ws _ _ ls r_p3 r_x4 r_vu_17 m_u_17 r_z1_7 m_z1_7 hw hl
    · have r_vu_17 : RI vu_17 (-2147483648) 19 := rc_lt1 r_vu_17 rl_20 (ti_nle c_43) (by decide)
      refine lv_iload_n hx hb dX5_readOne_46 rfl (lv_at hl 3 rfl) ?_
      refine lv_bipush (v := 8) hx hb dX5_readOne_47 (by decide) ?_
      refine lv_icmp_le (tgt := 57) hx hb dX5_readOne_49 (by decide) (fun c_49 => ?_) (fun c_49 => ?_)
      · exact B57 x4 ws _ _ ls r_p3 (r_x4.to (by decide)) hw hl
      · have r_p3 : RI p3 9 1 := rc_lt2 rl_8 r_p3 (ti_nle c_49) (by decide)
        exact (r_p3.no (by decide)).elim
  have B29 : ∀ (x4 : Int32) (ws : va_W) (H : Heap) (locs : List Loc) (ls : Array Slot), RI p3 1 1 → RI x4 (-2147483648) 2147483647 → WD D cy GG A s wr_X5_readOne wa_X5_readOne Ps w0 Ps ws H locs → lv_has ls 5 [(0, .ref p0), (1, .ref p1), (2, .ref p2), (3, .int p3), (4, .int x4)] → W p l e (headSpec (Cond.code yX5_readOne cX5_readOne 5 none :: gT) ({ frames := 19, cells := 0, slots := 0, locals := 3800 } : Room)).room s m ([.ref p0, .ref p1, .ref p2, .int p3] : List Value).toArray below meth c H locs 0 0 Q (F0 m 29 ls []) := by
    intro x4 ws H locs ls r_p3 r_x4 hw hl
    refine lv_aload_n hx hb dX5_readOne_29 rfl (lv_at hl 1 rfl) ?_
    refine lv_iconst (v := 1) hx hb dX5_readOne_30 (by decide) ?_
    refine tk_v (va_runV (As := [.int 1]) (rest := []) ⟨hx, hb, hml, hown, hts⟩ (c_X7_refuse l D cy z H.size Ps ws hw.1 p1 1 h_p1 (rl_1.to (by decide))) (cwV 1 hts (gV tw_981 tw_443 tw_444 tw_2 tw_445) rfl rfl rfl (by decide +kernel) ⟨Nat.le_of_ble_eq_true rfl, Nat.le_of_ble_eq_true rfl⟩) (tg_preV hw hK hSD hA (ci := 7) (q := (RX7, TX7, 12)) rfl h_p1 rfl) rfl rfl hl.1 rfl (lv_room (Nat.le_of_ble_eq_true rfl)) dX5_readOne_31 ⟨Nat.le_of_ble_eq_true rfl, Nat.le_of_ble_eq_true rfl⟩) hw hA ⟨by decide, by decide⟩ (fun ws H locs hp_v_18 hw hF9 => ?_)
    obtain ⟨v_19, m_v_19, r_v_19⟩ := (hp_v_18.1)
    refine lv_goto (tgt := 57) hx hb dX5_readOne_34 (by decide) ?_
    exact B57 x4 ws _ _ ls r_p3 r_x4 hw hl
  refine lv_aload_n hx hb dX5_readOne_0 rfl (lv_at hl 1 rfl) ?_
  refine tg_getN (ci := 7) (ts := ty_TAPE) (C := RX7) (T := TX7) (N := 12) hx hb hts inX7 hown hK hw h_p1 rfl rfl 7 (by decide) (hSD.nest tn_96) (fun _ h9 => h9) (ft := vI (-2147483648) 2147483647) rfl dX5_readOne_1 (fun u_20 hv_u_20 m_u_20 => ?_)
  obtain ⟨vu_20, rfl, r_vu_20⟩ := hv_u_20
  refine lv_istore (lv' := [(4, .int vu_20), (0, .ref p0), (1, .ref p1), (2, .ref p2), (3, .int p3)]) hx hb dX5_readOne_4 hl (by decide) rfl (fun ls hl => ?_)
  refine lv_iload hx hb dX5_readOne_6 (lv_at hl 0 rfl) ?_
  refine lv_bipush (v := 40) hx hb dX5_readOne_8 (by decide) ?_
  refine lv_icmp_eq (tgt := 37) hx hb dX5_readOne_10 (by decide) (fun c_10 => ?_) (fun c_10 => ?_)
  · have r_vu_20 : RI vu_20 40 40 := rc_eq1 r_vu_20 rl_40 (ti_eq c_10) (by decide)
    exact B37 vu_20 vu_20 w0 _ _ ls r_p3 (r_vu_20.to (by decide)) (r_vu_20.to (by decide)) m_u_20 hw (lv_sub hl [1, 2, 3, 4, 0] rfl)
  · refine lv_iload hx hb dX5_readOne_13 (lv_at hl 0 rfl) ?_
    refine lv_sipush (v := 146) hx hb dX5_readOne_15 (by decide) ?_
    refine lv_icmp_lt (tgt := 29) hx hb dX5_readOne_18 (by decide) (fun c_18 => ?_) (fun c_18 => ?_)
    · have r_vu_20 : RI vu_20 (-2147483648) 145 := rc_lt1 r_vu_20 rl_146 (ti_lt c_18) (by decide)
      exact B29 vu_20 w0 _ _ ls r_p3 (r_vu_20.to (by decide)) hw (lv_sub hl [1, 2, 3, 4, 0] rfl)
    · have r_vu_20 : RI vu_20 146 2147483647 := rc_le2 rl_146 r_vu_20 (ti_nlt c_18) (by decide)
      refine lv_iload hx hb dX5_readOne_21 (lv_at hl 0 rfl) ?_
      refine lv_sipush (v := 155) hx hb dX5_readOne_23 (by decide) ?_
      refine lv_icmp_le (tgt := 37) hx hb dX5_readOne_26 (by decide) (fun c_26 => ?_) (fun c_26 => ?_)
      · have r_vu_20 : RI vu_20 146 155 := rc_le1 r_vu_20 rl_155 (ti_le c_26) (by decide)
        exact B37 vu_20 vu_20 w0 _ _ ls r_p3 (r_vu_20.to (by decide)) (r_vu_20.to (by decide)) m_u_20 hw (lv_sub hl [1, 2, 3, 4, 0] rfl)
      · have r_vu_20 : RI vu_20 156 2147483647 := rc_lt2 rl_155 r_vu_20 (ti_nle c_26) (by decide)
        exact B29 vu_20 w0 _ _ ls r_p3 (r_vu_20.to (by decide)) hw (lv_sub hl [1, 2, 3, 4, 0] rfl)
abbrev wr_X5_readCond : List (Nat × Nat) := [(5, 3), (5, 4), (7, 5), (7, 6), (7, 7), (7, 8), (7, 9), (7, 10), (7, 11)]
abbrev wa_X5_readCond : List Nat := [21]
set_option maxHeartbeats 4000000 in
set_option maxRecDepth 100000 in
theorem c_X5_readCond (l : Launch) (D : va_G) (cy : Nat → ClassId) (z : Nat → Nat) (sz : Nat) (Ps : PSI) (w0 : va_W) (hT : HT cy GG Ps w0) (p0 : Nat) (p1 : Nat) (p2 : Nat) (p3 : Int32) (h_p0 : (p0, 32) ∈ Ps) (h_p1 : (p1, 26) ∈ Ps) (h_p2 : (p2, 25) ∈ Ps) (r_p3 : RI p3 1 1) : Met l yX5_readCond (Cond.code yX5_readCond cX5_readCond 7 none :: gT) ({ frames := 20, cells := 0, slots := 0, locals := 4000 } : Room) (va_Pc [.ref p0, .ref p1, .ref p2, .int p3] (PRE D cy z w0 sz)) (va_Qv (fun (u : va_W) => (True) ∧ HT cy GG Ps u ∧ FR wr_X5_readCond wa_X5_readCond Ps w0 u) (BB D cy (va_A w0 sz) (fun (u : va_W) => u)) (va_A w0 sz)) 0 0 (va_A w0 sz) := by
  refine Met.ofW (cc := cX5_readCond) (maxL := 7) (ret := none) (by decide) rfl ?_
  intro p e s m args below meth c s₁ B hml hv
  obtain ⟨rfl, hsz, hP, hK, hD0, hSD⟩ := hv
  have hx := B.exec
  have hb := B.bytes
  have hr := B.returns
  have hlocks := B.notSynchronized
  have hts : ∀ w ∈ gT, w.before _ s = true := fun w h => atoms_spec (ws := Cond.code yX5_readCond cX5_readCond 7 none :: gT) B.pre w (List.mem_cons_of_mem _ h)
  have hown : s.vm.findClass RX5 = some m.cls := findClass_of_methodNamed B.named
  subst hsz
  have hD := hD0.self (sz := s.heap.size)
  generalize hAe : va_A w0 s.heap.size = A at hD hSD ⊢
  have hA : ∀ q : Nat, s.heap.size ≤ q → A q := fun q h => by rw [← hAe]; exact Or.inr h
  have hl := lv_entry ([.ref p0, .ref p1, .ref p2, .int p3]) (n := 7) (Nat.le_of_ble_eq_true rfl)
  rw [lg_entry_eq]
  generalize (lg_sl ([.ref p0, .ref p1, .ref p2, .int p3]) ++ List.replicate (7 - (lg_sl ([.ref p0, .ref p1, .ref p2, .int p3])).length) Slot.unset).toArray = ls at hl ⊢
  have hl : lv_has ls 7 [(0, .ref p0), (1, .ref p1), (2, .ref p2), (3, .int p3)] := hl
  refine nameQ (fun Q hQ => ?_)
  have hw : WD D cy GG A s wr_X5_readCond wa_X5_readCond Ps w0 Ps w0 s.heap [] := ⟨hT, hP, hD, va_S.rf, FR.rf, hT.1, [], (List.append_nil _).symm⟩
  have B106 : ∀ (x4 : Int32) (x5 : Int32) (ws : va_W) (H : Heap) (locs : List Loc) (ls : Array Slot), RI p3 1 1 → RI x4 (-2147483648) 2147483647 → RI x5 0 21 → WD D cy GG A s wr_X5_readCond wa_X5_readCond Ps w0 Ps ws H locs → lv_has ls 7 [(0, .ref p0), (1, .ref p1), (2, .ref p2), (3, .int p3), (4, .int x4), (5, .int x5)] → W p l e (headSpec (Cond.code yX5_readCond cX5_readCond 7 none :: gT) ({ frames := 20, cells := 0, slots := 0, locals := 4000 } : Room)).room s m ([.ref p0, .ref p1, .ref p2, .int p3] : List Value).toArray below meth c H locs 0 0 Q (F0 m 106 ls []) := by
    intro x4 x5 ws H locs ls r_p3 r_x4 r_x5 hw hl
    refine lv_iload hx hb dX5_readCond_106 (lv_at hl 4 rfl) ?_
    refine lv_if_eq (tgt := 120) hx hb dX5_readCond_108 (by decide) (fun c_108 => ?_) (fun c_108 => ?_)
    · have r_x4 : RI x4 0 0 := rc_eq1 r_x4 rl_0 (ti_eq c_108) (by decide)
      subst hQ
      exact W.vret hx hb hr (fun t ht hW => ⟨⟨ws, rfl, ⟨trivial, hw.1, hw.2.2.2.2.1⟩, by rw [ht]; exact hw.2.1, va_K.moved hW.alike hK, hw.2.2.1⟩, hw.2.2.2.1.F ht⟩) hw.2.2.2.1.2.2 dX5_readCond_120
    · refine lv_aload_n hx hb dX5_readCond_111 rfl (lv_at hl 0 rfl) ?_
      refine lv_sipush (v := 144) hx hb dX5_readCond_112 (by decide) ?_
      refine lv_iconst (v := 0) hx hb dX5_readCond_115 (by decide) ?_
      refine lv_iconst (v := 0) hx hb dX5_readCond_116 (by decide) ?_
      refine tk_v (va_runV (As := [.int 144, .int 0, .int 0]) (rest := []) ⟨hx, hb, hml, hown, hts⟩ (c_X5_addStep l D cy z H.size Ps ws hw.1 p0 144 0 0 h_p0 (rl_144.to (by decide)) (rl_0.to (by decide)) (rl_0.to (by decide))) (cwV 3 hts (gV tw_983 tw_985 ts_33 tw_23 tw_986) rfl rfl rfl (by decide +kernel) ⟨Nat.le_of_ble_eq_true rfl, Nat.le_of_ble_eq_true rfl⟩) (tg_preV hw hK hSD hA (ci := 5) (q := (RX5, TX5, 5)) rfl h_p0 rfl) rfl rfl hl.1 rfl (lv_room (Nat.le_of_ble_eq_true rfl)) dX5_readCond_117 ⟨Nat.le_of_ble_eq_true rfl, Nat.le_of_ble_eq_true rfl⟩) hw hA ⟨by decide, by decide⟩ (fun ws H locs hp_v_1 hw hF9 => ?_)
      obtain ⟨v_2, m_v_2, r_v_2⟩ := (hp_v_1.1)
      subst hQ
      exact W.vret hx hb hr (fun t ht hW => ⟨⟨ws, rfl, ⟨trivial, hw.1, hw.2.2.2.2.1⟩, by rw [ht]; exact hw.2.1, va_K.moved hW.alike hK, hw.2.2.1⟩, hw.2.2.2.1.F ht⟩) hw.2.2.2.1.2.2 dX5_readCond_120
  have B13 : ∀ (nf : Nat) (x4 : Int32) (x5 : Int32) (ws : va_W) (H : Heap) (locs : List Loc) (ls : Array Slot), 20 - x5.toInt < (nf : Int) → RI p3 1 1 → RI x4 (-2147483648) 2147483647 → RI x5 0 20 → WD D cy GG A s wr_X5_readCond wa_X5_readCond Ps w0 Ps ws H locs → lv_has ls 7 [(0, .ref p0), (1, .ref p1), (2, .ref p2), (3, .int p3), (4, .int x4), (5, .int x5)] → W p l e (headSpec (Cond.code yX5_readCond cX5_readCond 7 none :: gT) ({ frames := 20, cells := 0, slots := 0, locals := 4000 } : Room)).room s m ([.ref p0, .ref p1, .ref p2, .int p3] : List Value).toArray below meth c H locs 0 0 Q (F0 m 13 ls []) := by
    intro nf13
    induction nf13 with
    | zero =>
      intro x4 x5 ws H locs ls hn13 r_p3 r_x4 r_x5 hw hl
      exact absurd hn13 (by have q0 := r_x5.1; have u0 := r_x5.2; omega)
    | succ nf13 ih13 =>
      have B72 : ∀ (x4 : Int32) (x5 : Int32) (x6 : Int32) (ws : va_W) (H : Heap) (locs : List Loc) (ls : Array Slot), RI p3 1 1 → RI x4 (-2147483648) 2147483647 → RI x5 0 19 → RI x6 0 1 → 20 - x5.toInt < ((nf13 + 1 : Nat) : Int) → WD D cy GG A s wr_X5_readCond wa_X5_readCond Ps w0 Ps ws H locs → lv_has ls 7 [(0, .ref p0), (1, .ref p1), (2, .ref p2), (3, .int p3), (4, .int x4), (5, .int x5), (6, .int x6)] → W p l e (headSpec (Cond.code yX5_readCond cX5_readCond 7 none :: gT) ({ frames := 20, cells := 0, slots := 0, locals := 4000 } : Room)).room s m ([.ref p0, .ref p1, .ref p2, .int p3] : List Value).toArray below meth c H locs 0 0 Q (F0 m 72 ls []) := by
        intro x4 x5 x6 ws H locs ls r_p3 r_x4 r_x5 r_x6 hn13 hw hl
        refine lv_iload hx hb dX5_readCond_72 (lv_at hl 4 rfl) ?_
        refine lv_iload hx hb dX5_readCond_74 (lv_at hl 6 rfl) ?_
        refine lv_ior hx hb dX5_readCond_76 (lv_topi (fun v_3 e_v_3 => ?_))
        have r_v_3 := ri_any v_3
        refine lv_istore (lv' := [(4, .int v_3), (0, .ref p0), (1, .ref p1), (2, .ref p2), (3, .int p3), (5, .int x5), (6, .int x6)]) hx hb dX5_readCond_77 hl (by decide) rfl (fun ls hl => ?_)
        refine lv_aload_n hx hb dX5_readCond_79 rfl (lv_at hl 1 rfl) ?_
        refine lv_aload_n hx hb dX5_readCond_80 rfl (lv_at hl 2 rfl) ?_
        refine lv_aload_n hx hb dX5_readCond_81 rfl (lv_at hl 3 rfl) ?_
        refine lv_iload_n hx hb dX5_readCond_82 rfl (lv_at hl 4 rfl) ?_
        refine tk_v (va_runV (As := [.ref p1, .ref p2, .int p3]) (rest := []) ⟨hx, hb, hml, hown, hts⟩ (c_X5_readOne l D cy z H.size Ps ws hw.1 p0 p1 p2 p3 h_p0 h_p1 h_p2 r_p3) (cwV 3 hts (gV tw_977 tw_979 ts_32 tw_23 tw_980) rfl rfl rfl (by decide +kernel) ⟨Nat.le_of_ble_eq_true rfl, Nat.le_of_ble_eq_true rfl⟩) (tg_preV hw hK hSD hA (ci := 5) (q := (RX5, TX5, 5)) rfl h_p0 rfl) rfl rfl hl.1 rfl (lv_room (Nat.le_of_ble_eq_true rfl)) dX5_readCond_83 ⟨Nat.le_of_ble_eq_true rfl, Nat.le_of_ble_eq_true rfl⟩) hw hA ⟨by decide, by decide⟩ (fun ws H locs hp_v_4 hw hF9 => ?_)
        refine lv_iload hx hb dX5_readCond_86 (lv_at hl 6 rfl) ?_
        refine lv_if_ne (tgt := 100) hx hb dX5_readCond_88 (by decide) (fun c_88 => ?_) (fun c_88 => ?_)
        · have r_x6 : RI x6 1 1 := rc_neL r_x6 rl_0 (ti_ne c_88) (by decide)
          obtain ⟨v_5, e_v_5⟩ : ∃ q9 : Int32, q9 = x5 + Int32.ofInt 1 := ⟨_, rfl⟩
          obtain ⟨t_v_5, r_v_5⟩ := tq_add (lo := 1) (hi := 20) r_x5 (show RI (Int32.ofInt 1) 1 1 by unfold RI; decide +kernel) (by decide +kernel) e_v_5
          have t_v_5 : v_5.toInt = x5.toInt + 1 := t_v_5
          refine lv_iinc (v := v_5) (lv' := [(5, .int v_5), (4, .int v_3), (0, .ref p0), (1, .ref p1), (2, .ref p2), (3, .int p3), (6, .int x6)]) hx hb dX5_readCond_100 hl (k := 5) rfl e_v_5.symm (by decide) rfl (fun ls hl => ?_)
          refine lv_goto (tgt := 13) hx hb dX5_readCond_103 (by decide) ?_
          exact ih13 v_3 v_5 ws _ _ ls (by have q0 := r_v_5.1; have u0 := r_v_5.2; have o0 := r_x5.1; have p0 := r_x5.2; omega) r_p3 r_v_3 (r_v_5.to (by decide)) hw (lv_sub hl [2, 3, 4, 5, 1, 0] rfl)
        · have r_x6 : RI x6 0 0 := rc_eq1 r_x6 rl_0 (ti_eq c_88) (by decide)
          refine lv_aload_n hx hb dX5_readCond_91 rfl (lv_at hl 1 rfl) ?_
          refine lv_sipush (v := 145) hx hb dX5_readCond_92 (by decide) ?_
          refine lv_iconst (v := 0) hx hb dX5_readCond_95 (by decide) ?_
          refine lv_iconst (v := 0) hx hb dX5_readCond_96 (by decide) ?_
          refine tk_v (va_runV (As := [.int 145, .int 0, .int 0]) (rest := []) ⟨hx, hb, hml, hown, hts⟩ (c_X5_addStep l D cy z H.size Ps ws hw.1 p0 145 0 0 h_p0 (rl_145.to (by decide)) (rl_0.to (by decide)) (rl_0.to (by decide))) (cwV 3 hts (gV tw_983 tw_985 ts_33 tw_23 tw_986) rfl rfl rfl (by decide +kernel) ⟨Nat.le_of_ble_eq_true rfl, Nat.le_of_ble_eq_true rfl⟩) (tg_preV hw hK hSD hA (ci := 5) (q := (RX5, TX5, 5)) rfl h_p0 rfl) rfl rfl hl.1 rfl (lv_room (Nat.le_of_ble_eq_true rfl)) dX5_readCond_97 ⟨Nat.le_of_ble_eq_true rfl, Nat.le_of_ble_eq_true rfl⟩) hw hA ⟨by decide, by decide⟩ (fun ws H locs hp_v_6 hw hF9 => ?_)
          obtain ⟨v_7, m_v_7, r_v_7⟩ := (hp_v_6.1)
          obtain ⟨v_8, e_v_8⟩ : ∃ q9 : Int32, q9 = x5 + Int32.ofInt 1 := ⟨_, rfl⟩
          obtain ⟨t_v_8, r_v_8⟩ := tq_add (lo := 1) (hi := 20) r_x5 (show RI (Int32.ofInt 1) 1 1 by unfold RI; decide +kernel) (by decide +kernel) e_v_8
          have t_v_8 : v_8.toInt = x5.toInt + 1 := t_v_8
          refine lv_iinc (v := v_8) (lv' := [(5, .int v_8), (4, .int v_3), (0, .ref p0), (1, .ref p1), (2, .ref p2), (3, .int p3), (6, .int x6)]) hx hb dX5_readCond_100 hl (k := 5) rfl e_v_8.symm (by decide) rfl (fun ls hl => ?_)
          refine lv_goto (tgt := 13) hx hb dX5_readCond_103 (by decide) ?_
          exact ih13 v_3 v_8 ws _ _ ls (by have q0 := r_v_8.1; have u0 := r_v_8.2; have o0 := r_x5.1; have p0 := r_x5.2; omega) r_p3 r_v_3 (r_v_8.to (by decide)) hw (lv_sub hl [2, 3, 4, 5, 1, 0] rfl)
      have B40 : ∀ (x4 : Int32) (x5 : Int32) (ws : va_W) (H : Heap) (locs : List Loc) (ls : Array Slot), RI p3 1 1 → RI x4 (-2147483648) 2147483647 → RI x5 0 19 → 20 - x5.toInt < ((nf13 + 1 : Nat) : Int) → WD D cy GG A s wr_X5_readCond wa_X5_readCond Ps w0 Ps ws H locs → lv_has ls 7 [(0, .ref p0), (1, .ref p1), (2, .ref p2), (3, .int p3), (4, .int x4), (5, .int x5)] → W p l e (headSpec (Cond.code yX5_readCond cX5_readCond 7 none :: gT) ({ frames := 20, cells := 0, slots := 0, locals := 4000 } : Room)).room s m ([.ref p0, .ref p1, .ref p2, .int p3] : List Value).toArray below meth c H locs 0 0 Q (F0 m 40 ls []) := by
        intro x4 x5 ws H locs ls r_p3 r_x4 r_x5 hn13 hw hl
        refine lv_aload_n hx hb dX5_readCond_40 rfl (lv_at hl 1 rfl) ?_
        refine lv_sipush (v := 144) hx hb dX5_readCond_41 (by decide) ?_
        refine tk_ir (va_runV (As := [.int 144]) (rest := []) ⟨hx, hb, hml, hown, hts⟩ (c_X7_sees l D cy z H.size Ps ws hw.1 p1 144 h_p1 (rl_144.to (by decide))) (cwV 1 hts (gV tw_994 tw_995 tw_996 tw_2 tw_997) rfl rfl rfl (by decide +kernel) ⟨Nat.le_of_ble_eq_true rfl, Nat.le_of_ble_eq_true rfl⟩) (tg_preV hw hK hSD hA (ci := 7) (q := (RX7, TX7, 12)) rfl h_p1 rfl) rfl rfl hl.1 rfl (lv_room (Nat.le_of_ble_eq_true rfl)) dX5_readCond_44 ⟨Nat.le_of_ble_eq_true rfl, Nat.le_of_ble_eq_true rfl⟩) hw hA (fun v_9  H locs hp_v_9 hw => ?_)
        have r_v_9 : RI v_9 0 1 := hp_v_9.1
        refine lv_istore (lv' := [(6, .int v_9), (0, .ref p0), (1, .ref p1), (2, .ref p2), (3, .int p3), (4, .int x4), (5, .int x5)]) hx hb dX5_readCond_47 hl (by decide) rfl (fun ls hl => ?_)
        refine lv_aload_n hx hb dX5_readCond_49 rfl (lv_at hl 2 rfl) ?_
        refine tk_v (va_runV (As := []) (rest := []) ⟨hx, hb, hml, hown, hts⟩ (c_X7_pass l D cy z H.size Ps ws hw.1 p1 h_p1) (cwV 0 hts (gV tw_982 tw_425 tw_426 tw_2 tw_427) rfl rfl rfl (by decide +kernel) ⟨Nat.le_of_ble_eq_true rfl, Nat.le_of_ble_eq_true rfl⟩) (tg_preV hw hK hSD hA (ci := 7) (q := (RX7, TX7, 12)) rfl h_p1 rfl) rfl rfl hl.1 rfl (lv_room (Nat.le_of_ble_eq_true rfl)) dX5_readCond_50 ⟨Nat.le_of_ble_eq_true rfl, Nat.le_of_ble_eq_true rfl⟩) hw hA ⟨by decide, by decide⟩ (fun ws H locs hp_v_10 hw hF9 => ?_)
        refine lv_iload hx hb dX5_readCond_53 (lv_at hl 0 rfl) ?_
        refine lv_if_eq (tgt := 72) hx hb dX5_readCond_55 (by decide) (fun c_55 => ?_) (fun c_55 => ?_)
        · have r_v_9 : RI v_9 0 0 := rc_eq1 r_v_9 rl_0 (ti_eq c_55) (by decide)
          exact B72 x4 x5 v_9 ws _ _ ls r_p3 r_x4 r_x5 (r_v_9.to (by decide)) (by have q0 := r_x5.1; have u0 := r_x5.2; omega) hw (lv_sub hl [1, 2, 3, 4, 5, 6, 0] rfl)
        · have r_v_9 : RI v_9 1 1 := rc_neL r_v_9 rl_0 (ti_ne c_55) (by decide)
          refine lv_iload hx hb dX5_readCond_58 (lv_at hl 5 rfl) ?_
          refine lv_if_eq (tgt := 72) hx hb dX5_readCond_60 (by decide) (fun c_60 => ?_) (fun c_60 => ?_)
          · have r_x4 : RI x4 0 0 := rc_eq1 r_x4 rl_0 (ti_eq c_60) (by decide)
            exact B72 x4 x5 v_9 ws _ _ ls r_p3 (r_x4.to (by decide)) r_x5 (r_v_9.to (by decide)) (by have q0 := r_x5.1; have u0 := r_x5.2; omega) hw (lv_sub hl [1, 2, 3, 4, 5, 6, 0] rfl)
          · refine lv_aload_n hx hb dX5_readCond_63 rfl (lv_at hl 1 rfl) ?_
            refine lv_sipush (v := 144) hx hb dX5_readCond_64 (by decide) ?_
            refine lv_iconst (v := 0) hx hb dX5_readCond_67 (by decide) ?_
            refine lv_iconst (v := 0) hx hb dX5_readCond_68 (by decide) ?_
            refine tk_v (va_runV (As := [.int 144, .int 0, .int 0]) (rest := []) ⟨hx, hb, hml, hown, hts⟩ (c_X5_addStep l D cy z H.size Ps ws hw.1 p0 144 0 0 h_p0 (rl_144.to (by decide)) (rl_0.to (by decide)) (rl_0.to (by decide))) (cwV 3 hts (gV tw_983 tw_985 ts_33 tw_23 tw_986) rfl rfl rfl (by decide +kernel) ⟨Nat.le_of_ble_eq_true rfl, Nat.le_of_ble_eq_true rfl⟩) (tg_preV hw hK hSD hA (ci := 5) (q := (RX5, TX5, 5)) rfl h_p0 rfl) rfl rfl hl.1 rfl (lv_room (Nat.le_of_ble_eq_true rfl)) dX5_readCond_69 ⟨Nat.le_of_ble_eq_true rfl, Nat.le_of_ble_eq_true rfl⟩) hw hA ⟨by decide, by decide⟩ (fun ws H locs hp_v_11 hw hF9 => ?_)
            obtain ⟨v_12, m_v_12, r_v_12⟩ := (hp_v_11.1)
            exact B72 x4 x5 v_9 ws _ _ ls r_p3 r_x4 r_x5 (r_v_9.to (by decide)) (by have q0 := r_x5.1; have u0 := r_x5.2; omega) hw (lv_sub hl [1, 2, 3, 4, 5, 6, 0] rfl)
      intro x4 x5 ws H locs ls hn13 r_p3 r_x4 r_x5 hw hl
      refine lv_iload hx hb dX5_readCond_13 (lv_at hl 5 rfl) ?_
      refine lv_bipush (v := 20) hx hb dX5_readCond_15 (by decide) ?_
      refine lv_icmp_ge (tgt := 106) hx hb dX5_readCond_17 (by decide) (fun c_17 => ?_) (fun c_17 => ?_)
      · have r_x5 : RI x5 20 20 := rc_le2 rl_20 r_x5 (ti_le c_17) (by decide)
        exact B106 x4 x5 ws _ _ ls r_p3 r_x4 (r_x5.to (by decide)) hw hl
      · have r_x5 : RI x5 0 19 := rc_lt1 r_x5 rl_20 (ti_nle c_17) (by decide)
        refine lv_aload_n hx hb dX5_readCond_20 rfl (lv_at hl 1 rfl) ?_
        refine lv_sipush (v := 144) hx hb dX5_readCond_21 (by decide) ?_
        refine tk_ir (va_runV (As := [.int 144]) (rest := []) ⟨hx, hb, hml, hown, hts⟩ (c_X7_sees l D cy z H.size Ps ws hw.1 p1 144 h_p1 (rl_144.to (by decide))) (cwV 1 hts (gV tw_994 tw_995 tw_996 tw_2 tw_997) rfl rfl rfl (by decide +kernel) ⟨Nat.le_of_ble_eq_true rfl, Nat.le_of_ble_eq_true rfl⟩) (tg_preV hw hK hSD hA (ci := 7) (q := (RX7, TX7, 12)) rfl h_p1 rfl) rfl rfl hl.1 rfl (lv_room (Nat.le_of_ble_eq_true rfl)) dX5_readCond_24 ⟨Nat.le_of_ble_eq_true rfl, Nat.le_of_ble_eq_true rfl⟩) hw hA (fun v_13  H locs hp_v_13 hw => ?_)
        have r_v_13 : RI v_13 0 1 := hp_v_13.1
        refine lv_if_ne (tgt := 40) hx hb dX5_readCond_27 (by decide) (fun c_27 => ?_) (fun c_27 => ?_)
        · have r_v_13 : RI v_13 1 1 := rc_neL r_v_13 rl_0 (ti_ne c_27) (by decide)
          exact B40 x4 x5 ws _ _ ls r_p3 r_x4 r_x5 (by have q0 := r_x5.1; have u0 := r_x5.2; omega) hw hl
        · have r_v_13 : RI v_13 0 0 := rc_eq1 r_v_13 rl_0 (ti_eq c_27) (by decide)
          refine lv_aload_n hx hb dX5_readCond_30 rfl (lv_at hl 1 rfl) ?_
          refine lv_sipush (v := 145) hx hb dX5_readCond_31 (by decide) ?_
          refine tk_ir (va_runV (As := [.int 145]) (rest := []) ⟨hx, hb, hml, hown, hts⟩ (c_X7_sees l D cy z H.size Ps ws hw.1 p1 145 h_p1 (rl_145.to (by decide))) (cwV 1 hts (gV tw_994 tw_995 tw_996 tw_2 tw_997) rfl rfl rfl (by decide +kernel) ⟨Nat.le_of_ble_eq_true rfl, Nat.le_of_ble_eq_true rfl⟩) (tg_preV hw hK hSD hA (ci := 7) (q := (RX7, TX7, 12)) rfl h_p1 rfl) rfl rfl hl.1 rfl (lv_room (Nat.le_of_ble_eq_true rfl)) dX5_readCond_34 ⟨Nat.le_of_ble_eq_true rfl, Nat.le_of_ble_eq_true rfl⟩) hw hA (fun v_14  H locs hp_v_14 hw => ?_)
          have r_v_14 : RI v_14 0 1 := hp_v_14.1
          refine lv_if_eq (tgt := 106) hx hb dX5_readCond_37 (by decide) (fun c_37 => ?_) (fun c_37 => ?_)
          · have r_v_14 : RI v_14 0 0 := rc_eq1 r_v_14 rl_0 (ti_eq c_37) (by decide)
            exact B106 x4 x5 ws _ _ ls r_p3 r_x4 (r_x5.to (by decide)) hw hl
          · have r_v_14 : RI v_14 1 1 := rc_neL r_v_14 rl_0 (ti_ne c_37) (by decide)
            exact B40 x4 x5 ws _ _ ls r_p3 r_x4 r_x5 (by have q0 := r_x5.1; have u0 := r_x5.2; omega) hw hl
  refine lv_iconst (v := 0) hx hb dX5_readCond_0 (by decide) ?_
  refine lv_istore (lv' := [(4, .int 0), (0, .ref p0), (1, .ref p1), (2, .ref p2), (3, .int p3)]) hx hb dX5_readCond_1 hl (by decide) rfl (fun ls hl => ?_)
  refine lv_aload_n hx hb dX5_readCond_3 rfl (lv_at hl 1 rfl) ?_
  refine lv_aload_n hx hb dX5_readCond_4 rfl (lv_at hl 2 rfl) ?_
  refine lv_aload_n hx hb dX5_readCond_5 rfl (lv_at hl 3 rfl) ?_
  refine lv_iload_n hx hb dX5_readCond_6 rfl (lv_at hl 4 rfl) ?_
  refine tk_v (va_runV (As := [.ref p1, .ref p2, .int p3]) (rest := []) ⟨hx, hb, hml, hown, hts⟩ (c_X5_readOne l D cy z s.heap.size Ps w0 hw.1 p0 p1 p2 p3 h_p0 h_p1 h_p2 r_p3) (cwV 3 hts (gV tw_977 tw_979 ts_32 tw_23 tw_980) rfl rfl rfl (by decide +kernel) ⟨Nat.le_of_ble_eq_true rfl, Nat.le_of_ble_eq_true rfl⟩) (tg_preV hw hK hSD hA (ci := 5) (q := (RX5, TX5, 5)) rfl h_p0 rfl) rfl rfl hl.1 rfl (lv_room (Nat.le_of_ble_eq_true rfl)) dX5_readCond_7 ⟨Nat.le_of_ble_eq_true rfl, Nat.le_of_ble_eq_true rfl⟩) hw hA ⟨by decide, by decide⟩ (fun ws H locs hp_v_15 hw hF9 => ?_)
  refine lv_iconst (v := 0) hx hb dX5_readCond_10 (by decide) ?_
  refine lv_istore (lv' := [(5, .int 0), (4, .int 0), (0, .ref p0), (1, .ref p1), (2, .ref p2), (3, .int p3)]) hx hb dX5_readCond_11 hl (by decide) rfl (fun ls hl => ?_)
  exact B13 4294967298 0 0 ws _ _ ls (by have q0 := rl_0.1; have u0 := rl_0.2; omega) r_p3 (rl_0.to (by decide)) (rl_0.to (by decide)) hw (lv_sub hl [2, 3, 4, 5, 1, 0] rfl)
abbrev wr_X5_read : List (Nat × Nat) := [(5, 3), (5, 4), (7, 3), (7, 4), (7, 5), (7, 6), (7, 7), (7, 8), (7, 9), (7, 10), (7, 11)]
abbrev wa_X5_read : List Nat := [21]
set_option maxHeartbeats 4000000 in
set_option maxRecDepth 100000 in
theorem c_X5_read (l : Launch) (D : va_G) (cy : Nat → ClassId) (z : Nat → Nat) (sz : Nat) (Ps : PSI) (w0 : va_W) (hT : HT cy GG Ps w0) (p0 : Nat) (p1 : Nat) (p2 : Nat) (h_p0 : (p0, 32) ∈ Ps) (h_p1 : (p1, 26) ∈ Ps) (h_p2 : (p2, 25) ∈ Ps) : Met l yX5_read (Cond.code yX5_read cX5_read 3 none :: gT) ({ frames := 21, cells := 0, slots := 0, locals := 4200 } : Room) (va_Pc [.ref p0, .ref p1, .ref p2] (PRE D cy z w0 sz)) (va_Qv (fun (u : va_W) => (True) ∧ HT cy GG Ps u ∧ FR wr_X5_read wa_X5_read Ps w0 u) (BB D cy (va_A w0 sz) (fun (u : va_W) => u)) (va_A w0 sz)) 0 0 (va_A w0 sz) := by
  refine Met.ofW (cc := cX5_read) (maxL := 3) (ret := none) (by decide) rfl ?_
  intro p e s m args below meth c s₁ B hml hv
  obtain ⟨rfl, hsz, hP, hK, hD0, hSD⟩ := hv
  have hx := B.exec
  have hb := B.bytes
  have hr := B.returns
  have hlocks := B.notSynchronized
  have hts : ∀ w ∈ gT, w.before _ s = true := fun w h => atoms_spec (ws := Cond.code yX5_read cX5_read 3 none :: gT) B.pre w (List.mem_cons_of_mem _ h)
  have hown : s.vm.findClass RX5 = some m.cls := findClass_of_methodNamed B.named
  subst hsz
  have hD := hD0.self (sz := s.heap.size)
  generalize hAe : va_A w0 s.heap.size = A at hD hSD ⊢
  have hA : ∀ q : Nat, s.heap.size ≤ q → A q := fun q h => by rw [← hAe]; exact Or.inr h
  have hl := lv_entry ([.ref p0, .ref p1, .ref p2]) (n := 3) (Nat.le_of_ble_eq_true rfl)
  rw [lg_entry_eq]
  generalize (lg_sl ([.ref p0, .ref p1, .ref p2]) ++ List.replicate (3 - (lg_sl ([.ref p0, .ref p1, .ref p2])).length) Slot.unset).toArray = ls at hl ⊢
  have hl : lv_has ls 3 [(0, .ref p0), (1, .ref p1), (2, .ref p2)] := hl
  refine nameQ (fun Q hQ => ?_)
  have hw : WD D cy GG A s wr_X5_read wa_X5_read Ps w0 Ps w0 s.heap [] := ⟨hT, hP, hD, va_S.rf, FR.rf, hT.1, [], (List.append_nil _).symm⟩
  refine lv_aload_n hx hb dX5_read_0 rfl (lv_at hl 1 rfl) ?_
  refine lv_sipush (v := 200) hx hb dX5_read_1 (by decide) ?_
  refine tk_v (va_runV (As := [.int 200]) (rest := []) ⟨hx, hb, hml, hown, hts⟩ (c_X7_startText__2 l D cy z s.heap.size Ps w0 hw.1 p1 200 h_p1 rl_200) (cwV 1 hts (gV tw_972 tw_421 tw_422 tw_2 tw_423) rfl rfl rfl (by decide +kernel) ⟨Nat.le_of_ble_eq_true rfl, Nat.le_of_ble_eq_true rfl⟩) (tg_preV hw hK hSD hA (ci := 7) (q := (RX7, TX7, 12)) rfl h_p1 rfl) rfl rfl hl.1 rfl (lv_room (Nat.le_of_ble_eq_true rfl)) dX5_read_4 ⟨Nat.le_of_ble_eq_true rfl, Nat.le_of_ble_eq_true rfl⟩) hw hA ⟨by decide, by decide⟩ (fun ws H locs hp_v_1 hw hF9 => ?_)
  obtain ⟨v_2, m_v_2, r_v_2⟩ := (hp_v_1.1)
  refine lv_aload_n hx hb dX5_read_7 rfl (lv_at hl 0 rfl) ?_
  refine lv_aload_n hx hb dX5_read_8 rfl (lv_at hl 1 rfl) ?_
  refine lv_aload_n hx hb dX5_read_9 rfl (lv_at hl 2 rfl) ?_
  refine lv_iconst (v := 1) hx hb dX5_read_10 (by decide) ?_
  refine tk_v (va_runV (As := [.ref p1, .ref p2, .int 1]) (rest := []) ⟨hx, hb, hml, hown, hts⟩ (c_X5_readCond l D cy z H.size Ps ws hw.1 p0 p1 p2 1 h_p0 h_p1 h_p2 rl_1) (cwV 3 hts (gV tw_973 tw_975 ts_31 tw_23 tw_976) rfl rfl rfl (by decide +kernel) ⟨Nat.le_of_ble_eq_true rfl, Nat.le_of_ble_eq_true rfl⟩) (tg_preV hw hK hSD hA (ci := 5) (q := (RX5, TX5, 5)) rfl h_p0 rfl) rfl rfl hl.1 rfl (lv_room (Nat.le_of_ble_eq_true rfl)) dX5_read_11 ⟨Nat.le_of_ble_eq_true rfl, Nat.le_of_ble_eq_true rfl⟩) hw hA ⟨by decide, by decide⟩ (fun ws H locs hp_v_3 hw hF9 => ?_)
  refine lv_aload_n hx hb dX5_read_14 rfl (lv_at hl 1 rfl) ?_
  refine tk_i (va_runV (As := []) (rest := []) ⟨hx, hb, hml, hown, hts⟩ (c_X7_goesOn l D cy z H.size Ps ws hw.1 p1 h_p1) (cwV 0 hts (gV tw_998 tw_439 tw_440 tw_2 tw_441) rfl rfl rfl (by decide +kernel) ⟨Nat.le_of_ble_eq_true rfl, Nat.le_of_ble_eq_true rfl⟩) (tg_preV hw hK hSD hA (ci := 7) (q := (RX7, TX7, 12)) rfl h_p1 rfl) rfl rfl hl.1 rfl (lv_room (Nat.le_of_ble_eq_true rfl)) dX5_read_15 ⟨Nat.le_of_ble_eq_true rfl, Nat.le_of_ble_eq_true rfl⟩) hw hA ⟨by decide, by decide⟩ (fun v_4 ws H locs hp_v_4 hw hF9 => ?_)
  have r_v_4 : RI v_4 0 1 := hp_v_4.1
  by_cases c9_v_4 : v_4 = 0
  · have r_v_4 : RI v_4 0 0 := by rw [c9_v_4]; exact rl_0
    refine lv_if_eq (tgt := 26) hx hb dX5_read_18 (by decide) (fun c_18 => ?_) (fun c_18 => ?_)
    · subst hQ
      exact W.vret hx hb hr (fun t ht hW => ⟨⟨ws, rfl, ⟨trivial, hw.1, hw.2.2.2.2.1⟩, by rw [ht]; exact hw.2.1, va_K.moved hW.alike hK, hw.2.2.1⟩, hw.2.2.2.1.F ht⟩) hw.2.2.2.1.2.2 dX5_read_26
    · exact absurd (r_v_4.eq.trans rl_0.eq.symm) ((ti_ne c_18))
  · have r_v_4 : RI v_4 1 1 := rc_neL r_v_4 rl_0 (ti_ne c9_v_4) (by decide)
    obtain ⟨v_5, m_v_5, r_v_5⟩ := ((hp_v_4.2.2 c9_v_4).1)
    refine lv_if_eq (tgt := 26) hx hb dX5_read_18 (by decide) (fun c_18 => ?_) (fun c_18 => ?_)
    · have r_v_4 : RI v_4 1 0 := rc_eq1 r_v_4 rl_0 (ti_eq c_18) (by decide)
      exact (r_v_4.no (by decide)).elim
    · refine lv_aload_n hx hb dX5_read_21 rfl (lv_at hl 1 rfl) ?_
      refine lv_iconst (v := 1) hx hb dX5_read_22 (by decide) ?_
      refine tk_v (va_runV (As := [.int 1]) (rest := []) ⟨hx, hb, hml, hown, hts⟩ (c_X7_refuse l D cy z H.size Ps ws hw.1 p1 1 h_p1 (rl_1.to (by decide))) (cwV 1 hts (gV tw_981 tw_443 tw_444 tw_2 tw_445) rfl rfl rfl (by decide +kernel) ⟨Nat.le_of_ble_eq_true rfl, Nat.le_of_ble_eq_true rfl⟩) (tg_preV hw hK hSD hA (ci := 7) (q := (RX7, TX7, 12)) rfl h_p1 rfl) rfl rfl hl.1 rfl (lv_room (Nat.le_of_ble_eq_true rfl)) dX5_read_23 ⟨Nat.le_of_ble_eq_true rfl, Nat.le_of_ble_eq_true rfl⟩) hw hA ⟨by decide, by decide⟩ (fun ws H locs hp_v_6 hw hF9 => ?_)
      obtain ⟨v_7, m_v_7, r_v_7⟩ := (hp_v_6.1)
      subst hQ
      exact W.vret hx hb hr (fun t ht hW => ⟨⟨ws, rfl, ⟨trivial, hw.1, hw.2.2.2.2.1⟩, by rw [ht]; exact hw.2.1, va_K.moved hW.alike hK, hw.2.2.1⟩, hw.2.2.2.1.F ht⟩) hw.2.2.2.1.2.2 dX5_read_26
abbrev wr_X0_guessIn : List (Nat × Nat) := []
abbrev wa_X0_guessIn : List Nat := [8, 13]
set_option maxHeartbeats 4000000 in
set_option maxRecDepth 100000 in
theorem c_X0_guessIn (l : Launch) (D : va_G) (cy : Nat → ClassId) (z : Nat → Nat) (sz : Nat) (Ps : PSI) (w0 : va_W) (hT : HT cy GG Ps w0) (p0 : Nat) (p1 : Int32) (p2 : Int32) (h_p0 : (p0, 24) ∈ Ps) (r_p1 : RI p1 0 7) (r_p2 : RI p2 0 5) : Met l yX0_guessIn (Cond.code yX0_guessIn cX0_guessIn 4 (some .int) :: gT) ({ frames := 5, cells := 0, slots := 0, locals := 1000 } : Room) (va_Pc [.ref p0, .int p1, .int p2] (PRE D cy z w0 sz)) (va_Qi (fun (r : Int32) (u : va_W) => (RI r 0 2 ∧ (r = 0 → True) ∧ (¬ r = 0 → True)) ∧ HT cy GG Ps u ∧ FR wr_X0_guessIn wa_X0_guessIn Ps w0 u) (BB D cy (va_A w0 sz) (fun (u : va_W) => u)) (va_A w0 sz)) 0 0 (va_A w0 sz) := by
  refine Met.ofW (cc := cX0_guessIn) (maxL := 4) (ret := (some .int)) (by decide) rfl ?_
  intro p e s m args below meth c s₁ B hml hv
  obtain ⟨rfl, hsz, hP, hK, hD0, hSD⟩ := hv
  have hx := B.exec
  have hb := B.bytes
  have hr := B.returns
  have hlocks := B.notSynchronized
  have hts : ∀ w ∈ gT, w.before _ s = true := fun w h => atoms_spec (ws := Cond.code yX0_guessIn cX0_guessIn 4 (some .int) :: gT) B.pre w (List.mem_cons_of_mem _ h)
  have hown : s.vm.findClass RX0 = some m.cls := findClass_of_methodNamed B.named
  subst hsz
  have hD := hD0.self (sz := s.heap.size)
  generalize hAe : va_A w0 s.heap.size = A at hD hSD ⊢
  have hA : ∀ q : Nat, s.heap.size ≤ q → A q := fun q h => by rw [← hAe]; exact Or.inr h
  have hl := lv_entry ([.ref p0, .int p1, .int p2]) (n := 4) (Nat.le_of_ble_eq_true rfl)
  rw [lg_entry_eq]
  generalize (lg_sl ([.ref p0, .int p1, .int p2]) ++ List.replicate (4 - (lg_sl ([.ref p0, .int p1, .int p2])).length) Slot.unset).toArray = ls at hl ⊢
  have hl : lv_has ls 4 [(0, .ref p0), (1, .int p1), (2, .int p2)] := hl
  refine nameQ (fun Q hQ => ?_)
  have hw : WD D cy GG A s wr_X0_guessIn wa_X0_guessIn Ps w0 Ps w0 s.heap [] := ⟨hT, hP, hD, va_S.rf, FR.rf, hT.1, [], (List.append_nil _).symm⟩
  refine lv_aload_n hx hb dX0_guessIn_0 rfl (lv_at hl 0 rfl) ?_
  refine lv_iload_n hx hb dX0_guessIn_1 rfl (lv_at hl 1 rfl) ?_
  refine tk_ir (va_runV (As := [.int p1]) (rest := []) ⟨hx, hb, hml, hown, hts⟩ (c_X8_whyNoGuess l D cy z s.heap.size Ps w0 hw.1 p0 p1 h_p0 r_p1) (cwV 1 hts (gV tw_932 tw_645 tw_646 tw_12 tw_647) rfl rfl rfl (by decide +kernel) ⟨Nat.le_of_ble_eq_true rfl, Nat.le_of_ble_eq_true rfl⟩) (tg_preV hw hK hSD hA (ci := 8) (q := (RX8, TX8, 13)) rfl h_p0 rfl) rfl rfl hl.1 rfl (lv_room (Nat.le_of_ble_eq_true rfl)) dX0_guessIn_2 ⟨Nat.le_of_ble_eq_true rfl, Nat.le_of_ble_eq_true rfl⟩) hw hA (fun v_1  H locs hp_v_1 hw => ?_)
  have r_v_1 : RI v_1 0 2 := hp_v_1.1
  refine lv_istore_n (lv' := [(3, .int v_1), (0, .ref p0), (1, .int p1), (2, .int p2)]) hx hb dX0_guessIn_5 rfl hl (by decide) rfl (fun ls hl => ?_)
  refine lv_iload_n hx hb dX0_guessIn_6 rfl (lv_at hl 0 rfl) ?_
  refine lv_if_ne (tgt := 17) hx hb dX0_guessIn_7 (by decide) (fun c_7 => ?_) (fun c_7 => ?_)
  · have r_v_1 : RI v_1 1 2 := rc_neL r_v_1 rl_0 (ti_ne c_7) (by decide)
    refine lv_iload_n hx hb dX0_guessIn_17 rfl (lv_at hl 0 rfl) ?_
    subst hQ
    exact W.iret (v := v_1) hx hb hr (fun t ht hW => ⟨⟨v_1, w0, rfl, ⟨⟨r_v_1.to (by decide), (fun _ => trivial), (fun h0 => trivial)⟩, hw.1, hw.2.2.2.2.1⟩, by rw [ht]; exact hw.2.1, va_K.moved hW.alike hK, hw.2.2.1⟩, hw.2.2.2.1.F ht⟩) hw.2.2.2.1.2.2 dX0_guessIn_18
  · have r_v_1 : RI v_1 0 0 := rc_eq1 r_v_1 rl_0 (ti_eq c_7) (by decide)
    refine lv_aload_n hx hb dX0_guessIn_10 rfl (lv_at hl 1 rfl) ?_
    refine lv_iload_n hx hb dX0_guessIn_11 rfl (lv_at hl 2 rfl) ?_
    refine lv_iload_n hx hb dX0_guessIn_12 rfl (lv_at hl 3 rfl) ?_
    refine tk_i (va_runV (As := [.int p1, .int p2]) (rest := []) ⟨hx, hb, hml, hown, hts⟩ (c_X8_guessAt l D cy z H.size Ps w0 hw.1 p0 p1 p2 h_p0 r_p1 r_p2) (cwV 2 hts (gV tw_933 tw_649 tw_650 tw_12 tw_651) rfl rfl rfl (by decide +kernel) ⟨Nat.le_of_ble_eq_true rfl, Nat.le_of_ble_eq_true rfl⟩) (tg_preV hw hK hSD hA (ci := 8) (q := (RX8, TX8, 13)) rfl h_p0 rfl) rfl rfl hl.1 rfl (lv_room (Nat.le_of_ble_eq_true rfl)) dX0_guessIn_13 ⟨Nat.le_of_ble_eq_true rfl, Nat.le_of_ble_eq_true rfl⟩) hw hA ⟨by decide, by decide⟩ (fun v_2 ws H locs hp_v_2 hw hF9 => ?_)
    have r_v_2 : RI v_2 0 1 := hp_v_2.1
    refine lv_pop hx hb dX0_guessIn_16 rfl ?_
    refine lv_iload_n hx hb dX0_guessIn_17 rfl (lv_at hl 0 rfl) ?_
    subst hQ
    exact W.iret (v := v_1) hx hb hr (fun t ht hW => ⟨⟨v_1, ws, rfl, ⟨⟨r_v_1.to (by decide), (fun h0 => trivial), (fun _ => trivial)⟩, hw.1, hw.2.2.2.2.1⟩, by rw [ht]; exact hw.2.1, va_K.moved hW.alike hK, hw.2.2.1⟩, hw.2.2.2.1.F ht⟩) hw.2.2.2.1.2.2 dX0_guessIn_18
