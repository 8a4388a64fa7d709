abbrev wr_X10_holds__36 : List (Nat × Nat) := []
abbrev wa_X10_holds__36 : List Nat := []
set_option maxHeartbeats 4000000 in
set_option maxRecDepth 100000 in
theorem c_X10_holds__36 (l : Launch) (D : va_G) (cy : Nat → ClassId) (z : Nat → Nat) (sz : Nat) (Ps : PSI) (w0 : va_W) (hT : HT cy GG Ps w0) (p0 : Nat) (p1 : Int32) (p2 : Int32) (h_p0 : (p0, 55) ∈ Ps) (r_p1 : RI p1 0 23) (r_p2 : RI p2 0 5) : Met l yX10_holds (Cond.code yX10_holds cX10_holds 8 (some .boolean) :: gT) ({ frames := 26, cells := 0, slots := 0, locals := 5200 } : Room) (va_Pc [.ref p0, .int p1, .int p2] (PRE D cy z w0 sz)) (va_Qi (fun (r : Int32) (u : Unit) => RI r 0 1 ∧ (r = 0 → True) ∧ (¬ r = 0 → True)) (BB D cy (va_A w0 sz) (fun (u : Unit) => w0)) (va_A w0 sz)) 0 0 (va_A w0 sz) := by
  refine Met.ofW (cc := cX10_holds) (maxL := 8) (ret := (some .boolean)) (by decide) rfl ?_
  intro p e s m args below meth c s₁ B hml hv
  obtain ⟨rfl, hsz, hP, hK, hD0, hSD⟩ := hv
  have hx := B.exec
  have hb := B.bytes
  have hr := B.returns
  have hlocks := B.notSynchronized
  have hts : ∀ w ∈ gT, w.before _ s = true := fun w h => atoms_spec (ws := Cond.code yX10_holds cX10_holds 8 (some .boolean) :: gT) B.pre w (List.mem_cons_of_mem _ h)
  have hown : s.vm.findClass RX10 = some m.cls := findClass_of_methodNamed B.named
  subst hsz
  have hD := hD0.self (sz := s.heap.size)
  generalize hAe : va_A w0 s.heap.size = A at hD hSD ⊢
  have hA : ∀ q : Nat, s.heap.size ≤ q → A q := fun q h => by rw [← hAe]; exact Or.inr h
  have hl := lv_entry ([.ref p0, .int p1, .int p2]) (n := 8) (Nat.le_of_ble_eq_true rfl)
  rw [lg_entry_eq]
  generalize (lg_sl ([.ref p0, .int p1, .int p2]) ++ List.replicate (8 - (lg_sl ([.ref p0, .int p1, .int p2])).length) Slot.unset).toArray = ls at hl ⊢
  have hl : lv_has ls 8 [(0, .ref p0), (1, .int p1), (2, .int p2)] := hl
  refine nameQ (fun Q hQ => ?_)
  have hw : WD D cy GG A s wr_X10_holds__36 wa_X10_holds__36 Ps w0 Ps w0 s.heap [] := ⟨hT, hP, hD, va_S.rf, FR.rf, hT.1, [], (List.append_nil _).symm⟩
  have B312 : ∀ (x3 : Int32) (x4 : Int32) (x5 : Int32) (x6 : Int32) (y0 : Int32) (H : Heap) (locs : List Loc) (ls : Array Slot), RI p1 0 23 → RI p2 0 5 → RI x3 174 266 → RI x4 (-2147483648) 2147483647 → RI x5 (-2147483648) 2147483647 → RI x6 (-2147483648) 2147483647 → RI y0 (-2147483648) 2147483647 → WD D cy GG A s wr_X10_holds__36 wa_X10_holds__36 Ps w0 Ps w0 H locs → lv_has ls 8 [(0, .ref p0), (1, .int p1), (2, .int p2), (3, .int x3), (4, .int x4), (5, .int x5), (6, .int x6)] → W p l e (headSpec (Cond.code yX10_holds cX10_holds 8 (some .boolean) :: gT) ({ frames := 26, cells := 0, slots := 0, locals := 5200 } : Room)).room s m ([.ref p0, .int p1, .int p2] : List Value).toArray below meth c H locs 0 0 Q (F0 m 312 ls [.int y0]) := by
    intro x3 x4 x5 x6 y0 H locs ls r_p1 r_p2 r_x3 r_x4 r_x5 r_x6 r_y0 hw hl
    refine lv_istore (lv' := [(7, .int y0), (0, .ref p0), (1, .int p1), (2, .int p2), (3, .int x3), (4, .int x4), (5, .int x5), (6, .int x6)]) hx hb dX10_holds_312 hl (by decide) rfl (fun ls hl => ?_)
    refine lv_aload_n hx hb dX10_holds_314 rfl (lv_at hl 1 rfl) ?_
    refine tg_get (ci := 10) (ts := ty_MODEL) (C := RX10) (T := TX10) (N := 49) hx hb hts inX10 hown hK hw h_p0 rfl rfl 14 (by decide) (hts _ tw_1151) (fun _ h9 => h9) (ft := vR 34) rfl dX10_holds_315 (fun u_1 hv_u_1 m_u_1 => ?_)
    obtain ⟨vu_1, rfl, h_vu_1⟩ := hv_u_1
    refine lv_iload_n hx hb dX10_holds_318 rfl (lv_at hl 4 rfl) ?_
    refine lv_iconst (v := 3) hx hb dX10_holds_319 (by decide) ?_
    refine lv_iadd hx hb dX10_holds_320 (lv_topi (fun v_2 e_v_2 => ?_))
    obtain ⟨t_v_2, r_v_2⟩ := tq_add (lo := 177) (hi := 269) r_x3 rl_3 (by decide +kernel) e_v_2
    have t_v_2 : v_2.toInt = x3.toInt + 3 := t_v_2
    refine tg_iald (lo := (-2147483648)) (hi := 2147483647) hx hb hK hw h_vu_1 rfl 177 269 r_v_2 (by decide) (by decide +kernel) dX10_holds_321 (fun v_3 r_v_3 m_v_3 o_v_3 => ?_)
    refine lv_bipush (v := 60) hx hb dX10_holds_322 (by decide) ?_
    refine lv_icmp_ne (tgt := 342) hx hb dX10_holds_324 (by decide) (fun c_324 => ?_) (fun c_324 => ?_)
    · refine lv_aload_n hx hb dX10_holds_342 rfl (lv_at hl 1 rfl) ?_
      refine tg_mem (ci := 10) (C := RX10) (T := TX10) (N := 49) hx hb hts inX10 hown hK hw 14 m_u_1 rfl (by decide) (hts _ tw_1151) (fun _ h9 => h9) dX10_holds_343 ?_
      refine lv_iload_n hx hb dX10_holds_346 rfl (lv_at hl 4 rfl) ?_
      refine lv_iconst (v := 3) hx hb dX10_holds_347 (by decide) ?_
      refine lv_iadd hx hb dX10_holds_348 (lv_topi (fun v_4 e_v_4 => ?_))
      obtain ⟨t_v_4, r_v_4⟩ := tq_add (lo := 177) (hi := 269) r_x3 rl_3 (by decide +kernel) e_v_4
      have t_v_4 : v_4.toInt = x3.toInt + 3 := t_v_4
      refine tg_iald (lo := (-2147483648)) (hi := 2147483647) hx hb hK hw h_vu_1 rfl 177 269 r_v_4 (by decide) (by decide +kernel) dX10_holds_349 (fun v_5 r_v_5 m_v_5 o_v_5 => ?_)
      refine lv_bipush (v := 61) hx hb dX10_holds_350 (by decide) ?_
      refine lv_icmp_ne (tgt := 370) hx hb dX10_holds_352 (by decide) (fun c_352 => ?_) (fun c_352 => ?_)
      · refine lv_iload hx hb dX10_holds_370 (lv_at hl 0 rfl) ?_
        refine lv_iload hx hb dX10_holds_372 (lv_at hl 6 rfl) ?_
        refine lv_icmp_le (tgt := 381) hx hb dX10_holds_374 (by decide) (fun c_374 => ?_) (fun c_374 => ?_)
        · refine lv_iconst (v := 0) hx hb dX10_holds_381 (by decide) ?_
          subst hQ
          exact W.zret (v := 0) hx hb hr (rfl) (fun t ht hW => ⟨⟨0, (), rfl, ⟨rl_0.to (by decide), (fun h0 => trivial), (fun _ => trivial)⟩, by rw [ht]; exact hw.2.1, va_K.moved hW.alike hK, hw.2.2.1⟩, hw.2.2.2.1.F ht⟩) hw.2.2.2.1.2.2 dX10_holds_382
        · have r_x5 : RI x5 (-2147483648) 2147483646 := rc_lt1 r_x5 r_y0 (ti_nle c_374) (by decide)
          have r_y0 : RI y0 (-2147483647) 2147483647 := rc_lt2 r_x5 r_y0 (ti_nle c_374) (by decide)
          refine lv_iconst (v := 1) hx hb dX10_holds_377 (by decide) ?_
          refine lv_goto (tgt := 382) hx hb dX10_holds_378 (by decide) ?_
          subst hQ
          exact W.zret (v := 1) hx hb hr (rfl) (fun t ht hW => ⟨⟨1, (), rfl, ⟨rl_1.to (by decide), (fun _ => trivial), (fun h0 => trivial)⟩, by rw [ht]; exact hw.2.1, va_K.moved hW.alike hK, hw.2.2.1⟩, hw.2.2.2.1.F ht⟩) hw.2.2.2.1.2.2 dX10_holds_382
      · have r_v_5 : RI v_5 61 61 := rc_eq1 r_v_5 rl_61 (ti_eq c_352) (by decide)
        refine lv_iload hx hb dX10_holds_355 (lv_at hl 0 rfl) ?_
        refine lv_iload hx hb dX10_holds_357 (lv_at hl 6 rfl) ?_
        refine lv_icmp_ne (tgt := 366) hx hb dX10_holds_359 (by decide) (fun c_359 => ?_) (fun c_359 => ?_)
        · refine lv_iconst (v := 0) hx hb dX10_holds_366 (by decide) ?_
          refine lv_goto (tgt := 382) hx hb dX10_holds_367 (by decide) ?_
          subst hQ
          exact W.zret (v := 0) hx hb hr (rfl) (fun t ht hW => ⟨⟨0, (), rfl, ⟨rl_0.to (by decide), (fun h0 => trivial), (fun _ => trivial)⟩, by rw [ht]; exact hw.2.1, va_K.moved hW.alike hK, hw.2.2.1⟩, hw.2.2.2.1.F ht⟩) hw.2.2.2.1.2.2 dX10_holds_382
        · refine lv_iconst (v := 1) hx hb dX10_holds_362 (by decide) ?_
          refine lv_goto (tgt := 382) hx hb dX10_holds_363 (by decide) ?_
          subst hQ
          exact W.zret (v := 1) hx hb hr (rfl) (fun t ht hW => ⟨⟨1, (), rfl, ⟨rl_1.to (by decide), (fun _ => trivial), (fun h0 => trivial)⟩, by rw [ht]; exact hw.2.1, va_K.moved hW.alike hK, hw.2.2.1⟩, hw.2.2.2.1.F ht⟩) hw.2.2.2.1.2.2 dX10_holds_382
    · have r_v_3 : RI v_3 60 60 := rc_eq1 r_v_3 rl_60 (ti_eq c_324) (by decide)
      refine lv_iload hx hb dX10_holds_327 (lv_at hl 0 rfl) ?_
      refine lv_iload hx hb dX10_holds_329 (lv_at hl 6 rfl) ?_
      refine lv_icmp_ge (tgt := 338) hx hb dX10_holds_331 (by decide) (fun c_331 => ?_) (fun c_331 => ?_)
      · refine lv_iconst (v := 0) hx hb dX10_holds_338 (by decide) ?_
        refine lv_goto (tgt := 382) hx hb dX10_holds_339 (by decide) ?_
        subst hQ
        exact W.zret (v := 0) hx hb hr (rfl) (fun t ht hW => ⟨⟨0, (), rfl, ⟨rl_0.to (by decide), (fun h0 => trivial), (fun _ => trivial)⟩, by rw [ht]; exact hw.2.1, va_K.moved hW.alike hK, hw.2.2.1⟩, hw.2.2.2.1.F ht⟩) hw.2.2.2.1.2.2 dX10_holds_382
      · have r_y0 : RI y0 (-2147483648) 2147483646 := rc_lt1 r_y0 r_x5 (ti_nle c_331) (by decide)
        have r_x5 : RI x5 (-2147483647) 2147483647 := rc_lt2 r_y0 r_x5 (ti_nle c_331) (by decide)
        refine lv_iconst (v := 1) hx hb dX10_holds_334 (by decide) ?_
        refine lv_goto (tgt := 382) hx hb dX10_holds_335 (by decide) ?_
        subst hQ
        exact W.zret (v := 1) hx hb hr (rfl) (fun t ht hW => ⟨⟨1, (), rfl, ⟨rl_1.to (by decide), (fun _ => trivial), (fun h0 => trivial)⟩, by rw [ht]; exact hw.2.1, va_K.moved hW.alike hK, hw.2.2.1⟩, hw.2.2.2.1.F ht⟩) hw.2.2.2.1.2.2 dX10_holds_382
  refine lv_sipush (v := 174) hx hb dX10_holds_0 (by decide) ?_
  refine lv_iconst (v := 4) hx hb dX10_holds_3 (by decide) ?_
  refine lv_iload_n hx hb dX10_holds_4 rfl (lv_at hl 1 rfl) ?_
  refine lv_imul hx hb dX10_holds_5 (lv_topi (fun v_6 e_v_6 => ?_))
  obtain ⟨t_v_6, r_v_6⟩ := tq_mul (lo := 0) (hi := 92) rl_4 r_p1 (by decide +kernel) e_v_6
  have t_v_6 : v_6.toInt = 4 * p1.toInt := t_v_6
  refine lv_iadd hx hb dX10_holds_6 (lv_topi (fun v_7 e_v_7 => ?_))
  obtain ⟨t_v_7, r_v_7⟩ := tq_add (lo := 174) (hi := 266) rl_174 r_v_6 (by decide +kernel) e_v_7
  have t_v_7 : v_7.toInt = 174 + v_6.toInt := t_v_7
  refine lv_istore_n (lv' := [(3, .int v_7), (0, .ref p0), (1, .int p1), (2, .int p2)]) hx hb dX10_holds_7 rfl hl (by decide) rfl (fun ls hl => ?_)
  refine lv_aload_n hx hb dX10_holds_8 rfl (lv_at hl 1 rfl) ?_
  refine tg_get (ci := 10) (ts := ty_MODEL) (C := RX10) (T := TX10) (N := 49) hx hb hts inX10 hown hK hw h_p0 rfl rfl 14 (by decide) (hts _ tw_1151) (fun _ h9 => h9) (ft := vR 34) rfl dX10_holds_9 (fun u_8 hv_u_8 m_u_8 => ?_)
  obtain ⟨vu_8, rfl, h_vu_8⟩ := hv_u_8
  refine lv_iload_n hx hb dX10_holds_12 rfl (lv_at hl 0 rfl) ?_
  refine lv_iconst (v := 1) hx hb dX10_holds_13 (by decide) ?_
  refine lv_iadd hx hb dX10_holds_14 (lv_topi (fun v_9 e_v_9 => ?_))
  obtain ⟨t_v_9, r_v_9⟩ := tq_add (lo := 175) (hi := 267) r_v_7 rl_1 (by decide +kernel) e_v_9
  have t_v_9 : v_9.toInt = v_7.toInt + 1 := t_v_9
  refine tg_iald (lo := (-2147483648)) (hi := 2147483647) hx hb hK hw h_vu_8 rfl 175 267 r_v_9 (by decide) (by decide +kernel) dX10_holds_15 (fun v_10 r_v_10 m_v_10 o_v_10 => ?_)
  refine lv_istore (lv' := [(4, .int v_10), (3, .int v_7), (0, .ref p0), (1, .int p1), (2, .int p2)]) hx hb dX10_holds_16 hl (by decide) rfl (fun ls hl => ?_)
  refine lv_aload_n hx hb dX10_holds_18 rfl (lv_at hl 2 rfl) ?_
  refine tg_mem (ci := 10) (C := RX10) (T := TX10) (N := 49) hx hb hts inX10 hown hK hw 14 m_u_8 rfl (by decide) (hts _ tw_1151) (fun _ h9 => h9) dX10_holds_19 ?_
  refine lv_iload_n hx hb dX10_holds_22 rfl (lv_at hl 1 rfl) ?_
  refine lv_iconst (v := 2) hx hb dX10_holds_23 (by decide) ?_
  refine lv_iadd hx hb dX10_holds_24 (lv_topi (fun v_11 e_v_11 => ?_))
  obtain ⟨t_v_11, r_v_11⟩ := tq_add (lo := 176) (hi := 268) r_v_7 rl_2 (by decide +kernel) e_v_11
  have t_v_11 : v_11.toInt = v_7.toInt + 2 := t_v_11
  refine tg_iald (lo := (-2147483648)) (hi := 2147483647) hx hb hK hw h_vu_8 rfl 176 268 r_v_11 (by decide) (by decide +kernel) dX10_holds_25 (fun v_12 r_v_12 m_v_12 o_v_12 => ?_)
  refine lv_istore (lv' := [(5, .int v_12), (4, .int v_10), (3, .int v_7), (0, .ref p0), (1, .int p1), (2, .int p2)]) hx hb dX10_holds_26 hl (by decide) rfl (fun ls hl => ?_)
  refine lv_aload_n hx hb dX10_holds_28 rfl (lv_at hl 3 rfl) ?_
  refine tg_mem (ci := 10) (C := RX10) (T := TX10) (N := 49) hx hb hts inX10 hown hK hw 14 m_u_8 rfl (by decide) (hts _ tw_1151) (fun _ h9 => h9) dX10_holds_29 ?_
  refine lv_iload_n hx hb dX10_holds_32 rfl (lv_at hl 2 rfl) ?_
  refine tg_iald (lo := (-2147483648)) (hi := 2147483647) hx hb hK hw h_vu_8 rfl 174 266 r_v_7 (by decide) (by decide +kernel) dX10_holds_33 (fun v_13 r_v_13 m_v_13 o_v_13 => ?_)
  by_cases k_34_1 : v_13 = 1
  · refine lv_lookup (tgt := 108) (off := 74) hx hb dX10_holds_34 (by decide) (by rw [k_34_1]; decide) (by decide) ?_
    have r_v_13 : RI v_13 1 1 := by rw [k_34_1]; exact rl_1
    have g_v_10 : 0 ≤ v_10.toInt ∧ v_10.toInt < p1.toInt := by obtain ⟨_, f9, e8, e7, q9, _⟩ := ax_of (k := 14) (t := 34) hw h_p0 rfl (fun _ => rfl); cases FLD.inj hw.2.2.1 e8 m_u_8; have t9 := ARR.ael hw.2.2.1 e7 m_v_13; have x9 := ARR.ael hw.2.2.1 e7 m_v_10; rw [show Int32.toNatClampNeg v_7 = 174 + 4 * Int32.toNatClampNeg p1 from (by have k1 := r_v_7.cl (by decide); have k2 := r_p1.cl (by decide); omega)] at t9; rw [show Int32.toNatClampNeg v_9 = 175 + 4 * Int32.toNatClampNeg p1 from (by have k1 := r_v_9.cl (by decide); have k2 := r_p1.cl (by decide); omega)] at x9; exact RN_child q9 (r_p1.to (by decide)) t9 x9 (r_v_13.to (by decide))
    have r_v_10 : RI v_10 0 22 := ⟨g_v_10.1, by have k1 := r_p1.2; omega⟩
    refine lv_aload_n hx hb dX10_holds_108 rfl (lv_at hl 3 rfl) ?_
    refine lv_iload hx hb dX10_holds_109 (lv_at hl 1 rfl) ?_
    refine lv_iload_n hx hb dX10_holds_111 rfl (lv_at hl 5 rfl) ?_
    refine tk_ir (va_runV (As := [.int v_10, .int p2]) (rest := []) ⟨hx, hb, hml, hown, hts⟩ (c_X10_holds__37 l D cy z s.heap.size Ps w0 hw.1 p0 v_10 p2 h_p0 r_v_10 r_p2) (cwV 2 hts (gV tw_1787 tw_1789 ts_119 tw_15 tw_1790) rfl rfl rfl (by decide +kernel) ⟨Nat.le_of_ble_eq_true rfl, Nat.le_of_ble_eq_true rfl⟩) (tg_preV hw hK hSD hA (ci := 10) (q := (RX10, TX10, 49)) rfl h_p0 rfl) rfl rfl hl.1 rfl (lv_room (Nat.le_of_ble_eq_true rfl)) dX10_holds_112 ⟨Nat.le_of_ble_eq_true rfl, Nat.le_of_ble_eq_true rfl⟩) hw hA (fun v_14  H locs hp_v_14 hw => ?_)
    have r_v_14 : RI v_14 0 1 := hp_v_14.1
    refine lv_if_ne (tgt := 122) hx hb dX10_holds_115 (by decide) (fun c_115 => ?_) (fun c_115 => ?_)
    · have r_v_14 : RI v_14 1 1 := rc_neL r_v_14 rl_0 (ti_ne c_115) (by decide)
      refine lv_iconst (v := 0) hx hb dX10_holds_122 (by decide) ?_
      subst hQ
      exact W.zret (v := 0) hx hb hr (rfl) (fun t ht hW => ⟨⟨0, (), rfl, ⟨rl_0.to (by decide), (fun h0 => trivial), (fun _ => trivial)⟩, by rw [ht]; exact hw.2.1, va_K.moved hW.alike hK, hw.2.2.1⟩, hw.2.2.2.1.F ht⟩) hw.2.2.2.1.2.2 dX10_holds_123
    · have r_v_14 : RI v_14 0 0 := rc_eq1 r_v_14 rl_0 (ti_eq c_115) (by decide)
      refine lv_iconst (v := 1) hx hb dX10_holds_118 (by decide) ?_
      refine lv_goto (tgt := 123) hx hb dX10_holds_119 (by decide) ?_
      subst hQ
      exact W.zret (v := 1) hx hb hr (rfl) (fun t ht hW => ⟨⟨1, (), rfl, ⟨rl_1.to (by decide), (fun _ => trivial), (fun h0 => trivial)⟩, by rw [ht]; exact hw.2.1, va_K.moved hW.alike hK, hw.2.2.1⟩, hw.2.2.2.1.F ht⟩) hw.2.2.2.1.2.2 dX10_holds_123
  · by_cases k_34_2 : v_13 = 2
    · refine lv_lookup (tgt := 124) (off := 90) hx hb dX10_holds_34 (by decide) (by rw [k_34_2]; decide) (by decide) ?_
      have r_v_13 : RI v_13 2 2 := by rw [k_34_2]; exact rl_2
      have g_v_10 : 0 ≤ v_10.toInt ∧ v_10.toInt < p1.toInt := by obtain ⟨_, f9, e8, e7, q9, _⟩ := ax_of (k := 14) (t := 34) hw h_p0 rfl (fun _ => rfl); cases FLD.inj hw.2.2.1 e8 m_u_8; have t9 := ARR.ael hw.2.2.1 e7 m_v_13; have x9 := ARR.ael hw.2.2.1 e7 m_v_10; rw [show Int32.toNatClampNeg v_7 = 174 + 4 * Int32.toNatClampNeg p1 from (by have k1 := r_v_7.cl (by decide); have k2 := r_p1.cl (by decide); omega)] at t9; rw [show Int32.toNatClampNeg v_9 = 175 + 4 * Int32.toNatClampNeg p1 from (by have k1 := r_v_9.cl (by decide); have k2 := r_p1.cl (by decide); omega)] at x9; exact RN_child q9 (r_p1.to (by decide)) t9 x9 (r_v_13.to (by decide))
      have r_v_10 : RI v_10 0 22 := ⟨g_v_10.1, by have k1 := r_p1.2; omega⟩
      have g_v_12 : 0 ≤ v_12.toInt ∧ v_12.toInt < p1.toInt := by obtain ⟨_, f9, e8, e7, q9, _⟩ := ax_of (k := 14) (t := 34) hw h_p0 rfl (fun _ => rfl); cases FLD.inj hw.2.2.1 e8 m_u_8; have t9 := ARR.ael hw.2.2.1 e7 m_v_13; have x9 := ARR.ael hw.2.2.1 e7 m_v_12; rw [show Int32.toNatClampNeg v_7 = 174 + 4 * Int32.toNatClampNeg p1 from (by have k1 := r_v_7.cl (by decide); have k2 := r_p1.cl (by decide); omega)] at t9; rw [show Int32.toNatClampNeg v_11 = 176 + 4 * Int32.toNatClampNeg p1 from (by have k1 := r_v_11.cl (by decide); have k2 := r_p1.cl (by decide); omega)] at x9; exact RN_child2 q9 (r_p1.to (by decide)) t9 x9 (r_v_13.to (by decide))
      have r_v_12 : RI v_12 0 22 := ⟨g_v_12.1, by have k1 := r_p1.2; omega⟩
      refine lv_aload_n hx hb dX10_holds_124 rfl (lv_at hl 3 rfl) ?_
      refine lv_iload hx hb dX10_holds_125 (lv_at hl 1 rfl) ?_
      refine lv_iload_n hx hb dX10_holds_127 rfl (lv_at hl 5 rfl) ?_
      refine tk_ir (va_runV (As := [.int v_10, .int p2]) (rest := []) ⟨hx, hb, hml, hown, hts⟩ (c_X10_holds__37 l D cy z s.heap.size Ps w0 hw.1 p0 v_10 p2 h_p0 r_v_10 r_p2) (cwV 2 hts (gV tw_1787 tw_1789 ts_119 tw_15 tw_1790) rfl rfl rfl (by decide +kernel) ⟨Nat.le_of_ble_eq_true rfl, Nat.le_of_ble_eq_true rfl⟩) (tg_preV hw hK hSD hA (ci := 10) (q := (RX10, TX10, 49)) rfl h_p0 rfl) rfl rfl hl.1 rfl (lv_room (Nat.le_of_ble_eq_true rfl)) dX10_holds_128 ⟨Nat.le_of_ble_eq_true rfl, Nat.le_of_ble_eq_true rfl⟩) hw hA (fun v_15  H locs hp_v_15 hw => ?_)
      have r_v_15 : RI v_15 0 1 := hp_v_15.1
      refine lv_if_eq (tgt := 148) hx hb dX10_holds_131 (by decide) (fun c_131 => ?_) (fun c_131 => ?_)
      · have r_v_15 : RI v_15 0 0 := rc_eq1 r_v_15 rl_0 (ti_eq c_131) (by decide)
        refine lv_iconst (v := 0) hx hb dX10_holds_148 (by decide) ?_
        subst hQ
        exact W.zret (v := 0) hx hb hr (rfl) (fun t ht hW => ⟨⟨0, (), rfl, ⟨rl_0.to (by decide), (fun h0 => trivial), (fun _ => trivial)⟩, by rw [ht]; exact hw.2.1, va_K.moved hW.alike hK, hw.2.2.1⟩, hw.2.2.2.1.F ht⟩) hw.2.2.2.1.2.2 dX10_holds_149
      · have r_v_15 : RI v_15 1 1 := rc_neL r_v_15 rl_0 (ti_ne c_131) (by decide)
        refine lv_aload_n hx hb dX10_holds_134 rfl (lv_at hl 3 rfl) ?_
        refine lv_iload hx hb dX10_holds_135 (lv_at hl 0 rfl) ?_
        refine lv_iload_n hx hb dX10_holds_137 rfl (lv_at hl 5 rfl) ?_
        refine tk_ir (va_runV (As := [.int v_12, .int p2]) (rest := []) ⟨hx, hb, hml, hown, hts⟩ (c_X10_holds__37 l D cy z H.size Ps w0 hw.1 p0 v_12 p2 h_p0 r_v_12 r_p2) (cwV 2 hts (gV tw_1787 tw_1789 ts_119 tw_15 tw_1790) rfl rfl rfl (by decide +kernel) ⟨Nat.le_of_ble_eq_true rfl, Nat.le_of_ble_eq_true rfl⟩) (tg_preV hw hK hSD hA (ci := 10) (q := (RX10, TX10, 49)) rfl h_p0 rfl) rfl rfl hl.1 rfl (lv_room (Nat.le_of_ble_eq_true rfl)) dX10_holds_138 ⟨Nat.le_of_ble_eq_true rfl, Nat.le_of_ble_eq_true rfl⟩) hw hA (fun v_16  H locs hp_v_16 hw => ?_)
        have r_v_16 : RI v_16 0 1 := hp_v_16.1
        refine lv_if_eq (tgt := 148) hx hb dX10_holds_141 (by decide) (fun c_141 => ?_) (fun c_141 => ?_)
        · have r_v_16 : RI v_16 0 0 := rc_eq1 r_v_16 rl_0 (ti_eq c_141) (by decide)
          refine lv_iconst (v := 0) hx hb dX10_holds_148 (by decide) ?_
          subst hQ
          exact W.zret (v := 0) hx hb hr (rfl) (fun t ht hW => ⟨⟨0, (), rfl, ⟨rl_0.to (by decide), (fun h0 => trivial), (fun _ => trivial)⟩, by rw [ht]; exact hw.2.1, va_K.moved hW.alike hK, hw.2.2.1⟩, hw.2.2.2.1.F ht⟩) hw.2.2.2.1.2.2 dX10_holds_149
        · have r_v_16 : RI v_16 1 1 := rc_neL r_v_16 rl_0 (ti_ne c_141) (by decide)
          refine lv_iconst (v := 1) hx hb dX10_holds_144 (by decide) ?_
          refine lv_goto (tgt := 149) hx hb dX10_holds_145 (by decide) ?_
          subst hQ
          exact W.zret (v := 1) hx hb hr (rfl) (fun t ht hW => ⟨⟨1, (), rfl, ⟨rl_1.to (by decide), (fun _ => trivial), (fun h0 => trivial)⟩, by rw [ht]; exact hw.2.1, va_K.moved hW.alike hK, hw.2.2.1⟩, hw.2.2.2.1.F ht⟩) hw.2.2.2.1.2.2 dX10_holds_149
    · by_cases k_34_3 : v_13 = 3
      · refine lv_lookup (tgt := 150) (off := 116) hx hb dX10_holds_34 (by decide) (by rw [k_34_3]; decide) (by decide) ?_
        have r_v_13 : RI v_13 3 3 := by rw [k_34_3]; exact rl_3
        have g_v_10 : 0 ≤ v_10.toInt ∧ v_10.toInt < p1.toInt := by obtain ⟨_, f9, e8, e7, q9, _⟩ := ax_of (k := 14) (t := 34) hw h_p0 rfl (fun _ => rfl); cases FLD.inj hw.2.2.1 e8 m_u_8; have t9 := ARR.ael hw.2.2.1 e7 m_v_13; have x9 := ARR.ael hw.2.2.1 e7 m_v_10; rw [show Int32.toNatClampNeg v_7 = 174 + 4 * Int32.toNatClampNeg p1 from (by have k1 := r_v_7.cl (by decide); have k2 := r_p1.cl (by decide); omega)] at t9; rw [show Int32.toNatClampNeg v_9 = 175 + 4 * Int32.toNatClampNeg p1 from (by have k1 := r_v_9.cl (by decide); have k2 := r_p1.cl (by decide); omega)] at x9; exact RN_child q9 (r_p1.to (by decide)) t9 x9 (r_v_13.to (by decide))
        have r_v_10 : RI v_10 0 22 := ⟨g_v_10.1, by have k1 := r_p1.2; omega⟩
        have g_v_12 : 0 ≤ v_12.toInt ∧ v_12.toInt < p1.toInt := by obtain ⟨_, f9, e8, e7, q9, _⟩ := ax_of (k := 14) (t := 34) hw h_p0 rfl (fun _ => rfl); cases FLD.inj hw.2.2.1 e8 m_u_8; have t9 := ARR.ael hw.2.2.1 e7 m_v_13; have x9 := ARR.ael hw.2.2.1 e7 m_v_12; rw [show Int32.toNatClampNeg v_7 = 174 + 4 * Int32.toNatClampNeg p1 from (by have k1 := r_v_7.cl (by decide); have k2 := r_p1.cl (by decide); omega)] at t9; rw [show Int32.toNatClampNeg v_11 = 176 + 4 * Int32.toNatClampNeg p1 from (by have k1 := r_v_11.cl (by decide); have k2 := r_p1.cl (by decide); omega)] at x9; exact RN_child2 q9 (r_p1.to (by decide)) t9 x9 (r_v_13.to (by decide))
        have r_v_12 : RI v_12 0 22 := ⟨g_v_12.1, by have k1 := r_p1.2; omega⟩
        refine lv_aload_n hx hb dX10_holds_150 rfl (lv_at hl 3 rfl) ?_
        refine lv_iload hx hb dX10_holds_151 (lv_at hl 1 rfl) ?_
        refine lv_iload_n hx hb dX10_holds_153 rfl (lv_at hl 5 rfl) ?_
        refine tk_ir (va_runV (As := [.int v_10, .int p2]) (rest := []) ⟨hx, hb, hml, hown, hts⟩ (c_X10_holds__37 l D cy z s.heap.size Ps w0 hw.1 p0 v_10 p2 h_p0 r_v_10 r_p2) (cwV 2 hts (gV tw_1787 tw_1789 ts_119 tw_15 tw_1790) rfl rfl rfl (by decide +kernel) ⟨Nat.le_of_ble_eq_true rfl, Nat.le_of_ble_eq_true rfl⟩) (tg_preV hw hK hSD hA (ci := 10) (q := (RX10, TX10, 49)) rfl h_p0 rfl) rfl rfl hl.1 rfl (lv_room (Nat.le_of_ble_eq_true rfl)) dX10_holds_154 ⟨Nat.le_of_ble_eq_true rfl, Nat.le_of_ble_eq_true rfl⟩) hw hA (fun v_17  H locs hp_v_17 hw => ?_)
        have r_v_17 : RI v_17 0 1 := hp_v_17.1
        refine lv_if_ne (tgt := 170) hx hb dX10_holds_157 (by decide) (fun c_157 => ?_) (fun c_157 => ?_)
        · have r_v_17 : RI v_17 1 1 := rc_neL r_v_17 rl_0 (ti_ne c_157) (by decide)
          refine lv_iconst (v := 1) hx hb dX10_holds_170 (by decide) ?_
          refine lv_goto (tgt := 175) hx hb dX10_holds_171 (by decide) ?_
          subst hQ
          exact W.zret (v := 1) hx hb hr (rfl) (fun t ht hW => ⟨⟨1, (), rfl, ⟨rl_1.to (by decide), (fun _ => trivial), (fun h0 => trivial)⟩, by rw [ht]; exact hw.2.1, va_K.moved hW.alike hK, hw.2.2.1⟩, hw.2.2.2.1.F ht⟩) hw.2.2.2.1.2.2 dX10_holds_175
        · have r_v_17 : RI v_17 0 0 := rc_eq1 r_v_17 rl_0 (ti_eq c_157) (by decide)
          refine lv_aload_n hx hb dX10_holds_160 rfl (lv_at hl 3 rfl) ?_
          refine lv_iload hx hb dX10_holds_161 (lv_at hl 0 rfl) ?_
          refine lv_iload_n hx hb dX10_holds_163 rfl (lv_at hl 5 rfl) ?_
          refine tk_ir (va_runV (As := [.int v_12, .int p2]) (rest := []) ⟨hx, hb, hml, hown, hts⟩ (c_X10_holds__37 l D cy z H.size Ps w0 hw.1 p0 v_12 p2 h_p0 r_v_12 r_p2) (cwV 2 hts (gV tw_1787 tw_1789 ts_119 tw_15 tw_1790) rfl rfl rfl (by decide +kernel) ⟨Nat.le_of_ble_eq_true rfl, Nat.le_of_ble_eq_true rfl⟩) (tg_preV hw hK hSD hA (ci := 10) (q := (RX10, TX10, 49)) rfl h_p0 rfl) rfl rfl hl.1 rfl (lv_room (Nat.le_of_ble_eq_true rfl)) dX10_holds_164 ⟨Nat.le_of_ble_eq_true rfl, Nat.le_of_ble_eq_true rfl⟩) hw hA (fun v_18  H locs hp_v_18 hw => ?_)
          have r_v_18 : RI v_18 0 1 := hp_v_18.1
          refine lv_if_eq (tgt := 174) hx hb dX10_holds_167 (by decide) (fun c_167 => ?_) (fun c_167 => ?_)
          · have r_v_18 : RI v_18 0 0 := rc_eq1 r_v_18 rl_0 (ti_eq c_167) (by decide)
            refine lv_iconst (v := 0) hx hb dX10_holds_174 (by decide) ?_
            subst hQ
            exact W.zret (v := 0) hx hb hr (rfl) (fun t ht hW => ⟨⟨0, (), rfl, ⟨rl_0.to (by decide), (fun h0 => trivial), (fun _ => trivial)⟩, by rw [ht]; exact hw.2.1, va_K.moved hW.alike hK, hw.2.2.1⟩, hw.2.2.2.1.F ht⟩) hw.2.2.2.1.2.2 dX10_holds_175
          · have r_v_18 : RI v_18 1 1 := rc_neL r_v_18 rl_0 (ti_ne c_167) (by decide)
            refine lv_iconst (v := 1) hx hb dX10_holds_170 (by decide) ?_
            refine lv_goto (tgt := 175) hx hb dX10_holds_171 (by decide) ?_
            subst hQ
            exact W.zret (v := 1) hx hb hr (rfl) (fun t ht hW => ⟨⟨1, (), rfl, ⟨rl_1.to (by decide), (fun _ => trivial), (fun h0 => trivial)⟩, by rw [ht]; exact hw.2.1, va_K.moved hW.alike hK, hw.2.2.1⟩, hw.2.2.2.1.F ht⟩) hw.2.2.2.1.2.2 dX10_holds_175
      · by_cases k_34_69 : v_13 = 69
        · refine lv_lookup (tgt := 176) (off := 142) hx hb dX10_holds_34 (by decide) (by rw [k_34_69]; decide) (by decide) ?_
          have r_v_13 : RI v_13 69 69 := by rw [k_34_69]; exact rl_69
          refine lv_aload_n hx hb dX10_holds_176 rfl (lv_at hl 3 rfl) ?_
          refine lv_iload_n hx hb dX10_holds_177 rfl (lv_at hl 5 rfl) ?_
          refine tk_ir (va_runV (As := [.int p2]) (rest := []) ⟨hx, hb, hml, hown, hts⟩ (c_X10_isOpen l D cy z s.heap.size Ps w0 hw.1 p0 p2 h_p0 (r_p2.to (by decide))) (cwV 1 hts (gV tw_1457 tw_1459 ts_71 tw_15 tw_1460) rfl rfl rfl (by decide +kernel) ⟨Nat.le_of_ble_eq_true rfl, Nat.le_of_ble_eq_true rfl⟩) (tg_preV hw hK hSD hA (ci := 10) (q := (RX10, TX10, 49)) rfl h_p0 rfl) rfl rfl hl.1 rfl (lv_room (Nat.le_of_ble_eq_true rfl)) dX10_holds_178 ⟨Nat.le_of_ble_eq_true rfl, Nat.le_of_ble_eq_true rfl⟩) hw hA (fun v_19  H locs hp_v_19 hw => ?_)
          have r_v_19 : RI v_19 0 1 := hp_v_19.1
          subst hQ
          exact W.zret (v := v_19) hx hb hr (tq_nz (r_v_19.to (by decide))) (fun t ht hW => ⟨⟨v_19, (), rfl, ⟨r_v_19.to (by decide), (fun h0 => trivial), (fun h0 => trivial)⟩, by rw [ht]; exact hw.2.1, va_K.moved hW.alike hK, hw.2.2.1⟩, hw.2.2.2.1.F ht⟩) hw.2.2.2.1.2.2 dX10_holds_181
        · by_cases k_34_70 : v_13 = 70
          · refine lv_lookup (tgt := 182) (off := 148) hx hb dX10_holds_34 (by decide) (by rw [k_34_70]; decide) (by decide) ?_
            have r_v_13 : RI v_13 70 70 := by rw [k_34_70]; exact rl_70
            refine lv_aload_n hx hb dX10_holds_182 rfl (lv_at hl 3 rfl) ?_
            refine lv_iload_n hx hb dX10_holds_183 rfl (lv_at hl 5 rfl) ?_
            refine tk_ir (va_runV (As := [.int p2]) (rest := []) ⟨hx, hb, hml, hown, hts⟩ (c_X10_whatIs l D cy z s.heap.size Ps w0 hw.1 p0 p2 h_p0 r_p2) (cwV 1 hts (gV tw_1449 tw_1451 ts_69 tw_15 tw_1452) rfl rfl rfl (by decide +kernel) ⟨Nat.le_of_ble_eq_true rfl, Nat.le_of_ble_eq_true rfl⟩) (tg_preV hw hK hSD hA (ci := 10) (q := (RX10, TX10, 49)) rfl h_p0 rfl) rfl rfl hl.1 rfl (lv_room (Nat.le_of_ble_eq_true rfl)) dX10_holds_184 ⟨Nat.le_of_ble_eq_true rfl, Nat.le_of_ble_eq_true rfl⟩) hw hA (fun v_20  H locs hp_v_20 hw => ?_)
            have r_v_20 : RI v_20 (-1) 5 := hp_v_20.1
            by_cases c9_v_20 : v_20.toInt < 0
            · have r_v_20 : RI v_20 (-1) (-1) := by unfold RI at r_v_20 ⊢; omega
              have x_NB_p0_p2 := (hp_v_20.2.2.2.2.1 (by omega)).1
              refine lv_iconst (v := (-1)) hx hb dX10_holds_187 (by decide) ?_
              refine lv_icmp_ne (tgt := 195) hx hb dX10_holds_188 (by decide) (fun c_188 => ?_) (fun c_188 => ?_)
              · exact absurd (r_v_20.eq.trans rl_m1.eq.symm) ((ti_ne c_188))
              · refine lv_iconst (v := 1) hx hb dX10_holds_191 (by decide) ?_
                refine lv_goto (tgt := 196) hx hb dX10_holds_192 (by decide) ?_
                subst hQ
                exact W.zret (v := 1) hx hb hr (rfl) (fun t ht hW => ⟨⟨1, (), rfl, ⟨rl_1.to (by decide), (fun _ => trivial), (fun h0 => trivial)⟩, by rw [ht]; exact hw.2.1, va_K.moved hW.alike hK, hw.2.2.1⟩, hw.2.2.2.1.F ht⟩) hw.2.2.2.1.2.2 dX10_holds_196
            · have r_v_20 : RI v_20 0 5 := by unfold RI at r_v_20 ⊢; omega
              have x_WB_p0_p2_v_20 := (hp_v_20.2.2.2.2.2 (by omega)).1
              refine lv_iconst (v := (-1)) hx hb dX10_holds_187 (by decide) ?_
              refine lv_icmp_ne (tgt := 195) hx hb dX10_holds_188 (by decide) (fun c_188 => ?_) (fun c_188 => ?_)
              · refine lv_iconst (v := 0) hx hb dX10_holds_195 (by decide) ?_
                subst hQ
                exact W.zret (v := 0) hx hb hr (rfl) (fun t ht hW => ⟨⟨0, (), rfl, ⟨rl_0.to (by decide), (fun h0 => trivial), (fun _ => trivial)⟩, by rw [ht]; exact hw.2.1, va_K.moved hW.alike hK, hw.2.2.1⟩, hw.2.2.2.1.F ht⟩) hw.2.2.2.1.2.2 dX10_holds_196
              · have r_v_20 : RI v_20 0 (-1) := rc_eq1 r_v_20 rl_m1 (ti_eq c_188) (by decide)
                exact (r_v_20.no (by decide)).elim
          · by_cases k_34_71 : v_13 = 71
            · refine lv_lookup (tgt := 197) (off := 163) hx hb dX10_holds_34 (by decide) (by rw [k_34_71]; decide) (by decide) ?_
              have r_v_13 : RI v_13 71 71 := by rw [k_34_71]; exact rl_71
              refine lv_aload_n hx hb dX10_holds_197 rfl (lv_at hl 3 rfl) ?_
              refine lv_iload_n hx hb dX10_holds_198 rfl (lv_at hl 5 rfl) ?_
              refine tk_ir (va_runV (As := [.int p2]) (rest := []) ⟨hx, hb, hml, hown, hts⟩ (c_X10_sittersOf l D cy z s.heap.size Ps w0 hw.1 p0 p2 h_p0 (r_p2.to (by decide))) (cwV 1 hts (gV tw_1461 tw_1463 ts_72 tw_15 tw_1464) rfl rfl rfl (by decide +kernel) ⟨Nat.le_of_ble_eq_true rfl, Nat.le_of_ble_eq_true rfl⟩) (tg_preV hw hK hSD hA (ci := 10) (q := (RX10, TX10, 49)) rfl h_p0 rfl) rfl rfl hl.1 rfl (lv_room (Nat.le_of_ble_eq_true rfl)) dX10_holds_199 ⟨Nat.le_of_ble_eq_true rfl, Nat.le_of_ble_eq_true rfl⟩) hw hA (fun v_21  H locs hp_v_21 hw => ?_)
              have r_v_21 : RI v_21 (-2147483648) 2147483647 := hp_v_21.1
              refine lv_if_eq (tgt := 209) hx hb dX10_holds_202 (by decide) (fun c_202 => ?_) (fun c_202 => ?_)
              · have r_v_21 : RI v_21 0 0 := rc_eq1 r_v_21 rl_0 (ti_eq c_202) (by decide)
                refine lv_iconst (v := 0) hx hb dX10_holds_209 (by decide) ?_
                subst hQ
                exact W.zret (v := 0) hx hb hr (rfl) (fun t ht hW => ⟨⟨0, (), rfl, ⟨rl_0.to (by decide), (fun h0 => trivial), (fun _ => trivial)⟩, by rw [ht]; exact hw.2.1, va_K.moved hW.alike hK, hw.2.2.1⟩, hw.2.2.2.1.F ht⟩) hw.2.2.2.1.2.2 dX10_holds_210
              · refine lv_iconst (v := 1) hx hb dX10_holds_205 (by decide) ?_
                refine lv_goto (tgt := 210) hx hb dX10_holds_206 (by decide) ?_
                subst hQ
                exact W.zret (v := 1) hx hb hr (rfl) (fun t ht hW => ⟨⟨1, (), rfl, ⟨rl_1.to (by decide), (fun _ => trivial), (fun h0 => trivial)⟩, by rw [ht]; exact hw.2.1, va_K.moved hW.alike hK, hw.2.2.1⟩, hw.2.2.2.1.F ht⟩) hw.2.2.2.1.2.2 dX10_holds_210
            · by_cases k_34_72 : v_13 = 72
              · refine lv_lookup (tgt := 211) (off := 177) hx hb dX10_holds_34 (by decide) (by rw [k_34_72]; decide) (by decide) ?_
                have r_v_13 : RI v_13 72 72 := by rw [k_34_72]; exact rl_72
                refine lv_aload_n hx hb dX10_holds_211 rfl (lv_at hl 3 rfl) ?_
                refine lv_iload_n hx hb dX10_holds_212 rfl (lv_at hl 5 rfl) ?_
                refine tk_ir (va_runV (As := [.int p2]) (rest := []) ⟨hx, hb, hml, hown, hts⟩ (c_X10_whatIs l D cy z s.heap.size Ps w0 hw.1 p0 p2 h_p0 r_p2) (cwV 1 hts (gV tw_1449 tw_1451 ts_69 tw_15 tw_1452) rfl rfl rfl (by decide +kernel) ⟨Nat.le_of_ble_eq_true rfl, Nat.le_of_ble_eq_true rfl⟩) (tg_preV hw hK hSD hA (ci := 10) (q := (RX10, TX10, 49)) rfl h_p0 rfl) rfl rfl hl.1 rfl (lv_room (Nat.le_of_ble_eq_true rfl)) dX10_holds_213 ⟨Nat.le_of_ble_eq_true rfl, Nat.le_of_ble_eq_true rfl⟩) hw hA (fun v_22  H locs hp_v_22 hw => ?_)
                have r_v_22 : RI v_22 (-1) 5 := hp_v_22.1
                by_cases c9_v_22 : v_22.toInt < 0
                · have r_v_22 : RI v_22 (-1) (-1) := by unfold RI at r_v_22 ⊢; omega
                  have x_NB_p0_p2 := (hp_v_22.2.2.2.2.1 (by omega)).1
                  refine lv_iload hx hb dX10_holds_216 (lv_at hl 1 rfl) ?_
                  refine lv_icmp_ne (tgt := 225) hx hb dX10_holds_218 (by decide) (fun c_218 => ?_) (fun c_218 => ?_)
                  · refine lv_iconst (v := 0) hx hb dX10_holds_225 (by decide) ?_
                    subst hQ
                    exact W.zret (v := 0) hx hb hr (rfl) (fun t ht hW => ⟨⟨0, (), rfl, ⟨rl_0.to (by decide), (fun h0 => trivial), (fun _ => trivial)⟩, by rw [ht]; exact hw.2.1, va_K.moved hW.alike hK, hw.2.2.1⟩, hw.2.2.2.1.F ht⟩) hw.2.2.2.1.2.2 dX10_holds_226
                  · have r_v_10 : RI v_10 (-1) (-1) := rc_eq2 r_v_22 r_v_10 (ti_eq c_218) (by decide)
                    refine lv_iconst (v := 1) hx hb dX10_holds_221 (by decide) ?_
                    refine lv_goto (tgt := 226) hx hb dX10_holds_222 (by decide) ?_
                    subst hQ
                    exact W.zret (v := 1) hx hb hr (rfl) (fun t ht hW => ⟨⟨1, (), rfl, ⟨rl_1.to (by decide), (fun _ => trivial), (fun h0 => trivial)⟩, by rw [ht]; exact hw.2.1, va_K.moved hW.alike hK, hw.2.2.1⟩, hw.2.2.2.1.F ht⟩) hw.2.2.2.1.2.2 dX10_holds_226
                · have r_v_22 : RI v_22 0 5 := by unfold RI at r_v_22 ⊢; omega
                  have x_WB_p0_p2_v_22 := (hp_v_22.2.2.2.2.2 (by omega)).1
                  refine lv_iload hx hb dX10_holds_216 (lv_at hl 1 rfl) ?_
                  refine lv_icmp_ne (tgt := 225) hx hb dX10_holds_218 (by decide) (fun c_218 => ?_) (fun c_218 => ?_)
                  · refine lv_iconst (v := 0) hx hb dX10_holds_225 (by decide) ?_
                    subst hQ
                    exact W.zret (v := 0) hx hb hr (rfl) (fun t ht hW => ⟨⟨0, (), rfl, ⟨rl_0.to (by decide), (fun h0 => trivial), (fun _ => trivial)⟩, by rw [ht]; exact hw.2.1, va_K.moved hW.alike hK, hw.2.2.1⟩, hw.2.2.2.1.F ht⟩) hw.2.2.2.1.2.2 dX10_holds_226
                  · have r_v_10 : RI v_10 0 5 := rc_eq2 r_v_22 r_v_10 (ti_eq c_218) (by decide)
                    refine lv_iconst (v := 1) hx hb dX10_holds_221 (by decide) ?_
                    refine lv_goto (tgt := 226) hx hb dX10_holds_222 (by decide) ?_
                    subst hQ
                    exact W.zret (v := 1) hx hb hr (rfl) (fun t ht hW => ⟨⟨1, (), rfl, ⟨rl_1.to (by decide), (fun _ => trivial), (fun h0 => trivial)⟩, by rw [ht]; exact hw.2.1, va_K.moved hW.alike hK, hw.2.2.1⟩, hw.2.2.2.1.F ht⟩) hw.2.2.2.1.2.2 dX10_holds_226
              · by_cases k_34_73 : v_13 = 73
                · refine lv_lookup (tgt := 227) (off := 193) hx hb dX10_holds_34 (by decide) (by rw [k_34_73]; decide) (by decide) ?_
                  have r_v_13 : RI v_13 73 73 := by rw [k_34_73]; exact rl_73
                  refine lv_aload_n hx hb dX10_holds_227 rfl (lv_at hl 3 rfl) ?_
                  refine tg_mem (ci := 10) (C := RX10) (T := TX10) (N := 49) hx hb hts inX10 hown hK hw 14 m_u_8 rfl (by decide) (hts _ tw_1151) (fun _ h9 => h9) dX10_holds_228 ?_
                  refine lv_bipush (v := 86) hx hb dX10_holds_231 (by decide) ?_
                  refine lv_iload_n hx hb dX10_holds_233 rfl (lv_at hl 5 rfl) ?_
                  refine lv_iadd hx hb dX10_holds_234 (lv_topi (fun v_23 e_v_23 => ?_))
                  obtain ⟨t_v_23, r_v_23⟩ := tq_add (lo := 86) (hi := 91) rl_86 r_p2 (by decide +kernel) e_v_23
                  have t_v_23 : v_23.toInt = 86 + p2.toInt := t_v_23
                  refine tg_iald (lo := (-2147483648)) (hi := 2147483647) hx hb hK hw h_vu_8 rfl 86 91 r_v_23 (by decide) (by decide +kernel) dX10_holds_235 (fun v_24 r_v_24 m_v_24 o_v_24 => ?_)
                  refine lv_iload hx hb dX10_holds_236 (lv_at hl 1 rfl) ?_
                  refine lv_icmp_ne (tgt := 245) hx hb dX10_holds_238 (by decide) (fun c_238 => ?_) (fun c_238 => ?_)
                  · refine lv_iconst (v := 0) hx hb dX10_holds_245 (by decide) ?_
                    subst hQ
                    exact W.zret (v := 0) hx hb hr (rfl) (fun t ht hW => ⟨⟨0, (), rfl, ⟨rl_0.to (by decide), (fun h0 => trivial), (fun _ => trivial)⟩, by rw [ht]; exact hw.2.1, va_K.moved hW.alike hK, hw.2.2.1⟩, hw.2.2.2.1.F ht⟩) hw.2.2.2.1.2.2 dX10_holds_246
                  · refine lv_iconst (v := 1) hx hb dX10_holds_241 (by decide) ?_
                    refine lv_goto (tgt := 246) hx hb dX10_holds_242 (by decide) ?_
                    subst hQ
                    exact W.zret (v := 1) hx hb hr (rfl) (fun t ht hW => ⟨⟨1, (), rfl, ⟨rl_1.to (by decide), (fun _ => trivial), (fun h0 => trivial)⟩, by rw [ht]; exact hw.2.1, va_K.moved hW.alike hK, hw.2.2.1⟩, hw.2.2.2.1.F ht⟩) hw.2.2.2.1.2.2 dX10_holds_246
                · refine lv_lookup (tgt := 247) (off := 213) hx hb dX10_holds_34 (by decide) ((lv_osw k_34_1 (by decide)).trans ((lv_osw k_34_2 (by decide)).trans ((lv_osw k_34_3 (by decide)).trans ((lv_osw k_34_69 (by decide)).trans ((lv_osw k_34_70 (by decide)).trans ((lv_osw k_34_71 (by decide)).trans ((lv_osw k_34_72 (by decide)).trans ((lv_osw k_34_73 (by decide)).trans (rfl))))))))) (by decide) ?_
                  refine lv_aload_n hx hb dX10_holds_247 rfl (lv_at hl 3 rfl) ?_
                  refine tg_mem (ci := 10) (C := RX10) (T := TX10) (N := 49) hx hb hts inX10 hown hK hw 14 m_u_8 rfl (by decide) (hts _ tw_1151) (fun _ h9 => h9) dX10_holds_248 ?_
                  refine lv_iload_n hx hb dX10_holds_251 rfl (lv_at hl 2 rfl) ?_
                  refine tg_imem hx hb hK hw h_vu_8 rfl r_v_7 (by decide) m_v_13 dX10_holds_252 ?_
                  refine lv_bipush (v := 50) hx hb dX10_holds_253 (by decide) ?_
                  refine lv_isub hx hb dX10_holds_255 (lv_topi (fun v_26 e_v_26 => ?_))
                  have r_v_26 := ri_any v_26
                  refine lv_istore (lv' := [(6, .int v_26), (5, .int v_12), (4, .int v_10), (3, .int v_7), (0, .ref p0), (1, .int p1), (2, .int p2)]) hx hb dX10_holds_256 hl (by decide) rfl (fun ls hl => ?_)
                  refine lv_iload hx hb dX10_holds_258 (lv_at hl 0 rfl) ?_
                  refine lv_bipush (v := 24) hx hb dX10_holds_260 (by decide) ?_
                  refine lv_icmp_ne (tgt := 273) hx hb dX10_holds_262 (by decide) (fun c_262 => ?_) (fun c_262 => ?_)
                  · refine lv_iload hx hb dX10_holds_273 (lv_at hl 0 rfl) ?_
                    refine lv_bipush (v := 25) hx hb dX10_holds_275 (by decide) ?_
                    refine lv_icmp_ne (tgt := 292) hx hb dX10_holds_277 (by decide) (fun c_277 => ?_) (fun c_277 => ?_)
                    · refine lv_iload hx hb dX10_holds_292 (lv_at hl 0 rfl) ?_
                      refine lv_bipush (v := 26) hx hb dX10_holds_294 (by decide) ?_
                      refine lv_icmp_ne (tgt := 311) hx hb dX10_holds_296 (by decide) (fun c_296 => ?_) (fun c_296 => ?_)
                      · refine lv_iload_n hx hb dX10_holds_311 rfl (lv_at hl 6 rfl) ?_
                        exact B312 v_7 v_10 v_12 v_26 p2 _ _ ls r_p1 r_p2 r_v_7 r_v_10 r_v_12 r_v_26 (r_p2.to (by decide)) hw (lv_sub hl [4, 5, 6, 3, 2, 1, 0] rfl)
                      · have r_v_26 : RI v_26 26 26 := rc_eq1 r_v_26 rl_26 (ti_eq c_296) (by decide)
                        refine lv_aload_n hx hb dX10_holds_299 rfl (lv_at hl 4 rfl) ?_
                        refine tg_mem (ci := 10) (C := RX10) (T := TX10) (N := 49) hx hb hts inX10 hown hK hw 14 m_u_8 rfl (by decide) (hts _ tw_1151) (fun _ h9 => h9) dX10_holds_300 ?_
                        refine lv_bipush (v := 98) hx hb dX10_holds_303 (by decide) ?_
                        refine lv_iload_n hx hb dX10_holds_305 rfl (lv_at hl 6 rfl) ?_
                        refine lv_iadd hx hb dX10_holds_306 (lv_topi (fun v_27 e_v_27 => ?_))
                        obtain ⟨t_v_27, r_v_27⟩ := tq_add (lo := 98) (hi := 103) rl_98 r_p2 (by decide +kernel) e_v_27
                        have t_v_27 : v_27.toInt = 98 + p2.toInt := t_v_27
                        refine tg_iald (lo := (-2147483648)) (hi := 2147483647) hx hb hK hw h_vu_8 rfl 98 103 r_v_27 (by decide) (by decide +kernel) dX10_holds_307 (fun v_28 r_v_28 m_v_28 o_v_28 => ?_)
                        refine lv_goto (tgt := 312) hx hb dX10_holds_308 (by decide) ?_
                        exact B312 v_7 v_10 v_12 v_26 v_28 _ _ ls r_p1 r_p2 r_v_7 r_v_10 r_v_12 (r_v_26.to (by decide)) r_v_28 hw (lv_sub hl [4, 5, 6, 3, 2, 1, 0] rfl)
                    · have r_v_26 : RI v_26 25 25 := rc_eq1 r_v_26 rl_25 (ti_eq c_277) (by decide)
                      refine lv_aload_n hx hb dX10_holds_280 rfl (lv_at hl 4 rfl) ?_
                      refine tg_mem (ci := 10) (C := RX10) (T := TX10) (N := 49) hx hb hts inX10 hown hK hw 14 m_u_8 rfl (by decide) (hts _ tw_1151) (fun _ h9 => h9) dX10_holds_281 ?_
                      refine lv_bipush (v := 92) hx hb dX10_holds_284 (by decide) ?_
                      refine lv_iload_n hx hb dX10_holds_286 rfl (lv_at hl 6 rfl) ?_
                      refine lv_iadd hx hb dX10_holds_287 (lv_topi (fun v_29 e_v_29 => ?_))
                      obtain ⟨t_v_29, r_v_29⟩ := tq_add (lo := 92) (hi := 97) rl_92 r_p2 (by decide +kernel) e_v_29
                      have t_v_29 : v_29.toInt = 92 + p2.toInt := t_v_29
                      refine tg_iald (lo := (-2147483648)) (hi := 2147483647) hx hb hK hw h_vu_8 rfl 92 97 r_v_29 (by decide) (by decide +kernel) dX10_holds_288 (fun v_30 r_v_30 m_v_30 o_v_30 => ?_)
                      refine lv_goto (tgt := 312) hx hb dX10_holds_289 (by decide) ?_
                      exact B312 v_7 v_10 v_12 v_26 v_30 _ _ ls r_p1 r_p2 r_v_7 r_v_10 r_v_12 (r_v_26.to (by decide)) r_v_30 hw (lv_sub hl [4, 5, 6, 3, 2, 1, 0] rfl)
                  · have r_v_26 : RI v_26 24 24 := rc_eq1 r_v_26 rl_24 (ti_eq c_262) (by decide)
                    refine lv_aload_n hx hb dX10_holds_265 rfl (lv_at hl 4 rfl) ?_
                    refine lv_iload_n hx hb dX10_holds_266 rfl (lv_at hl 6 rfl) ?_
                    refine tk_ir (va_runV (As := [.int p2]) (rest := []) ⟨hx, hb, hml, hown, hts⟩ (c_X10_sizeOf l D cy z s.heap.size Ps w0 hw.1 p0 p2 h_p0 r_p2) (cwV 1 hts (gV tw_1453 tw_1455 ts_70 tw_15 tw_1456) rfl rfl rfl (by decide +kernel) ⟨Nat.le_of_ble_eq_true rfl, Nat.le_of_ble_eq_true rfl⟩) (tg_preV hw hK hSD hA (ci := 10) (q := (RX10, TX10, 49)) rfl h_p0 rfl) rfl rfl hl.1 rfl (lv_room (Nat.le_of_ble_eq_true rfl)) dX10_holds_267 ⟨Nat.le_of_ble_eq_true rfl, Nat.le_of_ble_eq_true rfl⟩) hw hA (fun v_31  H locs hp_v_31 hw => ?_)
                    have r_v_31 : RI v_31 (-2147483648) 2147483647 := hp_v_31.1
                    refine lv_goto (tgt := 312) hx hb dX10_holds_270 (by decide) ?_
                    exact B312 v_7 v_10 v_12 v_26 v_31 _ _ ls r_p1 r_p2 r_v_7 r_v_10 r_v_12 (r_v_26.to (by decide)) r_v_31 hw (lv_sub hl [4, 5, 6, 3, 2, 1, 0] rfl)
abbrev wr_X10_holds__35 : List (Nat × Nat) := []
abbrev wa_X10_holds__35 : List Nat := []
set_option maxHeartbeats 4000000 in
set_option maxRecDepth 100000 in
theorem c_X10_holds__35 (l : Launch) (D : va_G) (cy : Nat → ClassId) (z : Nat → Nat) (sz : Nat) (Ps : PSI) (w0 : va_W) (hT : HT cy GG Ps w0) (p0 : Nat) (p1 : Int32) (p2 : Int32) (h_p0 : (p0, 55) ∈ Ps) (r_p1 : RI p1 0 24) (r_p2 : RI p2 0 5) : Met l yX10_holds (Cond.code yX10_holds cX10_holds 8 (some .boolean) :: gT) ({ frames := 27, cells := 0, slots := 0, locals := 5400 } : Room) (va_Pc [.ref p0, .int p1, .int p2] (PRE D cy z w0 sz)) (va_Qi (fun (r : Int32) (u : Unit) => RI r 0 1 ∧ (r = 0 → True) ∧ (¬ r = 0 → True)) (BB D cy (va_A w0 sz) (fun (u : Unit) => w0)) (va_A w0 sz)) 0 0 (va_A w0 sz) := by
  refine Met.ofW (cc := cX10_holds) (maxL := 8) (ret := (some .boolean)) (by decide) rfl ?_
  intro p e s m args below meth c s₁ B hml hv
  obtain ⟨rfl, hsz, hP, hK, hD0, hSD⟩ := hv
  have hx := B.exec
  have hb := B.bytes
  have hr := B.returns
  have hlocks := B.notSynchronized
  have hts : ∀ w ∈ gT, w.before _ s = true := fun w h => atoms_spec (ws := Cond.code yX10_holds cX10_holds 8 (some .boolean) :: gT) B.pre w (List.mem_cons_of_mem _ h)
  have hown : s.vm.findClass RX10 = some m.cls := findClass_of_methodNamed B.named
  subst hsz
  have hD := hD0.self (sz := s.heap.size)
  generalize hAe : va_A w0 s.heap.size = A at hD hSD ⊢
  have hA : ∀ q : Nat, s.heap.size ≤ q → A q := fun q h => by rw [← hAe]; exact Or.inr h
  have hl := lv_entry ([.ref p0, .int p1, .int p2]) (n := 8) (Nat.le_of_ble_eq_true rfl)
  rw [lg_entry_eq]
  generalize (lg_sl ([.ref p0, .int p1, .int p2]) ++ List.replicate (8 - (lg_sl ([.ref p0, .int p1, .int p2])).length) Slot.unset).toArray = ls at hl ⊢
  have hl : lv_has ls 8 [(0, .ref p0), (1, .int p1), (2, .int p2)] := hl
  refine nameQ (fun Q hQ => ?_)
  have hw : WD D cy GG A s wr_X10_holds__35 wa_X10_holds__35 Ps w0 Ps w0 s.heap [] := ⟨hT, hP, hD, va_S.rf, FR.rf, hT.1, [], (List.append_nil _).symm⟩
  have B312 : ∀ (x3 : Int32) (x4 : Int32) (x5 : Int32) (x6 : Int32) (y0 : Int32) (H : Heap) (locs : List Loc) (ls : Array Slot), RI p1 0 24 → RI p2 0 5 → RI x3 174 270 → RI x4 (-2147483648) 2147483647 → RI x5 (-2147483648) 2147483647 → RI x6 (-2147483648) 2147483647 → RI y0 (-2147483648) 2147483647 → WD D cy GG A s wr_X10_holds__35 wa_X10_holds__35 Ps w0 Ps w0 H locs → lv_has ls 8 [(0, .ref p0), (1, .int p1), (2, .int p2), (3, .int x3), (4, .int x4), (5, .int x5), (6, .int x6)] → W p l e (headSpec (Cond.code yX10_holds cX10_holds 8 (some .boolean) :: gT) ({ frames := 27, cells := 0, slots := 0, locals := 5400 } : Room)).room s m ([.ref p0, .int p1, .int p2] : List Value).toArray below meth c H locs 0 0 Q (F0 m 312 ls [.int y0]) := by
    intro x3 x4 x5 x6 y0 H locs ls r_p1 r_p2 r_x3 r_x4 r_x5 r_x6 r_y0 hw hl
    refine lv_istore (lv' := [(7, .int y0), (0, .ref p0), (1, .int p1), (2, .int p2), (3, .int x3), (4, .int x4), (5, .int x5), (6, .int x6)]) hx hb dX10_holds_312 hl (by decide) rfl (fun ls hl => ?_)
    refine lv_aload_n hx hb dX10_holds_314 rfl (lv_at hl 1 rfl) ?_
    refine tg_get (ci := 10) (ts := ty_MODEL) (C := RX10) (T := TX10) (N := 49) hx hb hts inX10 hown hK hw h_p0 rfl rfl 14 (by decide) (hts _ tw_1151) (fun _ h9 => h9) (ft := vR 34) rfl dX10_holds_315 (fun u_1 hv_u_1 m_u_1 => ?_)
    obtain ⟨vu_1, rfl, h_vu_1⟩ := hv_u_1
    refine lv_iload_n hx hb dX10_holds_318 rfl (lv_at hl 4 rfl) ?_
    refine lv_iconst (v := 3) hx hb dX10_holds_319 (by decide) ?_
    refine lv_iadd hx hb dX10_holds_320 (lv_topi (fun v_2 e_v_2 => ?_))
    obtain ⟨t_v_2, r_v_2⟩ := tq_add (lo := 177) (hi := 273) r_x3 rl_3 (by decide +kernel) e_v_2
    have t_v_2 : v_2.toInt = x3.toInt + 3 := t_v_2
    refine tg_iald (lo := (-2147483648)) (hi := 2147483647) hx hb hK hw h_vu_1 rfl 177 273 r_v_2 (by decide) (by decide +kernel) dX10_holds_321 (fun v_3 r_v_3 m_v_3 o_v_3 => ?_)
    refine lv_bipush (v := 60) hx hb dX10_holds_322 (by decide) ?_
    refine lv_icmp_ne (tgt := 342) hx hb dX10_holds_324 (by decide) (fun c_324 => ?_) (fun c_324 => ?_)
    · refine lv_aload_n hx hb dX10_holds_342 rfl (lv_at hl 1 rfl) ?_
      refine tg_mem (ci := 10) (C := RX10) (T := TX10) (N := 49) hx hb hts inX10 hown hK hw 14 m_u_1 rfl (by decide) (hts _ tw_1151) (fun _ h9 => h9) dX10_holds_343 ?_
      refine lv_iload_n hx hb dX10_holds_346 rfl (lv_at hl 4 rfl) ?_
      refine lv_iconst (v := 3) hx hb dX10_holds_347 (by decide) ?_
      refine lv_iadd hx hb dX10_holds_348 (lv_topi (fun v_4 e_v_4 => ?_))
      obtain ⟨t_v_4, r_v_4⟩ := tq_add (lo := 177) (hi := 273) r_x3 rl_3 (by decide +kernel) e_v_4
      have t_v_4 : v_4.toInt = x3.toInt + 3 := t_v_4
      refine tg_iald (lo := (-2147483648)) (hi := 2147483647) hx hb hK hw h_vu_1 rfl 177 273 r_v_4 (by decide) (by decide +kernel) dX10_holds_349 (fun v_5 r_v_5 m_v_5 o_v_5 => ?_)
      refine lv_bipush (v := 61) hx hb dX10_holds_350 (by decide) ?_
      refine lv_icmp_ne (tgt := 370) hx hb dX10_holds_352 (by decide) (fun c_352 => ?_) (fun c_352 => ?_)
      · refine lv_iload hx hb dX10_holds_370 (lv_at hl 0 rfl) ?_
        refine lv_iload hx hb dX10_holds_372 (lv_at hl 6 rfl) ?_
        refine lv_icmp_le (tgt := 381) hx hb dX10_holds_374 (by decide) (fun c_374 => ?_) (fun c_374 => ?_)
        · refine lv_iconst (v := 0) hx hb dX10_holds_381 (by decide) ?_
          subst hQ
          exact W.zret (v := 0) hx hb hr (rfl) (fun t ht hW => ⟨⟨0, (), rfl, ⟨rl_0.to (by decide), (fun h0 => trivial), (fun _ => trivial)⟩, by rw [ht]; exact hw.2.1, va_K.moved hW.alike hK, hw.2.2.1⟩, hw.2.2.2.1.F ht⟩) hw.2.2.2.1.2.2 dX10_holds_382
        · have r_x5 : RI x5 (-2147483648) 2147483646 := rc_lt1 r_x5 r_y0 (ti_nle c_374) (by decide)
          have r_y0 : RI y0 (-2147483647) 2147483647 := rc_lt2 r_x5 r_y0 (ti_nle c_374) (by decide)
          refine lv_iconst (v := 1) hx hb dX10_holds_377 (by decide) ?_
          refine lv_goto (tgt := 382) hx hb dX10_holds_378 (by decide) ?_
          subst hQ
          exact W.zret (v := 1) hx hb hr (rfl) (fun t ht hW => ⟨⟨1, (), rfl, ⟨rl_1.to (by decide), (fun _ => trivial), (fun h0 => trivial)⟩, by rw [ht]; exact hw.2.1, va_K.moved hW.alike hK, hw.2.2.1⟩, hw.2.2.2.1.F ht⟩) hw.2.2.2.1.2.2 dX10_holds_382
      · have r_v_5 : RI v_5 61 61 := rc_eq1 r_v_5 rl_61 (ti_eq c_352) (by decide)
        refine lv_iload hx hb dX10_holds_355 (lv_at hl 0 rfl) ?_
        refine lv_iload hx hb dX10_holds_357 (lv_at hl 6 rfl) ?_
        refine lv_icmp_ne (tgt := 366) hx hb dX10_holds_359 (by decide) (fun c_359 => ?_) (fun c_359 => ?_)
        · refine lv_iconst (v := 0) hx hb dX10_holds_366 (by decide) ?_
          refine lv_goto (tgt := 382) hx hb dX10_holds_367 (by decide) ?_
          subst hQ
          exact W.zret (v := 0) hx hb hr (rfl) (fun t ht hW => ⟨⟨0, (), rfl, ⟨rl_0.to (by decide), (fun h0 => trivial), (fun _ => trivial)⟩, by rw [ht]; exact hw.2.1, va_K.moved hW.alike hK, hw.2.2.1⟩, hw.2.2.2.1.F ht⟩) hw.2.2.2.1.2.2 dX10_holds_382
        · refine lv_iconst (v := 1) hx hb dX10_holds_362 (by decide) ?_
          refine lv_goto (tgt := 382) hx hb dX10_holds_363 (by decide) ?_
          subst hQ
          exact W.zret (v := 1) hx hb hr (rfl) (fun t ht hW => ⟨⟨1, (), rfl, ⟨rl_1.to (by decide), (fun _ => trivial), (fun h0 => trivial)⟩, by rw [ht]; exact hw.2.1, va_K.moved hW.alike hK, hw.2.2.1⟩, hw.2.2.2.1.F ht⟩) hw.2.2.2.1.2.2 dX10_holds_382
    · have r_v_3 : RI v_3 60 60 := rc_eq1 r_v_3 rl_60 (ti_eq c_324) (by decide)
      refine lv_iload hx hb dX10_holds_327 (lv_at hl 0 rfl) ?_
      refine lv_iload hx hb dX10_holds_329 (lv_at hl 6 rfl) ?_
      refine lv_icmp_ge (tgt := 338) hx hb dX10_holds_331 (by decide) (fun c_331 => ?_) (fun c_331 => ?_)
      · refine lv_iconst (v := 0) hx hb dX10_holds_338 (by decide) ?_
        refine lv_goto (tgt := 382) hx hb dX10_holds_339 (by decide) ?_
        subst hQ
        exact W.zret (v := 0) hx hb hr (rfl) (fun t ht hW => ⟨⟨0, (), rfl, ⟨rl_0.to (by decide), (fun h0 => trivial), (fun _ => trivial)⟩, by rw [ht]; exact hw.2.1, va_K.moved hW.alike hK, hw.2.2.1⟩, hw.2.2.2.1.F ht⟩) hw.2.2.2.1.2.2 dX10_holds_382
      · have r_y0 : RI y0 (-2147483648) 2147483646 := rc_lt1 r_y0 r_x5 (ti_nle c_331) (by decide)
        have r_x5 : RI x5 (-2147483647) 2147483647 := rc_lt2 r_y0 r_x5 (ti_nle c_331) (by decide)
        refine lv_iconst (v := 1) hx hb dX10_holds_334 (by decide) ?_
        refine lv_goto (tgt := 382) hx hb dX10_holds_335 (by decide) ?_
        subst hQ
        exact W.zret (v := 1) hx hb hr (rfl) (fun t ht hW => ⟨⟨1, (), rfl, ⟨rl_1.to (by decide), (fun _ => trivial), (fun h0 => trivial)⟩, by rw [ht]; exact hw.2.1, va_K.moved hW.alike hK, hw.2.2.1⟩, hw.2.2.2.1.F ht⟩) hw.2.2.2.1.2.2 dX10_holds_382
  refine lv_sipush (v := 174) hx hb dX10_holds_0 (by decide) ?_
  refine lv_iconst (v := 4) hx hb dX10_holds_3 (by decide) ?_
  refine lv_iload_n hx hb dX10_holds_4 rfl (lv_at hl 1 rfl) ?_
  refine lv_imul hx hb dX10_holds_5 (lv_topi (fun v_6 e_v_6 => ?_))
  obtain ⟨t_v_6, r_v_6⟩ := tq_mul (lo := 0) (hi := 96) rl_4 r_p1 (by decide +kernel) e_v_6
  have t_v_6 : v_6.toInt = 4 * p1.toInt := t_v_6
  refine lv_iadd hx hb dX10_holds_6 (lv_topi (fun v_7 e_v_7 => ?_))
  obtain ⟨t_v_7, r_v_7⟩ := tq_add (lo := 174) (hi := 270) rl_174 r_v_6 (by decide +kernel) e_v_7
  have t_v_7 : v_7.toInt = 174 + v_6.toInt := t_v_7
  refine lv_istore_n (lv' := [(3, .int v_7), (0, .ref p0), (1, .int p1), (2, .int p2)]) hx hb dX10_holds_7 rfl hl (by decide) rfl (fun ls hl => ?_)
  refine lv_aload_n hx hb dX10_holds_8 rfl (lv_at hl 1 rfl) ?_
  refine tg_get (ci := 10) (ts := ty_MODEL) (C := RX10) (T := TX10) (N := 49) hx hb hts inX10 hown hK hw h_p0 rfl rfl 14 (by decide) (hts _ tw_1151) (fun _ h9 => h9) (ft := vR 34) rfl dX10_holds_9 (fun u_8 hv_u_8 m_u_8 => ?_)
  obtain ⟨vu_8, rfl, h_vu_8⟩ := hv_u_8
  refine lv_iload_n hx hb dX10_holds_12 rfl (lv_at hl 0 rfl) ?_
  refine lv_iconst (v := 1) hx hb dX10_holds_13 (by decide) ?_
  refine lv_iadd hx hb dX10_holds_14 (lv_topi (fun v_9 e_v_9 => ?_))
  obtain ⟨t_v_9, r_v_9⟩ := tq_add (lo := 175) (hi := 271) r_v_7 rl_1 (by decide +kernel) e_v_9
  have t_v_9 : v_9.toInt = v_7.toInt + 1 := t_v_9
  refine tg_iald (lo := (-2147483648)) (hi := 2147483647) hx hb hK hw h_vu_8 rfl 175 271 r_v_9 (by decide) (by decide +kernel) dX10_holds_15 (fun v_10 r_v_10 m_v_10 o_v_10 => ?_)
  refine lv_istore (lv' := [(4, .int v_10), (3, .int v_7), (0, .ref p0), (1, .int p1), (2, .int p2)]) hx hb dX10_holds_16 hl (by decide) rfl (fun ls hl => ?_)
  refine lv_aload_n hx hb dX10_holds_18 rfl (lv_at hl 2 rfl) ?_
  refine tg_mem (ci := 10) (C := RX10) (T := TX10) (N := 49) hx hb hts inX10 hown hK hw 14 m_u_8 rfl (by decide) (hts _ tw_1151) (fun _ h9 => h9) dX10_holds_19 ?_
  refine lv_iload_n hx hb dX10_holds_22 rfl (lv_at hl 1 rfl) ?_
  refine lv_iconst (v := 2) hx hb dX10_holds_23 (by decide) ?_
  refine lv_iadd hx hb dX10_holds_24 (lv_topi (fun v_11 e_v_11 => ?_))
  obtain ⟨t_v_11, r_v_11⟩ := tq_add (lo := 176) (hi := 272) r_v_7 rl_2 (by decide +kernel) e_v_11
  have t_v_11 : v_11.toInt = v_7.toInt + 2 := t_v_11
  refine tg_iald (lo := (-2147483648)) (hi := 2147483647) hx hb hK hw h_vu_8 rfl 176 272 r_v_11 (by decide) (by decide +kernel) dX10_holds_25 (fun v_12 r_v_12 m_v_12 o_v_12 => ?_)
  refine lv_istore (lv' := [(5, .int v_12), (4, .int v_10), (3, .int v_7), (0, .ref p0), (1, .int p1), (2, .int p2)]) hx hb dX10_holds_26 hl (by decide) rfl (fun ls hl => ?_)
  refine lv_aload_n hx hb dX10_holds_28 rfl (lv_at hl 3 rfl) ?_
  refine tg_mem (ci := 10) (C := RX10) (T := TX10) (N := 49) hx hb hts inX10 hown hK hw 14 m_u_8 rfl (by decide) (hts _ tw_1151) (fun _ h9 => h9) dX10_holds_29 ?_
  refine lv_iload_n hx hb dX10_holds_32 rfl (lv_at hl 2 rfl) ?_
  refine tg_iald (lo := (-2147483648)) (hi := 2147483647) hx hb hK hw h_vu_8 rfl 174 270 r_v_7 (by decide) (by decide +kernel) dX10_holds_33 (fun v_13 r_v_13 m_v_13 o_v_13 => ?_)
  by_cases k_34_1 : v_13 = 1
  · refine lv_lookup (tgt := 108) (off := 74) hx hb dX10_holds_34 (by decide) (by rw [k_34_1]; decide) (by decide) ?_
    have r_v_13 : RI v_13 1 1 := by rw [k_34_1]; exact rl_1
    have g_v_10 : 0 ≤ v_10.toInt ∧ v_10.toInt < p1.toInt := by obtain ⟨_, f9, e8, e7, q9, _⟩ := ax_of (k := 14) (t := 34) hw h_p0 rfl (fun _ => rfl); cases FLD.inj hw.2.2.1 e8 m_u_8; have t9 := ARR.ael hw.2.2.1 e7 m_v_13; have x9 := ARR.ael hw.2.2.1 e7 m_v_10; rw [show Int32.toNatClampNeg v_7 = 174 + 4 * Int32.toNatClampNeg p1 from (by have k1 := r_v_7.cl (by decide); have k2 := r_p1.cl (by decide); omega)] at t9; rw [show Int32.toNatClampNeg v_9 = 175 + 4 * Int32.toNatClampNeg p1 from (by have k1 := r_v_9.cl (by decide); have k2 := r_p1.cl (by decide); omega)] at x9; exact RN_child q9 (r_p1.to (by decide)) t9 x9 (r_v_13.to (by decide))
    have r_v_10 : RI v_10 0 23 := ⟨g_v_10.1, by have k1 := r_p1.2; omega⟩
    refine lv_aload_n hx hb dX10_holds_108 rfl (lv_at hl 3 rfl) ?_
    refine lv_iload hx hb dX10_holds_109 (lv_at hl 1 rfl) ?_
    refine lv_iload_n hx hb dX10_holds_111 rfl (lv_at hl 5 rfl) ?_
    refine tk_ir (va_runV (As := [.int v_10, .int p2]) (rest := []) ⟨hx, hb, hml, hown, hts⟩ (c_X10_holds__36 l D cy z s.heap.size Ps w0 hw.1 p0 v_10 p2 h_p0 r_v_10 r_p2) (cwV 2 hts (gV tw_1787 tw_1789 ts_119 tw_15 tw_1790) rfl rfl rfl (by decide +kernel) ⟨Nat.le_of_ble_eq_true rfl, Nat.le_of_ble_eq_true rfl⟩) (tg_preV hw hK hSD hA (ci := 10) (q := (RX10, TX10, 49)) rfl h_p0 rfl) rfl rfl hl.1 rfl (lv_room (Nat.le_of_ble_eq_true rfl)) dX10_holds_112 ⟨Nat.le_of_ble_eq_true rfl, Nat.le_of_ble_eq_true rfl⟩) hw hA (fun v_14  H locs hp_v_14 hw => ?_)
    have r_v_14 : RI v_14 0 1 := hp_v_14.1
    refine lv_if_ne (tgt := 122) hx hb dX10_holds_115 (by decide) (fun c_115 => ?_) (fun c_115 => ?_)
    · have r_v_14 : RI v_14 1 1 := rc_neL r_v_14 rl_0 (ti_ne c_115) (by decide)
      refine lv_iconst (v := 0) hx hb dX10_holds_122 (by decide) ?_
      subst hQ
      exact W.zret (v := 0) hx hb hr (rfl) (fun t ht hW => ⟨⟨0, (), rfl, ⟨rl_0.to (by decide), (fun h0 => trivial), (fun _ => trivial)⟩, by rw [ht]; exact hw.2.1, va_K.moved hW.alike hK, hw.2.2.1⟩, hw.2.2.2.1.F ht⟩) hw.2.2.2.1.2.2 dX10_holds_123
    · have r_v_14 : RI v_14 0 0 := rc_eq1 r_v_14 rl_0 (ti_eq c_115) (by decide)
      refine lv_iconst (v := 1) hx hb dX10_holds_118 (by decide) ?_
      refine lv_goto (tgt := 123) hx hb dX10_holds_119 (by decide) ?_
      subst hQ
      exact W.zret (v := 1) hx hb hr (rfl) (fun t ht hW => ⟨⟨1, (), rfl, ⟨rl_1.to (by decide), (fun _ => trivial), (fun h0 => trivial)⟩, by rw [ht]; exact hw.2.1, va_K.moved hW.alike hK, hw.2.2.1⟩, hw.2.2.2.1.F ht⟩) hw.2.2.2.1.2.2 dX10_holds_123
  · by_cases k_34_2 : v_13 = 2
    · refine lv_lookup (tgt := 124) (off := 90) hx hb dX10_holds_34 (by decide) (by rw [k_34_2]; decide) (by decide) ?_
      have r_v_13 : RI v_13 2 2 := by rw [k_34_2]; exact rl_2
      have g_v_10 : 0 ≤ v_10.toInt ∧ v_10.toInt < p1.toInt := by obtain ⟨_, f9, e8, e7, q9, _⟩ := ax_of (k := 14) (t := 34) hw h_p0 rfl (fun _ => rfl); cases FLD.inj hw.2.2.1 e8 m_u_8; have t9 := ARR.ael hw.2.2.1 e7 m_v_13; have x9 := ARR.ael hw.2.2.1 e7 m_v_10; rw [show Int32.toNatClampNeg v_7 = 174 + 4 * Int32.toNatClampNeg p1 from (by have k1 := r_v_7.cl (by decide); have k2 := r_p1.cl (by decide); omega)] at t9; rw [show Int32.toNatClampNeg v_9 = 175 + 4 * Int32.toNatClampNeg p1 from (by have k1 := r_v_9.cl (by decide); have k2 := r_p1.cl (by decide); omega)] at x9; exact RN_child q9 (r_p1.to (by decide)) t9 x9 (r_v_13.to (by decide))
      have r_v_10 : RI v_10 0 23 := ⟨g_v_10.1, by have k1 := r_p1.2; omega⟩
      have g_v_12 : 0 ≤ v_12.toInt ∧ v_12.toInt < p1.toInt := by obtain ⟨_, f9, e8, e7, q9, _⟩ := ax_of (k := 14) (t := 34) hw h_p0 rfl (fun _ => rfl); cases FLD.inj hw.2.2.1 e8 m_u_8; have t9 := ARR.ael hw.2.2.1 e7 m_v_13; have x9 := ARR.ael hw.2.2.1 e7 m_v_12; rw [show Int32.toNatClampNeg v_7 = 174 + 4 * Int32.toNatClampNeg p1 from (by have k1 := r_v_7.cl (by decide); have k2 := r_p1.cl (by decide); omega)] at t9; rw [show Int32.toNatClampNeg v_11 = 176 + 4 * Int32.toNatClampNeg p1 from (by have k1 := r_v_11.cl (by decide); have k2 := r_p1.cl (by decide); omega)] at x9; exact RN_child2 q9 (r_p1.to (by decide)) t9 x9 (r_v_13.to (by decide))
      have r_v_12 : RI v_12 0 23 := ⟨g_v_12.1, by have k1 := r_p1.2; omega⟩
      refine lv_aload_n hx hb dX10_holds_124 rfl (lv_at hl 3 rfl) ?_
      refine lv_iload hx hb dX10_holds_125 (lv_at hl 1 rfl) ?_
      refine lv_iload_n hx hb dX10_holds_127 rfl (lv_at hl 5 rfl) ?_
      refine tk_ir (va_runV (As := [.int v_10, .int p2]) (rest := []) ⟨hx, hb, hml, hown, hts⟩ (c_X10_holds__36 l D cy z s.heap.size Ps w0 hw.1 p0 v_10 p2 h_p0 r_v_10 r_p2) (cwV 2 hts (gV tw_1787 tw_1789 ts_119 tw_15 tw_1790) rfl rfl rfl (by decide +kernel) ⟨Nat.le_of_ble_eq_true rfl, Nat.le_of_ble_eq_true rfl⟩) (tg_preV hw hK hSD hA (ci := 10) (q := (RX10, TX10, 49)) rfl h_p0 rfl) rfl rfl hl.1 rfl (lv_room (Nat.le_of_ble_eq_true rfl)) dX10_holds_128 ⟨Nat.le_of_ble_eq_true rfl, Nat.le_of_ble_eq_true rfl⟩) hw hA (fun v_15  H locs hp_v_15 hw => ?_)
      have r_v_15 : RI v_15 0 1 := hp_v_15.1
      refine lv_if_eq (tgt := 148) hx hb dX10_holds_131 (by decide) (fun c_131 => ?_) (fun c_131 => ?_)
      · have r_v_15 : RI v_15 0 0 := rc_eq1 r_v_15 rl_0 (ti_eq c_131) (by decide)
        refine lv_iconst (v := 0) hx hb dX10_holds_148 (by decide) ?_
        subst hQ
        exact W.zret (v := 0) hx hb hr (rfl) (fun t ht hW => ⟨⟨0, (), rfl, ⟨rl_0.to (by decide), (fun h0 => trivial), (fun _ => trivial)⟩, by rw [ht]; exact hw.2.1, va_K.moved hW.alike hK, hw.2.2.1⟩, hw.2.2.2.1.F ht⟩) hw.2.2.2.1.2.2 dX10_holds_149
      · have r_v_15 : RI v_15 1 1 := rc_neL r_v_15 rl_0 (ti_ne c_131) (by decide)
        refine lv_aload_n hx hb dX10_holds_134 rfl (lv_at hl 3 rfl) ?_
        refine lv_iload hx hb dX10_holds_135 (lv_at hl 0 rfl) ?_
        refine lv_iload_n hx hb dX10_holds_137 rfl (lv_at hl 5 rfl) ?_
        refine tk_ir (va_runV (As := [.int v_12, .int p2]) (rest := []) ⟨hx, hb, hml, hown, hts⟩ (c_X10_holds__36 l D cy z H.size Ps w0 hw.1 p0 v_12 p2 h_p0 r_v_12 r_p2) (cwV 2 hts (gV tw_1787 tw_1789 ts_119 tw_15 tw_1790) rfl rfl rfl (by decide +kernel) ⟨Nat.le_of_ble_eq_true rfl, Nat.le_of_ble_eq_true rfl⟩) (tg_preV hw hK hSD hA (ci := 10) (q := (RX10, TX10, 49)) rfl h_p0 rfl) rfl rfl hl.1 rfl (lv_room (Nat.le_of_ble_eq_true rfl)) dX10_holds_138 ⟨Nat.le_of_ble_eq_true rfl, Nat.le_of_ble_eq_true rfl⟩) hw hA (fun v_16  H locs hp_v_16 hw => ?_)
        have r_v_16 : RI v_16 0 1 := hp_v_16.1
        refine lv_if_eq (tgt := 148) hx hb dX10_holds_141 (by decide) (fun c_141 => ?_) (fun c_141 => ?_)
        · have r_v_16 : RI v_16 0 0 := rc_eq1 r_v_16 rl_0 (ti_eq c_141) (by decide)
          refine lv_iconst (v := 0) hx hb dX10_holds_148 (by decide) ?_
          subst hQ
          exact W.zret (v := 0) hx hb hr (rfl) (fun t ht hW => ⟨⟨0, (), rfl, ⟨rl_0.to (by decide), (fun h0 => trivial), (fun _ => trivial)⟩, by rw [ht]; exact hw.2.1, va_K.moved hW.alike hK, hw.2.2.1⟩, hw.2.2.2.1.F ht⟩) hw.2.2.2.1.2.2 dX10_holds_149
        · have r_v_16 : RI v_16 1 1 := rc_neL r_v_16 rl_0 (ti_ne c_141) (by decide)
          refine lv_iconst (v := 1) hx hb dX10_holds_144 (by decide) ?_
          refine lv_goto (tgt := 149) hx hb dX10_holds_145 (by decide) ?_
          subst hQ
          exact W.zret (v := 1) hx hb hr (rfl) (fun t ht hW => ⟨⟨1, (), rfl, ⟨rl_1.to (by decide), (fun _ => trivial), (fun h0 => trivial)⟩, by rw [ht]; exact hw.2.1, va_K.moved hW.alike hK, hw.2.2.1⟩, hw.2.2.2.1.F ht⟩) hw.2.2.2.1.2.2 dX10_holds_149
    · by_cases k_34_3 : v_13 = 3
      · refine lv_lookup (tgt := 150) (off := 116) hx hb dX10_holds_34 (by decide) (by rw [k_34_3]; decide) (by decide) ?_
        have r_v_13 : RI v_13 3 3 := by rw [k_34_3]; exact rl_3
        have g_v_10 : 0 ≤ v_10.toInt ∧ v_10.toInt < p1.toInt := by obtain ⟨_, f9, e8, e7, q9, _⟩ := ax_of (k := 14) (t := 34) hw h_p0 rfl (fun _ => rfl); cases FLD.inj hw.2.2.1 e8 m_u_8; have t9 := ARR.ael hw.2.2.1 e7 m_v_13; have x9 := ARR.ael hw.2.2.1 e7 m_v_10; rw [show Int32.toNatClampNeg v_7 = 174 + 4 * Int32.toNatClampNeg p1 from (by have k1 := r_v_7.cl (by decide); have k2 := r_p1.cl (by decide); omega)] at t9; rw [show Int32.toNatClampNeg v_9 = 175 + 4 * Int32.toNatClampNeg p1 from (by have k1 := r_v_9.cl (by decide); have k2 := r_p1.cl (by decide); omega)] at x9; exact RN_child q9 (r_p1.to (by decide)) t9 x9 (r_v_13.to (by decide))
        have r_v_10 : RI v_10 0 23 := ⟨g_v_10.1, by have k1 := r_p1.2; omega⟩
        have g_v_12 : 0 ≤ v_12.toInt ∧ v_12.toInt < p1.toInt := by obtain ⟨_, f9, e8, e7, q9, _⟩ := ax_of (k := 14) (t := 34) hw h_p0 rfl (fun _ => rfl); cases FLD.inj hw.2.2.1 e8 m_u_8; have t9 := ARR.ael hw.2.2.1 e7 m_v_13; have x9 := ARR.ael hw.2.2.1 e7 m_v_12; rw [show Int32.toNatClampNeg v_7 = 174 + 4 * Int32.toNatClampNeg p1 from (by have k1 := r_v_7.cl (by decide); have k2 := r_p1.cl (by decide); omega)] at t9; rw [show Int32.toNatClampNeg v_11 = 176 + 4 * Int32.toNatClampNeg p1 from (by have k1 := r_v_11.cl (by decide); have k2 := r_p1.cl (by decide); omega)] at x9; exact RN_child2 q9 (r_p1.to (by decide)) t9 x9 (r_v_13.to (by decide))
        have r_v_12 : RI v_12 0 23 := ⟨g_v_12.1, by have k1 := r_p1.2; omega⟩
        refine lv_aload_n hx hb dX10_holds_150 rfl (lv_at hl 3 rfl) ?_
        refine lv_iload hx hb dX10_holds_151 (lv_at hl 1 rfl) ?_
        refine lv_iload_n hx hb dX10_holds_153 rfl (lv_at hl 5 rfl) ?_
        refine tk_ir (va_runV (As := [.int v_10, .int p2]) (rest := []) ⟨hx, hb, hml, hown, hts⟩ (c_X10_holds__36 l D cy z s.heap.size Ps w0 hw.1 p0 v_10 p2 h_p0 r_v_10 r_p2) (cwV 2 hts (gV tw_1787 tw_1789 ts_119 tw_15 tw_1790) rfl rfl rfl (by decide +kernel) ⟨Nat.le_of_ble_eq_true rfl, Nat.le_of_ble_eq_true rfl⟩) (tg_preV hw hK hSD hA (ci := 10) (q := (RX10, TX10, 49)) rfl h_p0 rfl) rfl rfl hl.1 rfl (lv_room (Nat.le_of_ble_eq_true rfl)) dX10_holds_154 ⟨Nat.le_of_ble_eq_true rfl, Nat.le_of_ble_eq_true rfl⟩) hw hA (fun v_17  H locs hp_v_17 hw => ?_)
        have r_v_17 : RI v_17 0 1 := hp_v_17.1
        refine lv_if_ne (tgt := 170) hx hb dX10_holds_157 (by decide) (fun c_157 => ?_) (fun c_157 => ?_)
        · have r_v_17 : RI v_17 1 1 := rc_neL r_v_17 rl_0 (ti_ne c_157) (by decide)
          refine lv_iconst (v := 1) hx hb dX10_holds_170 (by decide) ?_
          refine lv_goto (tgt := 175) hx hb dX10_holds_171 (by decide) ?_
          subst hQ
          exact W.zret (v := 1) hx hb hr (rfl) (fun t ht hW => ⟨⟨1, (), rfl, ⟨rl_1.to (by decide), (fun _ => trivial), (fun h0 => trivial)⟩, by rw [ht]; exact hw.2.1, va_K.moved hW.alike hK, hw.2.2.1⟩, hw.2.2.2.1.F ht⟩) hw.2.2.2.1.2.2 dX10_holds_175
        · have r_v_17 : RI v_17 0 0 := rc_eq1 r_v_17 rl_0 (ti_eq c_157) (by decide)
          refine lv_aload_n hx hb dX10_holds_160 rfl (lv_at hl 3 rfl) ?_
          refine lv_iload hx hb dX10_holds_161 (lv_at hl 0 rfl) ?_
          refine lv_iload_n hx hb dX10_holds_163 rfl (lv_at hl 5 rfl) ?_
          refine tk_ir (va_runV (As := [.int v_12, .int p2]) (rest := []) ⟨hx, hb, hml, hown, hts⟩ (c_X10_holds__36 l D cy z H.size Ps w0 hw.1 p0 v_12 p2 h_p0 r_v_12 r_p2) (cwV 2 hts (gV tw_1787 tw_1789 ts_119 tw_15 tw_1790) rfl rfl rfl (by decide +kernel) ⟨Nat.le_of_ble_eq_true rfl, Nat.le_of_ble_eq_true rfl⟩) (tg_preV hw hK hSD hA (ci := 10) (q := (RX10, TX10, 49)) rfl h_p0 rfl) rfl rfl hl.1 rfl (lv_room (Nat.le_of_ble_eq_true rfl)) dX10_holds_164 ⟨Nat.le_of_ble_eq_true rfl, Nat.le_of_ble_eq_true rfl⟩) hw hA (fun v_18  H locs hp_v_18 hw => ?_)
          have r_v_18 : RI v_18 0 1 := hp_v_18.1
          refine lv_if_eq (tgt := 174) hx hb dX10_holds_167 (by decide) (fun c_167 => ?_) (fun c_167 => ?_)
          · have r_v_18 : RI v_18 0 0 := rc_eq1 r_v_18 rl_0 (ti_eq c_167) (by decide)
            refine lv_iconst (v := 0) hx hb dX10_holds_174 (by decide) ?_
            subst hQ
            exact W.zret (v := 0) hx hb hr (rfl) (fun t ht hW => ⟨⟨0, (), rfl, ⟨rl_0.to (by decide), (fun h0 => trivial), (fun _ => trivial)⟩, by rw [ht]; exact hw.2.1, va_K.moved hW.alike hK, hw.2.2.1⟩, hw.2.2.2.1.F ht⟩) hw.2.2.2.1.2.2 dX10_holds_175
          · have r_v_18 : RI v_18 1 1 := rc_neL r_v_18 rl_0 (ti_ne c_167) (by decide)
            refine lv_iconst (v := 1) hx hb dX10_holds_170 (by decide) ?_
            refine lv_goto (tgt := 175) hx hb dX10_holds_171 (by decide) ?_
            subst hQ
            exact W.zret (v := 1) hx hb hr (rfl) (fun t ht hW => ⟨⟨1, (), rfl, ⟨rl_1.to (by decide), (fun _ => trivial), (fun h0 => trivial)⟩, by rw [ht]; exact hw.2.1, va_K.moved hW.alike hK, hw.2.2.1⟩, hw.2.2.2.1.F ht⟩) hw.2.2.2.1.2.2 dX10_holds_175
      · by_cases k_34_69 : v_13 = 69
        · refine lv_lookup (tgt := 176) (off := 142) hx hb dX10_holds_34 (by decide) (by rw [k_34_69]; decide) (by decide) ?_
          have r_v_13 : RI v_13 69 69 := by rw [k_34_69]; exact rl_69
          refine lv_aload_n hx hb dX10_holds_176 rfl (lv_at hl 3 rfl) ?_
          refine lv_iload_n hx hb dX10_holds_177 rfl (lv_at hl 5 rfl) ?_
          refine tk_ir (va_runV (As := [.int p2]) (rest := []) ⟨hx, hb, hml, hown, hts⟩ (c_X10_isOpen l D cy z s.heap.size Ps w0 hw.1 p0 p2 h_p0 (r_p2.to (by decide))) (cwV 1 hts (gV tw_1457 tw_1459 ts_71 tw_15 tw_1460) rfl rfl rfl (by decide +kernel) ⟨Nat.le_of_ble_eq_true rfl, Nat.le_of_ble_eq_true rfl⟩) (tg_preV hw hK hSD hA (ci := 10) (q := (RX10, TX10, 49)) rfl h_p0 rfl) rfl rfl hl.1 rfl (lv_room (Nat.le_of_ble_eq_true rfl)) dX10_holds_178 ⟨Nat.le_of_ble_eq_true rfl, Nat.le_of_ble_eq_true rfl⟩) hw hA (fun v_19  H locs hp_v_19 hw => ?_)
          have r_v_19 : RI v_19 0 1 := hp_v_19.1
          subst hQ
          exact W.zret (v := v_19) hx hb hr (tq_nz (r_v_19.to (by decide))) (fun t ht hW => ⟨⟨v_19, (), rfl, ⟨r_v_19.to (by decide), (fun h0 => trivial), (fun h0 => trivial)⟩, by rw [ht]; exact hw.2.1, va_K.moved hW.alike hK, hw.2.2.1⟩, hw.2.2.2.1.F ht⟩) hw.2.2.2.1.2.2 dX10_holds_181
        · by_cases k_34_70 : v_13 = 70
          · refine lv_lookup (tgt := 182) (off := 148) hx hb dX10_holds_34 (by decide) (by rw [k_34_70]; decide) (by decide) ?_
            have r_v_13 : RI v_13 70 70 := by rw [k_34_70]; exact rl_70
            refine lv_aload_n hx hb dX10_holds_182 rfl (lv_at hl 3 rfl) ?_
            refine lv_iload_n hx hb dX10_holds_183 rfl (lv_at hl 5 rfl) ?_
            refine tk_ir (va_runV (As := [.int p2]) (rest := []) ⟨hx, hb, hml, hown, hts⟩ (c_X10_whatIs l D cy z s.heap.size Ps w0 hw.1 p0 p2 h_p0 r_p2) (cwV 1 hts (gV tw_1449 tw_1451 ts_69 tw_15 tw_1452) rfl rfl rfl (by decide +kernel) ⟨Nat.le_of_ble_eq_true rfl, Nat.le_of_ble_eq_true rfl⟩) (tg_preV hw hK hSD hA (ci := 10) (q := (RX10, TX10, 49)) rfl h_p0 rfl) rfl rfl hl.1 rfl (lv_room (Nat.le_of_ble_eq_true rfl)) dX10_holds_184 ⟨Nat.le_of_ble_eq_true rfl, Nat.le_of_ble_eq_true rfl⟩) hw hA (fun v_20  H locs hp_v_20 hw => ?_)
            have r_v_20 : RI v_20 (-1) 5 := hp_v_20.1
            by_cases c9_v_20 : v_20.toInt < 0
            · have r_v_20 : RI v_20 (-1) (-1) := by unfold RI at r_v_20 ⊢; omega
              have x_NB_p0_p2 := (hp_v_20.2.2.2.2.1 (by omega)).1
              refine lv_iconst (v := (-1)) hx hb dX10_holds_187 (by decide) ?_
              refine lv_icmp_ne (tgt := 195) hx hb dX10_holds_188 (by decide) (fun c_188 => ?_) (fun c_188 => ?_)
              · exact absurd (r_v_20.eq.trans rl_m1.eq.symm) ((ti_ne c_188))
              · refine lv_iconst (v := 1) hx hb dX10_holds_191 (by decide) ?_
                refine lv_goto (tgt := 196) hx hb dX10_holds_192 (by decide) ?_
                subst hQ
                exact W.zret (v := 1) hx hb hr (rfl) (fun t ht hW => ⟨⟨1, (), rfl, ⟨rl_1.to (by decide), (fun _ => trivial), (fun h0 => trivial)⟩, by rw [ht]; exact hw.2.1, va_K.moved hW.alike hK, hw.2.2.1⟩, hw.2.2.2.1.F ht⟩) hw.2.2.2.1.2.2 dX10_holds_196
            · have r_v_20 : RI v_20 0 5 := by unfold RI at r_v_20 ⊢; omega
              have x_WB_p0_p2_v_20 := (hp_v_20.2.2.2.2.2 (by omega)).1
              refine lv_iconst (v := (-1)) hx hb dX10_holds_187 (by decide) ?_
              refine lv_icmp_ne (tgt := 195) hx hb dX10_holds_188 (by decide) (fun c_188 => ?_) (fun c_188 => ?_)
              · refine lv_iconst (v := 0) hx hb dX10_holds_195 (by decide) ?_
                subst hQ
                exact W.zret (v := 0) hx hb hr (rfl) (fun t ht hW => ⟨⟨0, (), rfl, ⟨rl_0.to (by decide), (fun h0 => trivial), (fun _ => trivial)⟩, by rw [ht]; exact hw.2.1, va_K.moved hW.alike hK, hw.2.2.1⟩, hw.2.2.2.1.F ht⟩) hw.2.2.2.1.2.2 dX10_holds_196
              · have r_v_20 : RI v_20 0 (-1) := rc_eq1 r_v_20 rl_m1 (ti_eq c_188) (by decide)
                exact (r_v_20.no (by decide)).elim
          · by_cases k_34_71 : v_13 = 71
            · refine lv_lookup (tgt := 197) (off := 163) hx hb dX10_holds_34 (by decide) (by rw [k_34_71]; decide) (by decide) ?_
              have r_v_13 : RI v_13 71 71 := by rw [k_34_71]; exact rl_71
              refine lv_aload_n hx hb dX10_holds_197 rfl (lv_at hl 3 rfl) ?_
              refine lv_iload_n hx hb dX10_holds_198 rfl (lv_at hl 5 rfl) ?_
              refine tk_ir (va_runV (As := [.int p2]) (rest := []) ⟨hx, hb, hml, hown, hts⟩ (c_X10_sittersOf l D cy z s.heap.size Ps w0 hw.1 p0 p2 h_p0 (r_p2.to (by decide))) (cwV 1 hts (gV tw_1461 tw_1463 ts_72 tw_15 tw_1464) rfl rfl rfl (by decide +kernel) ⟨Nat.le_of_ble_eq_true rfl, Nat.le_of_ble_eq_true rfl⟩) (tg_preV hw hK hSD hA (ci := 10) (q := (RX10, TX10, 49)) rfl h_p0 rfl) rfl rfl hl.1 rfl (lv_room (Nat.le_of_ble_eq_true rfl)) dX10_holds_199 ⟨Nat.le_of_ble_eq_true rfl, Nat.le_of_ble_eq_true rfl⟩) hw hA (fun v_21  H locs hp_v_21 hw => ?_)
              have r_v_21 : RI v_21 (-2147483648) 2147483647 := hp_v_21.1
              refine lv_if_eq (tgt := 209) hx hb dX10_holds_202 (by decide) (fun c_202 => ?_) (fun c_202 => ?_)
              · have r_v_21 : RI v_21 0 0 := rc_eq1 r_v_21 rl_0 (ti_eq c_202) (by decide)
                refine lv_iconst (v := 0) hx hb dX10_holds_209 (by decide) ?_
                subst hQ
                exact W.zret (v := 0) hx hb hr (rfl) (fun t ht hW => ⟨⟨0, (), rfl, ⟨rl_0.to (by decide), (fun h0 => trivial), (fun _ => trivial)⟩, by rw [ht]; exact hw.2.1, va_K.moved hW.alike hK, hw.2.2.1⟩, hw.2.2.2.1.F ht⟩) hw.2.2.2.1.2.2 dX10_holds_210
              · refine lv_iconst (v := 1) hx hb dX10_holds_205 (by decide) ?_
                refine lv_goto (tgt := 210) hx hb dX10_holds_206 (by decide) ?_
                subst hQ
                exact W.zret (v := 1) hx hb hr (rfl) (fun t ht hW => ⟨⟨1, (), rfl, ⟨rl_1.to (by decide), (fun _ => trivial), (fun h0 => trivial)⟩, by rw [ht]; exact hw.2.1, va_K.moved hW.alike hK, hw.2.2.1⟩, hw.2.2.2.1.F ht⟩) hw.2.2.2.1.2.2 dX10_holds_210
            · by_cases k_34_72 : v_13 = 72
              · refine lv_lookup (tgt := 211) (off := 177) hx hb dX10_holds_34 (by decide) (by rw [k_34_72]; decide) (by decide) ?_
                have r_v_13 : RI v_13 72 72 := by rw [k_34_72]; exact rl_72
                refine lv_aload_n hx hb dX10_holds_211 rfl (lv_at hl 3 rfl) ?_
                refine lv_iload_n hx hb dX10_holds_212 rfl (lv_at hl 5 rfl) ?_
                refine tk_ir (va_runV (As := [.int p2]) (rest := []) ⟨hx, hb, hml, hown, hts⟩ (c_X10_whatIs l D cy z s.heap.size Ps w0 hw.1 p0 p2 h_p0 r_p2) (cwV 1 hts (gV tw_1449 tw_1451 ts_69 tw_15 tw_1452) rfl rfl rfl (by decide +kernel) ⟨Nat.le_of_ble_eq_true rfl, Nat.le_of_ble_eq_true rfl⟩) (tg_preV hw hK hSD hA (ci := 10) (q := (RX10, TX10, 49)) rfl h_p0 rfl) rfl rfl hl.1 rfl (lv_room (Nat.le_of_ble_eq_true rfl)) dX10_holds_213 ⟨Nat.le_of_ble_eq_true rfl, Nat.le_of_ble_eq_true rfl⟩) hw hA (fun v_22  H locs hp_v_22 hw => ?_)
                have r_v_22 : RI v_22 (-1) 5 := hp_v_22.1
                by_cases c9_v_22 : v_22.toInt < 0
                · have r_v_22 : RI v_22 (-1) (-1) := by unfold RI at r_v_22 ⊢; omega
                  have x_NB_p0_p2 := (hp_v_22.2.2.2.2.1 (by omega)).1
                  refine lv_iload hx hb dX10_holds_216 (lv_at hl 1 rfl) ?_
                  refine lv_icmp_ne (tgt := 225) hx hb dX10_holds_218 (by decide) (fun c_218 => ?_) (fun c_218 => ?_)
                  · refine lv_iconst (v := 0) hx hb dX10_holds_225 (by decide) ?_
                    subst hQ
                    exact W.zret (v := 0) hx hb hr (rfl) (fun t ht hW => ⟨⟨0, (), rfl, ⟨rl_0.to (by decide), (fun h0 => trivial), (fun _ => trivial)⟩, by rw [ht]; exact hw.2.1, va_K.moved hW.alike hK, hw.2.2.1⟩, hw.2.2.2.1.F ht⟩) hw.2.2.2.1.2.2 dX10_holds_226
                  · have r_v_10 : RI v_10 (-1) (-1) := rc_eq2 r_v_22 r_v_10 (ti_eq c_218) (by decide)
                    refine lv_iconst (v := 1) hx hb dX10_holds_221 (by decide) ?_
                    refine lv_goto (tgt := 226) hx hb dX10_holds_222 (by decide) ?_
                    subst hQ
                    exact W.zret (v := 1) hx hb hr (rfl) (fun t ht hW => ⟨⟨1, (), rfl, ⟨rl_1.to (by decide), (fun _ => trivial), (fun h0 => trivial)⟩, by rw [ht]; exact hw.2.1, va_K.moved hW.alike hK, hw.2.2.1⟩, hw.2.2.2.1.F ht⟩) hw.2.2.2.1.2.2 dX10_holds_226
                · have r_v_22 : RI v_22 0 5 := by unfold RI at r_v_22 ⊢; omega
                  have x_WB_p0_p2_v_22 := (hp_v_22.2.2.2.2.2 (by omega)).1
                  refine lv_iload hx hb dX10_holds_216 (lv_at hl 1 rfl) ?_
                  refine lv_icmp_ne (tgt := 225) hx hb dX10_holds_218 (by decide) (fun c_218 => ?_) (fun c_218 => ?_)
                  · refine lv_iconst (v := 0) hx hb dX10_holds_225 (by decide) ?_
                    subst hQ
                    exact W.zret (v := 0) hx hb hr (rfl) (fun t ht hW => ⟨⟨0, (), rfl, ⟨rl_0.to (by decide), (fun h0 => trivial), (fun _ => trivial)⟩, by rw [ht]; exact hw.2.1, va_K.moved hW.alike hK, hw.2.2.1⟩, hw.2.2.2.1.F ht⟩) hw.2.2.2.1.2.2 dX10_holds_226
                  · have r_v_10 : RI v_10 0 5 := rc_eq2 r_v_22 r_v_10 (ti_eq c_218) (by decide)
                    refine lv_iconst (v := 1) hx hb dX10_holds_221 (by decide) ?_
                    refine lv_goto (tgt := 226) hx hb dX10_holds_222 (by decide) ?_
                    subst hQ
                    exact W.zret (v := 1) hx hb hr (rfl) (fun t ht hW => ⟨⟨1, (), rfl, ⟨rl_1.to (by decide), (fun _ => trivial), (fun h0 => trivial)⟩, by rw [ht]; exact hw.2.1, va_K.moved hW.alike hK, hw.2.2.1⟩, hw.2.2.2.1.F ht⟩) hw.2.2.2.1.2.2 dX10_holds_226
              · by_cases k_34_73 : v_13 = 73
                · refine lv_lookup (tgt := 227) (off := 193) hx hb dX10_holds_34 (by decide) (by rw [k_34_73]; decide) (by decide) ?_
                  have r_v_13 : RI v_13 73 73 := by rw [k_34_73]; exact rl_73
                  refine lv_aload_n hx hb dX10_holds_227 rfl (lv_at hl 3 rfl) ?_
                  refine tg_mem (ci := 10) (C := RX10) (T := TX10) (N := 49) hx hb hts inX10 hown hK hw 14 m_u_8 rfl (by decide) (hts _ tw_1151) (fun _ h9 => h9) dX10_holds_228 ?_
                  refine lv_bipush (v := 86) hx hb dX10_holds_231 (by decide) ?_
                  refine lv_iload_n hx hb dX10_holds_233 rfl (lv_at hl 5 rfl) ?_
                  refine lv_iadd hx hb dX10_holds_234 (lv_topi (fun v_23 e_v_23 => ?_))
                  obtain ⟨t_v_23, r_v_23⟩ := tq_add (lo := 86) (hi := 91) rl_86 r_p2 (by decide +kernel) e_v_23
                  have t_v_23 : v_23.toInt = 86 + p2.toInt := t_v_23
                  refine tg_iald (lo := (-2147483648)) (hi := 2147483647) hx hb hK hw h_vu_8 rfl 86 91 r_v_23 (by decide) (by decide +kernel) dX10_holds_235 (fun v_24 r_v_24 m_v_24 o_v_24 => ?_)
                  refine lv_iload hx hb dX10_holds_236 (lv_at hl 1 rfl) ?_
                  refine lv_icmp_ne (tgt := 245) hx hb dX10_holds_238 (by decide) (fun c_238 => ?_) (fun c_238 => ?_)
                  · refine lv_iconst (v := 0) hx hb dX10_holds_245 (by decide) ?_
                    subst hQ
                    exact W.zret (v := 0) hx hb hr (rfl) (fun t ht hW => ⟨⟨0, (), rfl, ⟨rl_0.to (by decide), (fun h0 => trivial), (fun _ => trivial)⟩, by rw [ht]; exact hw.2.1, va_K.moved hW.alike hK, hw.2.2.1⟩, hw.2.2.2.1.F ht⟩) hw.2.2.2.1.2.2 dX10_holds_246
                  · refine lv_iconst (v := 1) hx hb dX10_holds_241 (by decide) ?_
                    refine lv_goto (tgt := 246) hx hb dX10_holds_242 (by decide) ?_
                    subst hQ
                    exact W.zret (v := 1) hx hb hr (rfl) (fun t ht hW => ⟨⟨1, (), rfl, ⟨rl_1.to (by decide), (fun _ => trivial), (fun h0 => trivial)⟩, by rw [ht]; exact hw.2.1, va_K.moved hW.alike hK, hw.2.2.1⟩, hw.2.2.2.1.F ht⟩) hw.2.2.2.1.2.2 dX10_holds_246
                · refine lv_lookup (tgt := 247) (off := 213) hx hb dX10_holds_34 (by decide) ((lv_osw k_34_1 (by decide)).trans ((lv_osw k_34_2 (by decide)).trans ((lv_osw k_34_3 (by decide)).trans ((lv_osw k_34_69 (by decide)).trans ((lv_osw k_34_70 (by decide)).trans ((lv_osw k_34_71 (by decide)).trans ((lv_osw k_34_72 (by decide)).trans ((lv_osw k_34_73 (by decide)).trans (rfl))))))))) (by decide) ?_
                  refine lv_aload_n hx hb dX10_holds_247 rfl (lv_at hl 3 rfl) ?_
                  refine tg_mem (ci := 10) (C := RX10) (T := TX10) (N := 49) hx hb hts inX10 hown hK hw 14 m_u_8 rfl (by decide) (hts _ tw_1151) (fun _ h9 => h9) dX10_holds_248 ?_
                  refine lv_iload_n hx hb dX10_holds_251 rfl (lv_at hl 2 rfl) ?_
                  refine tg_imem hx hb hK hw h_vu_8 rfl r_v_7 (by decide) m_v_13 dX10_holds_252 ?_
                  refine lv_bipush (v := 50) hx hb dX10_holds_253 (by decide) ?_
                  refine lv_isub hx hb dX10_holds_255 (lv_topi (fun v_26 e_v_26 => ?_))
                  have r_v_26 := ri_any v_26
                  refine lv_istore (lv' := [(6, .int v_26), (5, .int v_12), (4, .int v_10), (3, .int v_7), (0, .ref p0), (1, .int p1), (2, .int p2)]) hx hb dX10_holds_256 hl (by decide) rfl (fun ls hl => ?_)
                  refine lv_iload hx hb dX10_holds_258 (lv_at hl 0 rfl) ?_
                  refine lv_bipush (v := 24) hx hb dX10_holds_260 (by decide) ?_
                  refine lv_icmp_ne (tgt := 273) hx hb dX10_holds_262 (by decide) (fun c_262 => ?_) (fun c_262 => ?_)
                  · refine lv_iload hx hb dX10_holds_273 (lv_at hl 0 rfl) ?_
                    refine lv_bipush (v := 25) hx hb dX10_holds_275 (by decide) ?_
                    refine lv_icmp_ne (tgt := 292) hx hb dX10_holds_277 (by decide) (fun c_277 => ?_) (fun c_277 => ?_)
                    · refine lv_iload hx hb dX10_holds_292 (lv_at hl 0 rfl) ?_
                      refine lv_bipush (v := 26) hx hb dX10_holds_294 (by decide) ?_
                      refine lv_icmp_ne (tgt := 311) hx hb dX10_holds_296 (by decide) (fun c_296 => ?_) (fun c_296 => ?_)
                      · refine lv_iload_n hx hb dX10_holds_311 rfl (lv_at hl 6 rfl) ?_
                        exact B312 v_7 v_10 v_12 v_26 p2 _ _ ls r_p1 r_p2 r_v_7 r_v_10 r_v_12 r_v_26 (r_p2.to (by decide)) hw (lv_sub hl [4, 5, 6, 3, 2, 1, 0] rfl)
                      · have r_v_26 : RI v_26 26 26 := rc_eq1 r_v_26 rl_26 (ti_eq c_296) (by decide)
                        refine lv_aload_n hx hb dX10_holds_299 rfl (lv_at hl 4 rfl) ?_
                        refine tg_mem (ci := 10) (C := RX10) (T := TX10) (N := 49) hx hb hts inX10 hown hK hw 14 m_u_8 rfl (by decide) (hts _ tw_1151) (fun _ h9 => h9) dX10_holds_300 ?_
                        refine lv_bipush (v := 98) hx hb dX10_holds_303 (by decide) ?_
                        refine lv_iload_n hx hb dX10_holds_305 rfl (lv_at hl 6 rfl) ?_
                        refine lv_iadd hx hb dX10_holds_306 (lv_topi (fun v_27 e_v_27 => ?_))
                        obtain ⟨t_v_27, r_v_27⟩ := tq_add (lo := 98) (hi := 103) rl_98 r_p2 (by decide +kernel) e_v_27
                        have t_v_27 : v_27.toInt = 98 + p2.toInt := t_v_27
                        refine tg_iald (lo := (-2147483648)) (hi := 2147483647) hx hb hK hw h_vu_8 rfl 98 103 r_v_27 (by decide) (by decide +kernel) dX10_holds_307 (fun v_28 r_v_28 m_v_28 o_v_28 => ?_)
                        refine lv_goto (tgt := 312) hx hb dX10_holds_308 (by decide) ?_
                        exact B312 v_7 v_10 v_12 v_26 v_28 _ _ ls r_p1 r_p2 r_v_7 r_v_10 r_v_12 (r_v_26.to (by decide)) r_v_28 hw (lv_sub hl [4, 5, 6, 3, 2, 1, 0] rfl)
                    · have r_v_26 : RI v_26 25 25 := rc_eq1 r_v_26 rl_25 (ti_eq c_277) (by decide)
                      refine lv_aload_n hx hb dX10_holds_280 rfl (lv_at hl 4 rfl) ?_
                      refine tg_mem (ci := 10) (C := RX10) (T := TX10) (N := 49) hx hb hts inX10 hown hK hw 14 m_u_8 rfl (by decide) (hts _ tw_1151) (fun _ h9 => h9) dX10_holds_281 ?_
                      refine lv_bipush (v := 92) hx hb dX10_holds_284 (by decide) ?_
                      refine lv_iload_n hx hb dX10_holds_286 rfl (lv_at hl 6 rfl) ?_
                      refine lv_iadd hx hb dX10_holds_287 (lv_topi (fun v_29 e_v_29 => ?_))
                      obtain ⟨t_v_29, r_v_29⟩ := tq_add (lo := 92) (hi := 97) rl_92 r_p2 (by decide +kernel) e_v_29
                      have t_v_29 : v_29.toInt = 92 + p2.toInt := t_v_29
                      refine tg_iald (lo := (-2147483648)) (hi := 2147483647) hx hb hK hw h_vu_8 rfl 92 97 r_v_29 (by decide) (by decide +kernel) dX10_holds_288 (fun v_30 r_v_30 m_v_30 o_v_30 => ?_)
                      refine lv_goto (tgt := 312) hx hb dX10_holds_289 (by decide) ?_
                      exact B312 v_7 v_10 v_12 v_26 v_30 _ _ ls r_p1 r_p2 r_v_7 r_v_10 r_v_12 (r_v_26.to (by decide)) r_v_30 hw (lv_sub hl [4, 5, 6, 3, 2, 1, 0] rfl)
                  · have r_v_26 : RI v_26 24 24 := rc_eq1 r_v_26 rl_24 (ti_eq c_262) (by decide)
                    refine lv_aload_n hx hb dX10_holds_265 rfl (lv_at hl 4 rfl) ?_
                    refine lv_iload_n hx hb dX10_holds_266 rfl (lv_at hl 6 rfl) ?_
                    refine tk_ir (va_runV (As := [.int p2]) (rest := []) ⟨hx, hb, hml, hown, hts⟩ (c_X10_sizeOf l D cy z s.heap.size Ps w0 hw.1 p0 p2 h_p0 r_p2) (cwV 1 hts (gV tw_1453 tw_1455 ts_70 tw_15 tw_1456) rfl rfl rfl (by decide +kernel) ⟨Nat.le_of_ble_eq_true rfl, Nat.le_of_ble_eq_true rfl⟩) (tg_preV hw hK hSD hA (ci := 10) (q := (RX10, TX10, 49)) rfl h_p0 rfl) rfl rfl hl.1 rfl (lv_room (Nat.le_of_ble_eq_true rfl)) dX10_holds_267 ⟨Nat.le_of_ble_eq_true rfl, Nat.le_of_ble_eq_true rfl⟩) hw hA (fun v_31  H locs hp_v_31 hw => ?_)
                    have r_v_31 : RI v_31 (-2147483648) 2147483647 := hp_v_31.1
                    refine lv_goto (tgt := 312) hx hb dX10_holds_270 (by decide) ?_
                    exact B312 v_7 v_10 v_12 v_26 v_31 _ _ ls r_p1 r_p2 r_v_7 r_v_10 r_v_12 (r_v_26.to (by decide)) r_v_31 hw (lv_sub hl [4, 5, 6, 3, 2, 1, 0] rfl)
abbrev wr_X10_holds__34 : List (Nat × Nat) := []
abbrev wa_X10_holds__34 : List Nat := []
set_option maxHeartbeats 4000000 in
set_option maxRecDepth 100000 in
theorem c_X10_holds__34 (l : Launch) (D : va_G) (cy : Nat → ClassId) (z : Nat → Nat) (sz : Nat) (Ps : PSI) (w0 : va_W) (hT : HT cy GG Ps w0) (p0 : Nat) (p1 : Int32) (p2 : Int32) (h_p0 : (p0, 55) ∈ Ps) (r_p1 : RI p1 0 25) (r_p2 : RI p2 0 5) : Met l yX10_holds (Cond.code yX10_holds cX10_holds 8 (some .boolean) :: gT) ({ frames := 28, cells := 0, slots := 0, locals := 5600 } : Room) (va_Pc [.ref p0, .int p1, .int p2] (PRE D cy z w0 sz)) (va_Qi (fun (r : Int32) (u : Unit) => RI r 0 1 ∧ (r = 0 → True) ∧ (¬ r = 0 → True)) (BB D cy (va_A w0 sz) (fun (u : Unit) => w0)) (va_A w0 sz)) 0 0 (va_A w0 sz) := by
  refine Met.ofW (cc := cX10_holds) (maxL := 8) (ret := (some .boolean)) (by decide) rfl ?_
  intro p e s m args below meth c s₁ B hml hv
  obtain ⟨rfl, hsz, hP, hK, hD0, hSD⟩ := hv
  have hx := B.exec
  have hb := B.bytes
  have hr := B.returns
  have hlocks := B.notSynchronized
  have hts : ∀ w ∈ gT, w.before _ s = true := fun w h => atoms_spec (ws := Cond.code yX10_holds cX10_holds 8 (some .boolean) :: gT) B.pre w (List.mem_cons_of_mem _ h)
  have hown : s.vm.findClass RX10 = some m.cls := findClass_of_methodNamed B.named
  subst hsz
  have hD := hD0.self (sz := s.heap.size)
  generalize hAe : va_A w0 s.heap.size = A at hD hSD ⊢
  have hA : ∀ q : Nat, s.heap.size ≤ q → A q := fun q h => by rw [← hAe]; exact Or.inr h
  have hl := lv_entry ([.ref p0, .int p1, .int p2]) (n := 8) (Nat.le_of_ble_eq_true rfl)
  rw [lg_entry_eq]
  generalize (lg_sl ([.ref p0, .int p1, .int p2]) ++ List.replicate (8 - (lg_sl ([.ref p0, .int p1, .int p2])).length) Slot.unset).toArray = ls at hl ⊢
  have hl : lv_has ls 8 [(0, .ref p0), (1, .int p1), (2, .int p2)] := hl
  refine nameQ (fun Q hQ => ?_)
  have hw : WD D cy GG A s wr_X10_holds__34 wa_X10_holds__34 Ps w0 Ps w0 s.heap [] := ⟨hT, hP, hD, va_S.rf, FR.rf, hT.1, [], (List.append_nil _).symm⟩
  have B312 : ∀ (x3 : Int32) (x4 : Int32) (x5 : Int32) (x6 : Int32) (y0 : Int32) (H : Heap) (locs : List Loc) (ls : Array Slot), RI p1 0 25 → RI p2 0 5 → RI x3 174 274 → RI x4 (-2147483648) 2147483647 → RI x5 (-2147483648) 2147483647 → RI x6 (-2147483648) 2147483647 → RI y0 (-2147483648) 2147483647 → WD D cy GG A s wr_X10_holds__34 wa_X10_holds__34 Ps w0 Ps w0 H locs → lv_has ls 8 [(0, .ref p0), (1, .int p1), (2, .int p2), (3, .int x3), (4, .int x4), (5, .int x5), (6, .int x6)] → W p l e (headSpec (Cond.code yX10_holds cX10_holds 8 (some .boolean) :: gT) ({ frames := 28, cells := 0, slots := 0, locals := 5600 } : Room)).room s m ([.ref p0, .int p1, .int p2] : List Value).toArray below meth c H locs 0 0 Q (F0 m 312 ls [.int y0]) := by
    intro x3 x4 x5 x6 y0 H locs ls r_p1 r_p2 r_x3 r_x4 r_x5 r_x6 r_y0 hw hl
    refine lv_istore (lv' := [(7, .int y0), (0, .ref p0), (1, .int p1), (2, .int p2), (3, .int x3), (4, .int x4), (5, .int x5), (6, .int x6)]) hx hb dX10_holds_312 hl (by decide) rfl (fun ls hl => ?_)
    refine lv_aload_n hx hb dX10_holds_314 rfl (lv_at hl 1 rfl) ?_
    refine tg_get (ci := 10) (ts := ty_MODEL) (C := RX10) (T := TX10) (N := 49) hx hb hts inX10 hown hK hw h_p0 rfl rfl 14 (by decide) (hts _ tw_1151) (fun _ h9 => h9) (ft := vR 34) rfl dX10_holds_315 (fun u_1 hv_u_1 m_u_1 => ?_)
    obtain ⟨vu_1, rfl, h_vu_1⟩ := hv_u_1
    refine lv_iload_n hx hb dX10_holds_318 rfl (lv_at hl 4 rfl) ?_
    refine lv_iconst (v := 3) hx hb dX10_holds_319 (by decide) ?_
    refine lv_iadd hx hb dX10_holds_320 (lv_topi (fun v_2 e_v_2 => ?_))
    obtain ⟨t_v_2, r_v_2⟩ := tq_add (lo := 177) (hi := 277) r_x3 rl_3 (by decide +kernel) e_v_2
    have t_v_2 : v_2.toInt = x3.toInt + 3 := t_v_2
    refine tg_iald (lo := (-2147483648)) (hi := 2147483647) hx hb hK hw h_vu_1 rfl 177 277 r_v_2 (by decide) (by decide +kernel) dX10_holds_321 (fun v_3 r_v_3 m_v_3 o_v_3 => ?_)
    refine lv_bipush (v := 60) hx hb dX10_holds_322 (by decide) ?_
    refine lv_icmp_ne (tgt := 342) hx hb dX10_holds_324 (by decide) (fun c_324 => ?_) (fun c_324 => ?_)
    · refine lv_aload_n hx hb dX10_holds_342 rfl (lv_at hl 1 rfl) ?_
      refine tg_mem (ci := 10) (C := RX10) (T := TX10) (N := 49) hx hb hts inX10 hown hK hw 14 m_u_1 rfl (by decide) (hts _ tw_1151) (fun _ h9 => h9) dX10_holds_343 ?_
      refine lv_iload_n hx hb dX10_holds_346 rfl (lv_at hl 4 rfl) ?_
      refine lv_iconst (v := 3) hx hb dX10_holds_347 (by decide) ?_
      refine lv_iadd hx hb dX10_holds_348 (lv_topi (fun v_4 e_v_4 => ?_))
      obtain ⟨t_v_4, r_v_4⟩ := tq_add (lo := 177) (hi := 277) r_x3 rl_3 (by decide +kernel) e_v_4
      have t_v_4 : v_4.toInt = x3.toInt + 3 := t_v_4
      refine tg_iald (lo := (-2147483648)) (hi := 2147483647) hx hb hK hw h_vu_1 rfl 177 277 r_v_4 (by decide) (by decide +kernel) dX10_holds_349 (fun v_5 r_v_5 m_v_5 o_v_5 => ?_)
      refine lv_bipush (v := 61) hx hb dX10_holds_350 (by decide) ?_
      refine lv_icmp_ne (tgt := 370) hx hb dX10_holds_352 (by decide) (fun c_352 => ?_) (fun c_352 => ?_)
      · refine lv_iload hx hb dX10_holds_370 (lv_at hl 0 rfl) ?_
        refine lv_iload hx hb dX10_holds_372 (lv_at hl 6 rfl) ?_
        refine lv_icmp_le (tgt := 381) hx hb dX10_holds_374 (by decide) (fun c_374 => ?_) (fun c_374 => ?_)
        · refine lv_iconst (v := 0) hx hb dX10_holds_381 (by decide) ?_
          subst hQ
          exact W.zret (v := 0) hx hb hr (rfl) (fun t ht hW => ⟨⟨0, (), rfl, ⟨rl_0.to (by decide), (fun h0 => trivial), (fun _ => trivial)⟩, by rw [ht]; exact hw.2.1, va_K.moved hW.alike hK, hw.2.2.1⟩, hw.2.2.2.1.F ht⟩) hw.2.2.2.1.2.2 dX10_holds_382
        · have r_x5 : RI x5 (-2147483648) 2147483646 := rc_lt1 r_x5 r_y0 (ti_nle c_374) (by decide)
          have r_y0 : RI y0 (-2147483647) 2147483647 := rc_lt2 r_x5 r_y0 (ti_nle c_374) (by decide)
          refine lv_iconst (v := 1) hx hb dX10_holds_377 (by decide) ?_
          refine lv_goto (tgt := 382) hx hb dX10_holds_378 (by decide) ?_
          subst hQ
          exact W.zret (v := 1) hx hb hr (rfl) (fun t ht hW => ⟨⟨1, (), rfl, ⟨rl_1.to (by decide), (fun _ => trivial), (fun h0 => trivial)⟩, by rw [ht]; exact hw.2.1, va_K.moved hW.alike hK, hw.2.2.1⟩, hw.2.2.2.1.F ht⟩) hw.2.2.2.1.2.2 dX10_holds_382
      · have r_v_5 : RI v_5 61 61 := rc_eq1 r_v_5 rl_61 (ti_eq c_352) (by decide)
        refine lv_iload hx hb dX10_holds_355 (lv_at hl 0 rfl) ?_
        refine lv_iload hx hb dX10_holds_357 (lv_at hl 6 rfl) ?_
        refine lv_icmp_ne (tgt := 366) hx hb dX10_holds_359 (by decide) (fun c_359 => ?_) (fun c_359 => ?_)
        · refine lv_iconst (v := 0) hx hb dX10_holds_366 (by decide) ?_
          refine lv_goto (tgt := 382) hx hb dX10_holds_367 (by decide) ?_
          subst hQ
          exact W.zret (v := 0) hx hb hr (rfl) (fun t ht hW => ⟨⟨0, (), rfl, ⟨rl_0.to (by decide), (fun h0 => trivial), (fun _ => trivial)⟩, by rw [ht]; exact hw.2.1, va_K.moved hW.alike hK, hw.2.2.1⟩, hw.2.2.2.1.F ht⟩) hw.2.2.2.1.2.2 dX10_holds_382
        · refine lv_iconst (v := 1) hx hb dX10_holds_362 (by decide) ?_
          refine lv_goto (tgt := 382) hx hb dX10_holds_363 (by decide) ?_
          subst hQ
          exact W.zret (v := 1) hx hb hr (rfl) (fun t ht hW => ⟨⟨1, (), rfl, ⟨rl_1.to (by decide), (fun _ => trivial), (fun h0 => trivial)⟩, by rw [ht]; exact hw.2.1, va_K.moved hW.alike hK, hw.2.2.1⟩, hw.2.2.2.1.F ht⟩) hw.2.2.2.1.2.2 dX10_holds_382
    · have r_v_3 : RI v_3 60 60 := rc_eq1 r_v_3 rl_60 (ti_eq c_324) (by decide)
      refine lv_iload hx hb dX10_holds_327 (lv_at hl 0 rfl) ?_
      refine lv_iload hx hb dX10_holds_329 (lv_at hl 6 rfl) ?_
      refine lv_icmp_ge (tgt := 338) hx hb dX10_holds_331 (by decide) (fun c_331 => ?_) (fun c_331 => ?_)
      · refine lv_iconst (v := 0) hx hb dX10_holds_338 (by decide) ?_
        refine lv_goto (tgt := 382) hx hb dX10_holds_339 (by decide) ?_
        subst hQ
        exact W.zret (v := 0) hx hb hr (rfl) (fun t ht hW => ⟨⟨0, (), rfl, ⟨rl_0.to (by decide), (fun h0 => trivial), (fun _ => trivial)⟩, by rw [ht]; exact hw.2.1, va_K.moved hW.alike hK, hw.2.2.1⟩, hw.2.2.2.1.F ht⟩) hw.2.2.2.1.2.2 dX10_holds_382
      · have r_y0 : RI y0 (-2147483648) 2147483646 := rc_lt1 r_y0 r_x5 (ti_nle c_331) (by decide)
        have r_x5 : RI x5 (-2147483647) 2147483647 := rc_lt2 r_y0 r_x5 (ti_nle c_331) (by decide)
        refine lv_iconst (v := 1) hx hb dX10_holds_334 (by decide) ?_
        refine lv_goto (tgt := 382) hx hb dX10_holds_335 (by decide) ?_
        subst hQ
        exact W.zret (v := 1) hx hb hr (rfl) (fun t ht hW => ⟨⟨1, (), rfl, ⟨rl_1.to (by decide), (fun _ => trivial), (fun h0 => trivial)⟩, by rw [ht]; exact hw.2.1, va_K.moved hW.alike hK, hw.2.2.1⟩, hw.2.2.2.1.F ht⟩) hw.2.2.2.1.2.2 dX10_holds_382
  refine lv_sipush (v := 174) hx hb dX10_holds_0 (by decide) ?_
  refine lv_iconst (v := 4) hx hb dX10_holds_3 (by decide) ?_
  refine lv_iload_n hx hb dX10_holds_4 rfl (lv_at hl 1 rfl) ?_
  refine lv_imul hx hb dX10_holds_5 (lv_topi (fun v_6 e_v_6 => ?_))
  obtain ⟨t_v_6, r_v_6⟩ := tq_mul (lo := 0) (hi := 100) rl_4 r_p1 (by decide +kernel) e_v_6
  have t_v_6 : v_6.toInt = 4 * p1.toInt := t_v_6
  refine lv_iadd hx hb dX10_holds_6 (lv_topi (fun v_7 e_v_7 => ?_))
  obtain ⟨t_v_7, r_v_7⟩ := tq_add (lo := 174) (hi := 274) rl_174 r_v_6 (by decide +kernel) e_v_7
  have t_v_7 : v_7.toInt = 174 + v_6.toInt := t_v_7
  refine lv_istore_n (lv' := [(3, .int v_7), (0, .ref p0), (1, .int p1), (2, .int p2)]) hx hb dX10_holds_7 rfl hl (by decide) rfl (fun ls hl => ?_)
  refine lv_aload_n hx hb dX10_holds_8 rfl (lv_at hl 1 rfl) ?_
  refine tg_get (ci := 10) (ts := ty_MODEL) (C := RX10) (T := TX10) (N := 49) hx hb hts inX10 hown hK hw h_p0 rfl rfl 14 (by decide) (hts _ tw_1151) (fun _ h9 => h9) (ft := vR 34) rfl dX10_holds_9 (fun u_8 hv_u_8 m_u_8 => ?_)
  obtain ⟨vu_8, rfl, h_vu_8⟩ := hv_u_8
  refine lv_iload_n hx hb dX10_holds_12 rfl (lv_at hl 0 rfl) ?_
  refine lv_iconst (v := 1) hx hb dX10_holds_13 (by decide) ?_
  refine lv_iadd hx hb dX10_holds_14 (lv_topi (fun v_9 e_v_9 => ?_))
  obtain ⟨t_v_9, r_v_9⟩ := tq_add (lo := 175) (hi := 275) r_v_7 rl_1 (by decide +kernel) e_v_9
  have t_v_9 : v_9.toInt = v_7.toInt + 1 := t_v_9
  refine tg_iald (lo := (-2147483648)) (hi := 2147483647) hx hb hK hw h_vu_8 rfl 175 275 r_v_9 (by decide) (by decide +kernel) dX10_holds_15 (fun v_10 r_v_10 m_v_10 o_v_10 => ?_)
  refine lv_istore (lv' := [(4, .int v_10), (3, .int v_7), (0, .ref p0), (1, .int p1), (2, .int p2)]) hx hb dX10_holds_16 hl (by decide) rfl (fun ls hl => ?_)
  refine lv_aload_n hx hb dX10_holds_18 rfl (lv_at hl 2 rfl) ?_
  refine tg_mem (ci := 10) (C := RX10) (T := TX10) (N := 49) hx hb hts inX10 hown hK hw 14 m_u_8 rfl (by decide) (hts _ tw_1151) (fun _ h9 => h9) dX10_holds_19 ?_
  refine lv_iload_n hx hb dX10_holds_22 rfl (lv_at hl 1 rfl) ?_
  refine lv_iconst (v := 2) hx hb dX10_holds_23 (by decide) ?_
  refine lv_iadd hx hb dX10_holds_24 (lv_topi (fun v_11 e_v_11 => ?_))
  obtain ⟨t_v_11, r_v_11⟩ := tq_add (lo := 176) (hi := 276) r_v_7 rl_2 (by decide +kernel) e_v_11
  have t_v_11 : v_11.toInt = v_7.toInt + 2 := t_v_11
  refine tg_iald (lo := (-2147483648)) (hi := 2147483647) hx hb hK hw h_vu_8 rfl 176 276 r_v_11 (by decide) (by decide +kernel) dX10_holds_25 (fun v_12 r_v_12 m_v_12 o_v_12 => ?_)
  refine lv_istore (lv' := [(5, .int v_12), (4, .int v_10), (3, .int v_7), (0, .ref p0), (1, .int p1), (2, .int p2)]) hx hb dX10_holds_26 hl (by decide) rfl (fun ls hl => ?_)
  refine lv_aload_n hx hb dX10_holds_28 rfl (lv_at hl 3 rfl) ?_
  refine tg_mem (ci := 10) (C := RX10) (T := TX10) (N := 49) hx hb hts inX10 hown hK hw 14 m_u_8 rfl (by decide) (hts _ tw_1151) (fun _ h9 => h9) dX10_holds_29 ?_
  refine lv_iload_n hx hb dX10_holds_32 rfl (lv_at hl 2 rfl) ?_
  refine tg_iald (lo := (-2147483648)) (hi := 2147483647) hx hb hK hw h_vu_8 rfl 174 274 r_v_7 (by decide) (by decide +kernel) dX10_holds_33 (fun v_13 r_v_13 m_v_13 o_v_13 => ?_)
  by_cases k_34_1 : v_13 = 1
  · refine lv_lookup (tgt := 108) (off := 74) hx hb dX10_holds_34 (by decide) (by rw [k_34_1]; decide) (by decide) ?_
    have r_v_13 : RI v_13 1 1 := by rw [k_34_1]; exact rl_1
    have g_v_10 : 0 ≤ v_10.toInt ∧ v_10.toInt < p1.toInt := by obtain ⟨_, f9, e8, e7, q9, _⟩ := ax_of (k := 14) (t := 34) hw h_p0 rfl (fun _ => rfl); cases FLD.inj hw.2.2.1 e8 m_u_8; have t9 := ARR.ael hw.2.2.1 e7 m_v_13; have x9 := ARR.ael hw.2.2.1 e7 m_v_10; rw [show Int32.toNatClampNeg v_7 = 174 + 4 * Int32.toNatClampNeg p1 from (by have k1 := r_v_7.cl (by decide); have k2 := r_p1.cl (by decide); omega)] at t9; rw [show Int32.toNatClampNeg v_9 = 175 + 4 * Int32.toNatClampNeg p1 from (by have k1 := r_v_9.cl (by decide); have k2 := r_p1.cl (by decide); omega)] at x9; exact RN_child q9 (r_p1.to (by decide)) t9 x9 (r_v_13.to (by decide))
    have r_v_10 : RI v_10 0 24 := ⟨g_v_10.1, by have k1 := r_p1.2; omega⟩
    refine lv_aload_n hx hb dX10_holds_108 rfl (lv_at hl 3 rfl) ?_
    refine lv_iload hx hb dX10_holds_109 (lv_at hl 1 rfl) ?_
    refine lv_iload_n hx hb dX10_holds_111 rfl (lv_at hl 5 rfl) ?_
    refine tk_ir (va_runV (As := [.int v_10, .int p2]) (rest := []) ⟨hx, hb, hml, hown, hts⟩ (c_X10_holds__35 l D cy z s.heap.size Ps w0 hw.1 p0 v_10 p2 h_p0 r_v_10 r_p2) (cwV 2 hts (gV tw_1787 tw_1789 ts_119 tw_15 tw_1790) rfl rfl rfl (by decide +kernel) ⟨Nat.le_of_ble_eq_true rfl, Nat.le_of_ble_eq_true rfl⟩) (tg_preV hw hK hSD hA (ci := 10) (q := (RX10, TX10, 49)) rfl h_p0 rfl) rfl rfl hl.1 rfl (lv_room (Nat.le_of_ble_eq_true rfl)) dX10_holds_112 ⟨Nat.le_of_ble_eq_true rfl, Nat.le_of_ble_eq_true rfl⟩) hw hA (fun v_14  H locs hp_v_14 hw => ?_)
    have r_v_14 : RI v_14 0 1 := hp_v_14.1
    refine lv_if_ne (tgt := 122) hx hb dX10_holds_115 (by decide) (fun c_115 => ?_) (fun c_115 => ?_)
    · have r_v_14 : RI v_14 1 1 := rc_neL r_v_14 rl_0 (ti_ne c_115) (by decide)
      refine lv_iconst (v := 0) hx hb dX10_holds_122 (by decide) ?_
      subst hQ
      exact W.zret (v := 0) hx hb hr (rfl) (fun t ht hW => ⟨⟨0, (), rfl, ⟨rl_0.to (by decide), (fun h0 => trivial), (fun _ => trivial)⟩, by rw [ht]; exact hw.2.1, va_K.moved hW.alike hK, hw.2.2.1⟩, hw.2.2.2.1.F ht⟩) hw.2.2.2.1.2.2 dX10_holds_123
    · have r_v_14 : RI v_14 0 0 := rc_eq1 r_v_14 rl_0 (ti_eq c_115) (by decide)
      refine lv_iconst (v := 1) hx hb dX10_holds_118 (by decide) ?_
      refine lv_goto (tgt := 123) hx hb dX10_holds_119 (by decide) ?_
      subst hQ
      exact W.zret (v := 1) hx hb hr (rfl) (fun t ht hW => ⟨⟨1, (), rfl, ⟨rl_1.to (by decide), (fun _ => trivial), (fun h0 => trivial)⟩, by rw [ht]; exact hw.2.1, va_K.moved hW.alike hK, hw.2.2.1⟩, hw.2.2.2.1.F ht⟩) hw.2.2.2.1.2.2 dX10_holds_123
  · by_cases k_34_2 : v_13 = 2
    · refine lv_lookup (tgt := 124) (off := 90) hx hb dX10_holds_34 (by decide) (by rw [k_34_2]; decide) (by decide) ?_
      have r_v_13 : RI v_13 2 2 := by rw [k_34_2]; exact rl_2
      have g_v_10 : 0 ≤ v_10.toInt ∧ v_10.toInt < p1.toInt := by obtain ⟨_, f9, e8, e7, q9, _⟩ := ax_of (k := 14) (t := 34) hw h_p0 rfl (fun _ => rfl); cases FLD.inj hw.2.2.1 e8 m_u_8; have t9 := ARR.ael hw.2.2.1 e7 m_v_13; have x9 := ARR.ael hw.2.2.1 e7 m_v_10; rw [show Int32.toNatClampNeg v_7 = 174 + 4 * Int32.toNatClampNeg p1 from (by have k1 := r_v_7.cl (by decide); have k2 := r_p1.cl (by decide); omega)] at t9; rw [show Int32.toNatClampNeg v_9 = 175 + 4 * Int32.toNatClampNeg p1 from (by have k1 := r_v_9.cl (by decide); have k2 := r_p1.cl (by decide); omega)] at x9; exact RN_child q9 (r_p1.to (by decide)) t9 x9 (r_v_13.to (by decide))
      have r_v_10 : RI v_10 0 24 := ⟨g_v_10.1, by have k1 := r_p1.2; omega⟩
      have g_v_12 : 0 ≤ v_12.toInt ∧ v_12.toInt < p1.toInt := by obtain ⟨_, f9, e8, e7, q9, _⟩ := ax_of (k := 14) (t := 34) hw h_p0 rfl (fun _ => rfl); cases FLD.inj hw.2.2.1 e8 m_u_8; have t9 := ARR.ael hw.2.2.1 e7 m_v_13; have x9 := ARR.ael hw.2.2.1 e7 m_v_12; rw [show Int32.toNatClampNeg v_7 = 174 + 4 * Int32.toNatClampNeg p1 from (by have k1 := r_v_7.cl (by decide); have k2 := r_p1.cl (by decide); omega)] at t9; rw [show Int32.toNatClampNeg v_11 = 176 + 4 * Int32.toNatClampNeg p1 from (by have k1 := r_v_11.cl (by decide); have k2 := r_p1.cl (by decide); omega)] at x9; exact RN_child2 q9 (r_p1.to (by decide)) t9 x9 (r_v_13.to (by decide))
      have r_v_12 : RI v_12 0 24 := ⟨g_v_12.1, by have k1 := r_p1.2; omega⟩
      refine lv_aload_n hx hb dX10_holds_124 rfl (lv_at hl 3 rfl) ?_
      refine lv_iload hx hb dX10_holds_125 (lv_at hl 1 rfl) ?_
      refine lv_iload_n hx hb dX10_holds_127 rfl (lv_at hl 5 rfl) ?_
      refine tk_ir (va_runV (As := [.int v_10, .int p2]) (rest := []) ⟨hx, hb, hml, hown, hts⟩ (c_X10_holds__35 l D cy z s.heap.size Ps w0 hw.1 p0 v_10 p2 h_p0 r_v_10 r_p2) (cwV 2 hts (gV tw_1787 tw_1789 ts_119 tw_15 tw_1790) rfl rfl rfl (by decide +kernel) ⟨Nat.le_of_ble_eq_true rfl, Nat.le_of_ble_eq_true rfl⟩) (tg_preV hw hK hSD hA (ci := 10) (q := (RX10, TX10, 49)) rfl h_p0 rfl) rfl rfl hl.1 rfl (lv_room (Nat.le_of_ble_eq_true rfl)) dX10_holds_128 ⟨Nat.le_of_ble_eq_true rfl, Nat.le_of_ble_eq_true rfl⟩) hw hA (fun v_15  H locs hp_v_15 hw => ?_)
      have r_v_15 : RI v_15 0 1 := hp_v_15.1
      refine lv_if_eq (tgt := 148) hx hb dX10_holds_131 (by decide) (fun c_131 => ?_) (fun c_131 => ?_)
      · have r_v_15 : RI v_15 0 0 := rc_eq1 r_v_15 rl_0 (ti_eq c_131) (by decide)
        refine lv_iconst (v := 0) hx hb dX10_holds_148 (by decide) ?_
        subst hQ
        exact W.zret (v := 0) hx hb hr (rfl) (fun t ht hW => ⟨⟨0, (), rfl, ⟨rl_0.to (by decide), (fun h0 => trivial), (fun _ => trivial)⟩, by rw [ht]; exact hw.2.1, va_K.moved hW.alike hK, hw.2.2.1⟩, hw.2.2.2.1.F ht⟩) hw.2.2.2.1.2.2 dX10_holds_149
      · have r_v_15 : RI v_15 1 1 := rc_neL r_v_15 rl_0 (ti_ne c_131) (by decide)
        refine lv_aload_n hx hb dX10_holds_134 rfl (lv_at hl 3 rfl) ?_
        refine lv_iload hx hb dX10_holds_135 (lv_at hl 0 rfl) ?_
        refine lv_iload_n hx hb dX10_holds_137 rfl (lv_at hl 5 rfl) ?_
        refine tk_ir (va_runV (As := [.int v_12, .int p2]) (rest := []) ⟨hx, hb, hml, hown, hts⟩ (c_X10_holds__35 l D cy z H.size Ps w0 hw.1 p0 v_12 p2 h_p0 r_v_12 r_p2) (cwV 2 hts (gV tw_1787 tw_1789 ts_119 tw_15 tw_1790) rfl rfl rfl (by decide +kernel) ⟨Nat.le_of_ble_eq_true rfl, Nat.le_of_ble_eq_true rfl⟩) (tg_preV hw hK hSD hA (ci := 10) (q := (RX10, TX10, 49)) rfl h_p0 rfl) rfl rfl hl.1 rfl (lv_room (Nat.le_of_ble_eq_true rfl)) dX10_holds_138 ⟨Nat.le_of_ble_eq_true rfl, Nat.le_of_ble_eq_true rfl⟩) hw hA (fun v_16  H locs hp_v_16 hw => ?_)
        have r_v_16 : RI v_16 0 1 := hp_v_16.1
        refine lv_if_eq (tgt := 148) hx hb dX10_holds_141 (by decide) (fun c_141 => ?_) (fun c_141 => ?_)
        · have r_v_16 : RI v_16 0 0 := rc_eq1 r_v_16 rl_0 (ti_eq c_141) (by decide)
          refine lv_iconst (v := 0) hx hb dX10_holds_148 (by decide) ?_
          subst hQ
          exact W.zret (v := 0) hx hb hr (rfl) (fun t ht hW => ⟨⟨0, (), rfl, ⟨rl_0.to (by decide), (fun h0 => trivial), (fun _ => trivial)⟩, by rw [ht]; exact hw.2.1, va_K.moved hW.alike hK, hw.2.2.1⟩, hw.2.2.2.1.F ht⟩) hw.2.2.2.1.2.2 dX10_holds_149
        · have r_v_16 : RI v_16 1 1 := rc_neL r_v_16 rl_0 (ti_ne c_141) (by decide)
          refine lv_iconst (v := 1) hx hb dX10_holds_144 (by decide) ?_
          refine lv_goto (tgt := 149) hx hb dX10_holds_145 (by decide) ?_
          subst hQ
          exact W.zret (v := 1) hx hb hr (rfl) (fun t ht hW => ⟨⟨1, (), rfl, ⟨rl_1.to (by decide), (fun _ => trivial), (fun h0 => trivial)⟩, by rw [ht]; exact hw.2.1, va_K.moved hW.alike hK, hw.2.2.1⟩, hw.2.2.2.1.F ht⟩) hw.2.2.2.1.2.2 dX10_holds_149
    · by_cases k_34_3 : v_13 = 3
      · refine lv_lookup (tgt := 150) (off := 116) hx hb dX10_holds_34 (by decide) (by rw [k_34_3]; decide) (by decide) ?_
        have r_v_13 : RI v_13 3 3 := by rw [k_34_3]; exact rl_3
        have g_v_10 : 0 ≤ v_10.toInt ∧ v_10.toInt < p1.toInt := by obtain ⟨_, f9, e8, e7, q9, _⟩ := ax_of (k := 14) (t := 34) hw h_p0 rfl (fun _ => rfl); cases FLD.inj hw.2.2.1 e8 m_u_8; have t9 := ARR.ael hw.2.2.1 e7 m_v_13; have x9 := ARR.ael hw.2.2.1 e7 m_v_10; rw [show Int32.toNatClampNeg v_7 = 174 + 4 * Int32.toNatClampNeg p1 from (by have k1 := r_v_7.cl (by decide); have k2 := r_p1.cl (by decide); omega)] at t9; rw [show Int32.toNatClampNeg v_9 = 175 + 4 * Int32.toNatClampNeg p1 from (by have k1 := r_v_9.cl (by decide); have k2 := r_p1.cl (by decide); omega)] at x9; exact RN_child q9 (r_p1.to (by decide)) t9 x9 (r_v_13.to (by decide))
        have r_v_10 : RI v_10 0 24 := ⟨g_v_10.1, by have k1 := r_p1.2; omega⟩
        have g_v_12 : 0 ≤ v_12.toInt ∧ v_12.toInt < p1.toInt := by obtain ⟨_, f9, e8, e7, q9, _⟩ := ax_of (k := 14) (t := 34) hw h_p0 rfl (fun _ => rfl); cases FLD.inj hw.2.2.1 e8 m_u_8; have t9 := ARR.ael hw.2.2.1 e7 m_v_13; have x9 := ARR.ael hw.2.2.1 e7 m_v_12; rw [show Int32.toNatClampNeg v_7 = 174 + 4 * Int32.toNatClampNeg p1 from (by have k1 := r_v_7.cl (by decide); have k2 := r_p1.cl (by decide); omega)] at t9; rw [show Int32.toNatClampNeg v_11 = 176 + 4 * Int32.toNatClampNeg p1 from (by have k1 := r_v_11.cl (by decide); have k2 := r_p1.cl (by decide); omega)] at x9; exact RN_child2 q9 (r_p1.to (by decide)) t9 x9 (r_v_13.to (by decide))
        have r_v_12 : RI v_12 0 24 := ⟨g_v_12.1, by have k1 := r_p1.2; omega⟩
        refine lv_aload_n hx hb dX10_holds_150 rfl (lv_at hl 3 rfl) ?_
        refine lv_iload hx hb dX10_holds_151 (lv_at hl 1 rfl) ?_
        refine lv_iload_n hx hb dX10_holds_153 rfl (lv_at hl 5 rfl) ?_
        refine tk_ir (va_runV (As := [.int v_10, .int p2]) (rest := []) ⟨hx, hb, hml, hown, hts⟩ (c_X10_holds__35 l D cy z s.heap.size Ps w0 hw.1 p0 v_10 p2 h_p0 r_v_10 r_p2) (cwV 2 hts (gV tw_1787 tw_1789 ts_119 tw_15 tw_1790) rfl rfl rfl (by decide +kernel) ⟨Nat.le_of_ble_eq_true rfl, Nat.le_of_ble_eq_true rfl⟩) (tg_preV hw hK hSD hA (ci := 10) (q := (RX10, TX10, 49)) rfl h_p0 rfl) rfl rfl hl.1 rfl (lv_room (Nat.le_of_ble_eq_true rfl)) dX10_holds_154 ⟨Nat.le_of_ble_eq_true rfl, Nat.le_of_ble_eq_true rfl⟩) hw hA (fun v_17  H locs hp_v_17 hw => ?_)
        have r_v_17 : RI v_17 0 1 := hp_v_17.1
        refine lv_if_ne (tgt := 170) hx hb dX10_holds_157 (by decide) (fun c_157 => ?_) (fun c_157 => ?_)
        · have r_v_17 : RI v_17 1 1 := rc_neL r_v_17 rl_0 (ti_ne c_157) (by decide)
          refine lv_iconst (v := 1) hx hb dX10_holds_170 (by decide) ?_
          refine lv_goto (tgt := 175) hx hb dX10_holds_171 (by decide) ?_
          subst hQ
          exact W.zret (v := 1) hx hb hr (rfl) (fun t ht hW => ⟨⟨1, (), rfl, ⟨rl_1.to (by decide), (fun _ => trivial), (fun h0 => trivial)⟩, by rw [ht]; exact hw.2.1, va_K.moved hW.alike hK, hw.2.2.1⟩, hw.2.2.2.1.F ht⟩) hw.2.2.2.1.2.2 dX10_holds_175
        · have r_v_17 : RI v_17 0 0 := rc_eq1 r_v_17 rl_0 (ti_eq c_157) (by decide)
          refine lv_aload_n hx hb dX10_holds_160 rfl (lv_at hl 3 rfl) ?_
          refine lv_iload hx hb dX10_holds_161 (lv_at hl 0 rfl) ?_
          refine lv_iload_n hx hb dX10_holds_163 rfl (lv_at hl 5 rfl) ?_
          refine tk_ir (va_runV (As := [.int v_12, .int p2]) (rest := []) ⟨hx, hb, hml, hown, hts⟩ (c_X10_holds__35 l D cy z H.size Ps w0 hw.1 p0 v_12 p2 h_p0 r_v_12 r_p2) (cwV 2 hts (gV tw_1787 tw_1789 ts_119 tw_15 tw_1790) rfl rfl rfl (by decide +kernel) ⟨Nat.le_of_ble_eq_true rfl, Nat.le_of_ble_eq_true rfl⟩) (tg_preV hw hK hSD hA (ci := 10) (q := (RX10, TX10, 49)) rfl h_p0 rfl) rfl rfl hl.1 rfl (lv_room (Nat.le_of_ble_eq_true rfl)) dX10_holds_164 ⟨Nat.le_of_ble_eq_true rfl, Nat.le_of_ble_eq_true rfl⟩) hw hA (fun v_18  H locs hp_v_18 hw => ?_)
          have r_v_18 : RI v_18 0 1 := hp_v_18.1
          refine lv_if_eq (tgt := 174) hx hb dX10_holds_167 (by decide) (fun c_167 => ?_) (fun c_167 => ?_)
          · have r_v_18 : RI v_18 0 0 := rc_eq1 r_v_18 rl_0 (ti_eq c_167) (by decide)
            refine lv_iconst (v := 0) hx hb dX10_holds_174 (by decide) ?_
            subst hQ
            exact W.zret (v := 0) hx hb hr (rfl) (fun t ht hW => ⟨⟨0, (), rfl, ⟨rl_0.to (by decide), (fun h0 => trivial), (fun _ => trivial)⟩, by rw [ht]; exact hw.2.1, va_K.moved hW.alike hK, hw.2.2.1⟩, hw.2.2.2.1.F ht⟩) hw.2.2.2.1.2.2 dX10_holds_175
          · have r_v_18 : RI v_18 1 1 := rc_neL r_v_18 rl_0 (ti_ne c_167) (by decide)
            refine lv_iconst (v := 1) hx hb dX10_holds_170 (by decide) ?_
            refine lv_goto (tgt := 175) hx hb dX10_holds_171 (by decide) ?_
            subst hQ
            exact W.zret (v := 1) hx hb hr (rfl) (fun t ht hW => ⟨⟨1, (), rfl, ⟨rl_1.to (by decide), (fun _ => trivial), (fun h0 => trivial)⟩, by rw [ht]; exact hw.2.1, va_K.moved hW.alike hK, hw.2.2.1⟩, hw.2.2.2.1.F ht⟩) hw.2.2.2.1.2.2 dX10_holds_175
      · by_cases k_34_69 : v_13 = 69
        · refine lv_lookup (tgt := 176) (off := 142) hx hb dX10_holds_34 (by decide) (by rw [k_34_69]; decide) (by decide) ?_
          have r_v_13 : RI v_13 69 69 := by rw [k_34_69]; exact rl_69
          refine lv_aload_n hx hb dX10_holds_176 rfl (lv_at hl 3 rfl) ?_
          refine lv_iload_n hx hb dX10_holds_177 rfl (lv_at hl 5 rfl) ?_
          refine tk_ir (va_runV (As := [.int p2]) (rest := []) ⟨hx, hb, hml, hown, hts⟩ (c_X10_isOpen l D cy z s.heap.size Ps w0 hw.1 p0 p2 h_p0 (r_p2.to (by decide))) (cwV 1 hts (gV tw_1457 tw_1459 ts_71 tw_15 tw_1460) rfl rfl rfl (by decide +kernel) ⟨Nat.le_of_ble_eq_true rfl, Nat.le_of_ble_eq_true rfl⟩) (tg_preV hw hK hSD hA (ci := 10) (q := (RX10, TX10, 49)) rfl h_p0 rfl) rfl rfl hl.1 rfl (lv_room (Nat.le_of_ble_eq_true rfl)) dX10_holds_178 ⟨Nat.le_of_ble_eq_true rfl, Nat.le_of_ble_eq_true rfl⟩) hw hA (fun v_19  H locs hp_v_19 hw => ?_)
          have r_v_19 : RI v_19 0 1 := hp_v_19.1
          subst hQ
          exact W.zret (v := v_19) hx hb hr (tq_nz (r_v_19.to (by decide))) (fun t ht hW => ⟨⟨v_19, (), rfl, ⟨r_v_19.to (by decide), (fun h0 => trivial), (fun h0 => trivial)⟩, by rw [ht]; exact hw.2.1, va_K.moved hW.alike hK, hw.2.2.1⟩, hw.2.2.2.1.F ht⟩) hw.2.2.2.1.2.2 dX10_holds_181
        · by_cases k_34_70 : v_13 = 70
          · refine lv_lookup (tgt := 182) (off := 148) hx hb dX10_holds_34 (by decide) (by rw [k_34_70]; decide) (by decide) ?_
            have r_v_13 : RI v_13 70 70 := by rw [k_34_70]; exact rl_70
            refine lv_aload_n hx hb dX10_holds_182 rfl (lv_at hl 3 rfl) ?_
            refine lv_iload_n hx hb dX10_holds_183 rfl (lv_at hl 5 rfl) ?_
            refine tk_ir (va_runV (As := [.int p2]) (rest := []) ⟨hx, hb, hml, hown, hts⟩ (c_X10_whatIs l D cy z s.heap.size Ps w0 hw.1 p0 p2 h_p0 r_p2) (cwV 1 hts (gV tw_1449 tw_1451 ts_69 tw_15 tw_1452) rfl rfl rfl (by decide +kernel) ⟨Nat.le_of_ble_eq_true rfl, Nat.le_of_ble_eq_true rfl⟩) (tg_preV hw hK hSD hA (ci := 10) (q := (RX10, TX10, 49)) rfl h_p0 rfl) rfl rfl hl.1 rfl (lv_room (Nat.le_of_ble_eq_true rfl)) dX10_holds_184 ⟨Nat.le_of_ble_eq_true rfl, Nat.le_of_ble_eq_true rfl⟩) hw hA (fun v_20  H locs hp_v_20 hw => ?_)
            have r_v_20 : RI v_20 (-1) 5 := hp_v_20.1
            by_cases c9_v_20 : v_20.toInt < 0
            · have r_v_20 : RI v_20 (-1) (-1) := by unfold RI at r_v_20 ⊢; omega
              have x_NB_p0_p2 := (hp_v_20.2.2.2.2.1 (by omega)).1
              refine lv_iconst (v := (-1)) hx hb dX10_holds_187 (by decide) ?_
              refine lv_icmp_ne (tgt := 195) hx hb dX10_holds_188 (by decide) (fun c_188 => ?_) (fun c_188 => ?_)
              · exact absurd (r_v_20.eq.trans rl_m1.eq.symm) ((ti_ne c_188))
              · refine lv_iconst (v := 1) hx hb dX10_holds_191 (by decide) ?_
                refine lv_goto (tgt := 196) hx hb dX10_holds_192 (by decide) ?_
                subst hQ
                exact W.zret (v := 1) hx hb hr (rfl) (fun t ht hW => ⟨⟨1, (), rfl, ⟨rl_1.to (by decide), (fun _ => trivial), (fun h0 => trivial)⟩, by rw [ht]; exact hw.2.1, va_K.moved hW.alike hK, hw.2.2.1⟩, hw.2.2.2.1.F ht⟩) hw.2.2.2.1.2.2 dX10_holds_196
            · have r_v_20 : RI v_20 0 5 := by unfold RI at r_v_20 ⊢; omega
              have x_WB_p0_p2_v_20 := (hp_v_20.2.2.2.2.2 (by omega)).1
              refine lv_iconst (v := (-1)) hx hb dX10_holds_187 (by decide) ?_
              refine lv_icmp_ne (tgt := 195) hx hb dX10_holds_188 (by decide) (fun c_188 => ?_) (fun c_188 => ?_)
              · refine lv_iconst (v := 0) hx hb dX10_holds_195 (by decide) ?_
                subst hQ
                exact W.zret (v := 0) hx hb hr (rfl) (fun t ht hW => ⟨⟨0, (), rfl, ⟨rl_0.to (by decide), (fun h0 => trivial), (fun _ => trivial)⟩, by rw [ht]; exact hw.2.1, va_K.moved hW.alike hK, hw.2.2.1⟩, hw.2.2.2.1.F ht⟩) hw.2.2.2.1.2.2 dX10_holds_196
              · have r_v_20 : RI v_20 0 (-1) := rc_eq1 r_v_20 rl_m1 (ti_eq c_188) (by decide)
                exact (r_v_20.no (by decide)).elim
          · by_cases k_34_71 : v_13 = 71
            · refine lv_lookup (tgt := 197) (off := 163) hx hb dX10_holds_34 (by decide) (by rw [k_34_71]; decide) (by decide) ?_
              have r_v_13 : RI v_13 71 71 := by rw [k_34_71]; exact rl_71
              refine lv_aload_n hx hb dX10_holds_197 rfl (lv_at hl 3 rfl) ?_
              refine lv_iload_n hx hb dX10_holds_198 rfl (lv_at hl 5 rfl) ?_
              refine tk_ir (va_runV (As := [.int p2]) (rest := []) ⟨hx, hb, hml, hown, hts⟩ (c_X10_sittersOf l D cy z s.heap.size Ps w0 hw.1 p0 p2 h_p0 (r_p2.to (by decide))) (cwV 1 hts (gV tw_1461 tw_1463 ts_72 tw_15 tw_1464) rfl rfl rfl (by decide +kernel) ⟨Nat.le_of_ble_eq_true rfl, Nat.le_of_ble_eq_true rfl⟩) (tg_preV hw hK hSD hA (ci := 10) (q := (RX10, TX10, 49)) rfl h_p0 rfl) rfl rfl hl.1 rfl (lv_room (Nat.le_of_ble_eq_true rfl)) dX10_holds_199 ⟨Nat.le_of_ble_eq_true rfl, Nat.le_of_ble_eq_true rfl⟩) hw hA (fun v_21  H locs hp_v_21 hw => ?_)
              have r_v_21 : RI v_21 (-2147483648) 2147483647 := hp_v_21.1
              refine lv_if_eq (tgt := 209) hx hb dX10_holds_202 (by decide) (fun c_202 => ?_) (fun c_202 => ?_)
              · have r_v_21 : RI v_21 0 0 := rc_eq1 r_v_21 rl_0 (ti_eq c_202) (by decide)
                refine lv_iconst (v := 0) hx hb dX10_holds_209 (by decide) ?_
                subst hQ
                exact W.zret (v := 0) hx hb hr (rfl) (fun t ht hW => ⟨⟨0, (), rfl, ⟨rl_0.to (by decide), (fun h0 => trivial), (fun _ => trivial)⟩, by rw [ht]; exact hw.2.1, va_K.moved hW.alike hK, hw.2.2.1⟩, hw.2.2.2.1.F ht⟩) hw.2.2.2.1.2.2 dX10_holds_210
              · refine lv_iconst (v := 1) hx hb dX10_holds_205 (by decide) ?_
                refine lv_goto (tgt := 210) hx hb dX10_holds_206 (by decide) ?_
                subst hQ
                exact W.zret (v := 1) hx hb hr (rfl) (fun t ht hW => ⟨⟨1, (), rfl, ⟨rl_1.to (by decide), (fun _ => trivial), (fun h0 => trivial)⟩, by rw [ht]; exact hw.2.1, va_K.moved hW.alike hK, hw.2.2.1⟩, hw.2.2.2.1.F ht⟩) hw.2.2.2.1.2.2 dX10_holds_210
            · by_cases k_34_72 : v_13 = 72
              · refine lv_lookup (tgt := 211) (off := 177) hx hb dX10_holds_34 (by decide) (by rw [k_34_72]; decide) (by decide) ?_
                have r_v_13 : RI v_13 72 72 := by rw [k_34_72]; exact rl_72
                refine lv_aload_n hx hb dX10_holds_211 rfl (lv_at hl 3 rfl) ?_
                refine lv_iload_n hx hb dX10_holds_212 rfl (lv_at hl 5 rfl) ?_
                refine tk_ir (va_runV (As := [.int p2]) (rest := []) ⟨hx, hb, hml, hown, hts⟩ (c_X10_whatIs l D cy z s.heap.size Ps w0 hw.1 p0 p2 h_p0 r_p2) (cwV 1 hts (gV tw_1449 tw_1451 ts_69 tw_15 tw_1452) rfl rfl rfl (by decide +kernel) ⟨Nat.le_of_ble_eq_true rfl, Nat.le_of_ble_eq_true rfl⟩) (tg_preV hw hK hSD hA (ci := 10) (q := (RX10, TX10, 49)) rfl h_p0 rfl) rfl rfl hl.1 rfl (lv_room (Nat.le_of_ble_eq_true rfl)) dX10_holds_213 ⟨Nat.le_of_ble_eq_true rfl, Nat.le_of_ble_eq_true rfl⟩) hw hA (fun v_22  H locs hp_v_22 hw => ?_)
                have r_v_22 : RI v_22 (-1) 5 := hp_v_22.1
                by_cases c9_v_22 : v_22.toInt < 0
                · have r_v_22 : RI v_22 (-1) (-1) := by unfold RI at r_v_22 ⊢; omega
                  have x_NB_p0_p2 := (hp_v_22.2.2.2.2.1 (by omega)).1
                  refine lv_iload hx hb dX10_holds_216 (lv_at hl 1 rfl) ?_
                  refine lv_icmp_ne (tgt := 225) hx hb dX10_holds_218 (by decide) (fun c_218 => ?_) (fun c_218 => ?_)
                  · refine lv_iconst (v := 0) hx hb dX10_holds_225 (by decide) ?_
                    subst hQ
                    exact W.zret (v := 0) hx hb hr (rfl) (fun t ht hW => ⟨⟨0, (), rfl, ⟨rl_0.to (by decide), (fun h0 => trivial), (fun _ => trivial)⟩, by rw [ht]; exact hw.2.1, va_K.moved hW.alike hK, hw.2.2.1⟩, hw.2.2.2.1.F ht⟩) hw.2.2.2.1.2.2 dX10_holds_226
                  · have r_v_10 : RI v_10 (-1) (-1) := rc_eq2 r_v_22 r_v_10 (ti_eq c_218) (by decide)
                    refine lv_iconst (v := 1) hx hb dX10_holds_221 (by decide) ?_
                    refine lv_goto (tgt := 226) hx hb dX10_holds_222 (by decide) ?_
                    subst hQ
                    exact W.zret (v := 1) hx hb hr (rfl) (fun t ht hW => ⟨⟨1, (), rfl, ⟨rl_1.to (by decide), (fun _ => trivial), (fun h0 => trivial)⟩, by rw [ht]; exact hw.2.1, va_K.moved hW.alike hK, hw.2.2.1⟩, hw.2.2.2.1.F ht⟩) hw.2.2.2.1.2.2 dX10_holds_226
                · have r_v_22 : RI v_22 0 5 := by unfold RI at r_v_22 ⊢; omega
                  have x_WB_p0_p2_v_22 := (hp_v_22.2.2.2.2.2 (by omega)).1
                  refine lv_iload hx hb dX10_holds_216 (lv_at hl 1 rfl) ?_
                  refine lv_icmp_ne (tgt := 225) hx hb dX10_holds_218 (by decide) (fun c_218 => ?_) (fun c_218 => ?_)
                  · refine lv_iconst (v := 0) hx hb dX10_holds_225 (by decide) ?_
                    subst hQ
                    exact W.zret (v := 0) hx hb hr (rfl) (fun t ht hW => ⟨⟨0, (), rfl, ⟨rl_0.to (by decide), (fun h0 => trivial), (fun _ => trivial)⟩, by rw [ht]; exact hw.2.1, va_K.moved hW.alike hK, hw.2.2.1⟩, hw.2.2.2.1.F ht⟩) hw.2.2.2.1.2.2 dX10_holds_226
                  · have r_v_10 : RI v_10 0 5 := rc_eq2 r_v_22 r_v_10 (ti_eq c_218) (by decide)
                    refine lv_iconst (v := 1) hx hb dX10_holds_221 (by decide) ?_
                    refine lv_goto (tgt := 226) hx hb dX10_holds_222 (by decide) ?_
                    subst hQ
                    exact W.zret (v := 1) hx hb hr (rfl) (fun t ht hW => ⟨⟨1, (), rfl, ⟨rl_1.to (by decide), (fun _ => trivial), (fun h0 => trivial)⟩, by rw [ht]; exact hw.2.1, va_K.moved hW.alike hK, hw.2.2.1⟩, hw.2.2.2.1.F ht⟩) hw.2.2.2.1.2.2 dX10_holds_226
              · by_cases k_34_73 : v_13 = 73
                · refine lv_lookup (tgt := 227) (off := 193) hx hb dX10_holds_34 (by decide) (by rw [k_34_73]; decide) (by decide) ?_
                  have r_v_13 : RI v_13 73 73 := by rw [k_34_73]; exact rl_73
                  refine lv_aload_n hx hb dX10_holds_227 rfl (lv_at hl 3 rfl) ?_
                  refine tg_mem (ci := 10) (C := RX10) (T := TX10) (N := 49) hx hb hts inX10 hown hK hw 14 m_u_8 rfl (by decide) (hts _ tw_1151) (fun _ h9 => h9) dX10_holds_228 ?_
                  refine lv_bipush (v := 86) hx hb dX10_holds_231 (by decide) ?_
                  refine lv_iload_n hx hb dX10_holds_233 rfl (lv_at hl 5 rfl) ?_
                  refine lv_iadd hx hb dX10_holds_234 (lv_topi (fun v_23 e_v_23 => ?_))
                  obtain ⟨t_v_23, r_v_23⟩ := tq_add (lo := 86) (hi := 91) rl_86 r_p2 (by decide +kernel) e_v_23
                  have t_v_23 : v_23.toInt = 86 + p2.toInt := t_v_23
                  refine tg_iald (lo := (-2147483648)) (hi := 2147483647) hx hb hK hw h_vu_8 rfl 86 91 r_v_23 (by decide) (by decide +kernel) dX10_holds_235 (fun v_24 r_v_24 m_v_24 o_v_24 => ?_)
                  refine lv_iload hx hb dX10_holds_236 (lv_at hl 1 rfl) ?_
                  refine lv_icmp_ne (tgt := 245) hx hb dX10_holds_238 (by decide) (fun c_238 => ?_) (fun c_238 => ?_)
                  · refine lv_iconst (v := 0) hx hb dX10_holds_245 (by decide) ?_
                    subst hQ
                    exact W.zret (v := 0) hx hb hr (rfl) (fun t ht hW => ⟨⟨0, (), rfl, ⟨rl_0.to (by decide), (fun h0 => trivial), (fun _ => trivial)⟩, by rw [ht]; exact hw.2.1, va_K.moved hW.alike hK, hw.2.2.1⟩, hw.2.2.2.1.F ht⟩) hw.2.2.2.1.2.2 dX10_holds_246
                  · refine lv_iconst (v := 1) hx hb dX10_holds_241 (by decide) ?_
                    refine lv_goto (tgt := 246) hx hb dX10_holds_242 (by decide) ?_
                    subst hQ
                    exact W.zret (v := 1) hx hb hr (rfl) (fun t ht hW => ⟨⟨1, (), rfl, ⟨rl_1.to (by decide), (fun _ => trivial), (fun h0 => trivial)⟩, by rw [ht]; exact hw.2.1, va_K.moved hW.alike hK, hw.2.2.1⟩, hw.2.2.2.1.F ht⟩) hw.2.2.2.1.2.2 dX10_holds_246
                · refine lv_lookup (tgt := 247) (off := 213) hx hb dX10_holds_34 (by decide) ((lv_osw k_34_1 (by decide)).trans ((lv_osw k_34_2 (by decide)).trans ((lv_osw k_34_3 (by decide)).trans ((lv_osw k_34_69 (by decide)).trans ((lv_osw k_34_70 (by decide)).trans ((lv_osw k_34_71 (by decide)).trans ((lv_osw k_34_72 (by decide)).trans ((lv_osw k_34_73 (by decide)).trans (rfl))))))))) (by decide) ?_
                  refine lv_aload_n hx hb dX10_holds_247 rfl (lv_at hl 3 rfl) ?_
                  refine tg_mem (ci := 10) (C := RX10) (T := TX10) (N := 49) hx hb hts inX10 hown hK hw 14 m_u_8 rfl (by decide) (hts _ tw_1151) (fun _ h9 => h9) dX10_holds_248 ?_
                  refine lv_iload_n hx hb dX10_holds_251 rfl (lv_at hl 2 rfl) ?_
                  refine tg_imem hx hb hK hw h_vu_8 rfl r_v_7 (by decide) m_v_13 dX10_holds_252 ?_
                  refine lv_bipush (v := 50) hx hb dX10_holds_253 (by decide) ?_
                  refine lv_isub hx hb dX10_holds_255 (lv_topi (fun v_26 e_v_26 => ?_))
                  have r_v_26 := ri_any v_26
                  refine lv_istore (lv' := [(6, .int v_26), (5, .int v_12), (4, .int v_10), (3, .int v_7), (0, .ref p0), (1, .int p1), (2, .int p2)]) hx hb dX10_holds_256 hl (by decide) rfl (fun ls hl => ?_)
                  refine lv_iload hx hb dX10_holds_258 (lv_at hl 0 rfl) ?_
                  refine lv_bipush (v := 24) hx hb dX10_holds_260 (by decide) ?_
                  refine lv_icmp_ne (tgt := 273) hx hb dX10_holds_262 (by decide) (fun c_262 => ?_) (fun c_262 => ?_)
                  · refine lv_iload hx hb dX10_holds_273 (lv_at hl 0 rfl) ?_
                    refine lv_bipush (v := 25) hx hb dX10_holds_275 (by decide) ?_
                    refine lv_icmp_ne (tgt := 292) hx hb dX10_holds_277 (by decide) (fun c_277 => ?_) (fun c_277 => ?_)
                    · refine lv_iload hx hb dX10_holds_292 (lv_at hl 0 rfl) ?_
                      refine lv_bipush (v := 26) hx hb dX10_holds_294 (by decide) ?_
                      refine lv_icmp_ne (tgt := 311) hx hb dX10_holds_296 (by decide) (fun c_296 => ?_) (fun c_296 => ?_)
                      · refine lv_iload_n hx hb dX10_holds_311 rfl (lv_at hl 6 rfl) ?_
                        exact B312 v_7 v_10 v_12 v_26 p2 _ _ ls r_p1 r_p2 r_v_7 r_v_10 r_v_12 r_v_26 (r_p2.to (by decide)) hw (lv_sub hl [4, 5, 6, 3, 2, 1, 0] rfl)
                      · have r_v_26 : RI v_26 26 26 := rc_eq1 r_v_26 rl_26 (ti_eq c_296) (by decide)
                        refine lv_aload_n hx hb dX10_holds_299 rfl (lv_at hl 4 rfl) ?_
                        refine tg_mem (ci := 10) (C := RX10) (T := TX10) (N := 49) hx hb hts inX10 hown hK hw 14 m_u_8 rfl (by decide) (hts _ tw_1151) (fun _ h9 => h9) dX10_holds_300 ?_
                        refine lv_bipush (v := 98) hx hb dX10_holds_303 (by decide) ?_
                        refine lv_iload_n hx hb dX10_holds_305 rfl (lv_at hl 6 rfl) ?_
                        refine lv_iadd hx hb dX10_holds_306 (lv_topi (fun v_27 e_v_27 => ?_))
                        obtain ⟨t_v_27, r_v_27⟩ := tq_add (lo := 98) (hi := 103) rl_98 r_p2 (by decide +kernel) e_v_27
                        have t_v_27 : v_27.toInt = 98 + p2.toInt := t_v_27
                        refine tg_iald (lo := (-2147483648)) (hi := 2147483647) hx hb hK hw h_vu_8 rfl 98 103 r_v_27 (by decide) (by decide +kernel) dX10_holds_307 (fun v_28 r_v_28 m_v_28 o_v_28 => ?_)
                        refine lv_goto (tgt := 312) hx hb dX10_holds_308 (by decide) ?_
                        exact B312 v_7 v_10 v_12 v_26 v_28 _ _ ls r_p1 r_p2 r_v_7 r_v_10 r_v_12 (r_v_26.to (by decide)) r_v_28 hw (lv_sub hl [4, 5, 6, 3, 2, 1, 0] rfl)
                    · have r_v_26 : RI v_26 25 25 := rc_eq1 r_v_26 rl_25 (ti_eq c_277) (by decide)
                      refine lv_aload_n hx hb dX10_holds_280 rfl (lv_at hl 4 rfl) ?_
                      refine tg_mem (ci := 10) (C := RX10) (T := TX10) (N := 49) hx hb hts inX10 hown hK hw 14 m_u_8 rfl (by decide) (hts _ tw_1151) (fun _ h9 => h9) dX10_holds_281 ?_
                      refine lv_bipush (v := 92) hx hb dX10_holds_284 (by decide) ?_
                      refine lv_iload_n hx hb dX10_holds_286 rfl (lv_at hl 6 rfl) ?_
                      refine lv_iadd hx hb dX10_holds_287 (lv_topi (fun v_29 e_v_29 => ?_))
                      obtain ⟨t_v_29, r_v_29⟩ := tq_add (lo := 92) (hi := 97) rl_92 r_p2 (by decide +kernel) e_v_29
                      have t_v_29 : v_29.toInt = 92 + p2.toInt := t_v_29
                      refine tg_iald (lo := (-2147483648)) (hi := 2147483647) hx hb hK hw h_vu_8 rfl 92 97 r_v_29 (by decide) (by decide +kernel) dX10_holds_288 (fun v_30 r_v_30 m_v_30 o_v_30 => ?_)
                      refine lv_goto (tgt := 312) hx hb dX10_holds_289 (by decide) ?_
                      exact B312 v_7 v_10 v_12 v_26 v_30 _ _ ls r_p1 r_p2 r_v_7 r_v_10 r_v_12 (r_v_26.to (by decide)) r_v_30 hw (lv_sub hl [4, 5, 6, 3, 2, 1, 0] rfl)
                  · have r_v_26 : RI v_26 24 24 := rc_eq1 r_v_26 rl_24 (ti_eq c_262) (by decide)
                    refine lv_aload_n hx hb dX10_holds_265 rfl (lv_at hl 4 rfl) ?_
                    refine lv_iload_n hx hb dX10_holds_266 rfl (lv_at hl 6 rfl) ?_
                    refine tk_ir (va_runV (As := [.int p2]) (rest := []) ⟨hx, hb, hml, hown, hts⟩ (c_X10_sizeOf l D cy z s.heap.size Ps w0 hw.1 p0 p2 h_p0 r_p2) (cwV 1 hts (gV tw_1453 tw_1455 ts_70 tw_15 tw_1456) rfl rfl rfl (by decide +kernel) ⟨Nat.le_of_ble_eq_true rfl, Nat.le_of_ble_eq_true rfl⟩) (tg_preV hw hK hSD hA (ci := 10) (q := (RX10, TX10, 49)) rfl h_p0 rfl) rfl rfl hl.1 rfl (lv_room (Nat.le_of_ble_eq_true rfl)) dX10_holds_267 ⟨Nat.le_of_ble_eq_true rfl, Nat.le_of_ble_eq_true rfl⟩) hw hA (fun v_31  H locs hp_v_31 hw => ?_)
                    have r_v_31 : RI v_31 (-2147483648) 2147483647 := hp_v_31.1
                    refine lv_goto (tgt := 312) hx hb dX10_holds_270 (by decide) ?_
                    exact B312 v_7 v_10 v_12 v_26 v_31 _ _ ls r_p1 r_p2 r_v_7 r_v_10 r_v_12 (r_v_26.to (by decide)) r_v_31 hw (lv_sub hl [4, 5, 6, 3, 2, 1, 0] rfl)
abbrev wr_X10_holds__33 : List (Nat × Nat) := []
abbrev wa_X10_holds__33 : List Nat := []
set_option maxHeartbeats 4000000 in
set_option maxRecDepth 100000 in
theorem c_X10_holds__33 (l : Launch) (D : va_G) (cy : Nat → ClassId) (z : Nat → Nat) (sz : Nat) (Ps : PSI) (w0 : va_W) (hT : HT cy GG Ps w0) (p0 : Nat) (p1 : Int32) (p2 : Int32) (h_p0 : (p0, 55) ∈ Ps) (r_p1 : RI p1 0 26) (r_p2 : RI p2 0 5) : Met l yX10_holds (Cond.code yX10_holds cX10_holds 8 (some .boolean) :: gT) ({ frames := 29, cells := 0, slots := 0, locals := 5800 } : Room) (va_Pc [.ref p0, .int p1, .int p2] (PRE D cy z w0 sz)) (va_Qi (fun (r : Int32) (u : Unit) => RI r 0 1 ∧ (r = 0 → True) ∧ (¬ r = 0 → True)) (BB D cy (va_A w0 sz) (fun (u : Unit) => w0)) (va_A w0 sz)) 0 0 (va_A w0 sz) := by
  refine Met.ofW (cc := cX10_holds) (maxL := 8) (ret := (some .boolean)) (by decide) rfl ?_
  intro p e s m args below meth c s₁ B hml hv
  obtain ⟨rfl, hsz, hP, hK, hD0, hSD⟩ := hv
  have hx := B.exec
  have hb := B.bytes
  have hr := B.returns
  have hlocks := B.notSynchronized
  have hts : ∀ w ∈ gT, w.before _ s = true := fun w h => atoms_spec (ws := Cond.code yX10_holds cX10_holds 8 (some .boolean) :: gT) B.pre w (List.mem_cons_of_mem _ h)
  have hown : s.vm.findClass RX10 = some m.cls := findClass_of_methodNamed B.named
  subst hsz
  have hD := hD0.self (sz := s.heap.size)
  generalize hAe : va_A w0 s.heap.size = A at hD hSD ⊢
  have hA : ∀ q : Nat, s.heap.size ≤ q → A q := fun q h => by rw [← hAe]; exact Or.inr h
  have hl := lv_entry ([.ref p0, .int p1, .int p2]) (n := 8) (Nat.le_of_ble_eq_true rfl)
  rw [lg_entry_eq]
  generalize (lg_sl ([.ref p0, .int p1, .int p2]) ++ List.replicate (8 - (lg_sl ([.ref p0, .int p1, .int p2])).length) Slot.unset).toArray = ls at hl ⊢
  have hl : lv_has ls 8 [(0, .ref p0), (1, .int p1), (2, .int p2)] := hl
  refine nameQ (fun Q hQ => ?_)
  have hw : WD D cy GG A s wr_X10_holds__33 wa_X10_holds__33 Ps w0 Ps w0 s.heap [] := ⟨hT, hP, hD, va_S.rf, FR.rf, hT.1, [], (List.append_nil _).symm⟩
  have B312 : ∀ (x3 : Int32) (x4 : Int32) (x5 : Int32) (x6 : Int32) (y0 : Int32) (H : Heap) (locs : List Loc) (ls : Array Slot), RI p1 0 26 → RI p2 0 5 → RI x3 174 278 → RI x4 (-2147483648) 2147483647 → RI x5 (-2147483648) 2147483647 → RI x6 (-2147483648) 2147483647 → RI y0 (-2147483648) 2147483647 → WD D cy GG A s wr_X10_holds__33 wa_X10_holds__33 Ps w0 Ps w0 H locs → lv_has ls 8 [(0, .ref p0), (1, .int p1), (2, .int p2), (3, .int x3), (4, .int x4), (5, .int x5), (6, .int x6)] → W p l e (headSpec (Cond.code yX10_holds cX10_holds 8 (some .boolean) :: gT) ({ frames := 29, cells := 0, slots := 0, locals := 5800 } : Room)).room s m ([.ref p0, .int p1, .int p2] : List Value).toArray below meth c H locs 0 0 Q (F0 m 312 ls [.int y0]) := by
    intro x3 x4 x5 x6 y0 H locs ls r_p1 r_p2 r_x3 r_x4 r_x5 r_x6 r_y0 hw hl
    refine lv_istore (lv' := [(7, .int y0), (0, .ref p0), (1, .int p1), (2, .int p2), (3, .int x3), (4, .int x4), (5, .int x5), (6, .int x6)]) hx hb dX10_holds_312 hl (by decide) rfl (fun ls hl => ?_)
    refine lv_aload_n hx hb dX10_holds_314 rfl (lv_at hl 1 rfl) ?_
    refine tg_get (ci := 10) (ts := ty_MODEL) (C := RX10) (T := TX10) (N := 49) hx hb hts inX10 hown hK hw h_p0 rfl rfl 14 (by decide) (hts _ tw_1151) (fun _ h9 => h9) (ft := vR 34) rfl dX10_holds_315 (fun u_1 hv_u_1 m_u_1 => ?_)
    obtain ⟨vu_1, rfl, h_vu_1⟩ := hv_u_1
    refine lv_iload_n hx hb dX10_holds_318 rfl (lv_at hl 4 rfl) ?_
    refine lv_iconst (v := 3) hx hb dX10_holds_319 (by decide) ?_
    refine lv_iadd hx hb dX10_holds_320 (lv_topi (fun v_2 e_v_2 => ?_))
    obtain ⟨t_v_2, r_v_2⟩ := tq_add (lo := 177) (hi := 281) r_x3 rl_3 (by decide +kernel) e_v_2
    have t_v_2 : v_2.toInt = x3.toInt + 3 := t_v_2
    refine tg_iald (lo := (-2147483648)) (hi := 2147483647) hx hb hK hw h_vu_1 rfl 177 281 r_v_2 (by decide) (by decide +kernel) dX10_holds_321 (fun v_3 r_v_3 m_v_3 o_v_3 => ?_)
    refine lv_bipush (v := 60) hx hb dX10_holds_322 (by decide) ?_
    refine lv_icmp_ne (tgt := 342) hx hb dX10_holds_324 (by decide) (fun c_324 => ?_) (fun c_324 => ?_)
    · refine lv_aload_n hx hb dX10_holds_342 rfl (lv_at hl 1 rfl) ?_
      refine tg_mem (ci := 10) (C := RX10) (T := TX10) (N := 49) hx hb hts inX10 hown hK hw 14 m_u_1 rfl (by decide) (hts _ tw_1151) (fun _ h9 => h9) dX10_holds_343 ?_
      refine lv_iload_n hx hb dX10_holds_346 rfl (lv_at hl 4 rfl) ?_
      refine lv_iconst (v := 3) hx hb dX10_holds_347 (by decide) ?_
      refine lv_iadd hx hb dX10_holds_348 (lv_topi (fun v_4 e_v_4 => ?_))
      obtain ⟨t_v_4, r_v_4⟩ := tq_add (lo := 177) (hi := 281) r_x3 rl_3 (by decide +kernel) e_v_4
      have t_v_4 : v_4.toInt = x3.toInt + 3 := t_v_4
      refine tg_iald (lo := (-2147483648)) (hi := 2147483647) hx hb hK hw h_vu_1 rfl 177 281 r_v_4 (by decide) (by decide +kernel) dX10_holds_349 (fun v_5 r_v_5 m_v_5 o_v_5 => ?_)
      refine lv_bipush (v := 61) hx hb dX10_holds_350 (by decide) ?_
      refine lv_icmp_ne (tgt := 370) hx hb dX10_holds_352 (by decide) (fun c_352 => ?_) (fun c_352 => ?_)
      · refine lv_iload hx hb dX10_holds_370 (lv_at hl 0 rfl) ?_
        refine lv_iload hx hb dX10_holds_372 (lv_at hl 6 rfl) ?_
        refine lv_icmp_le (tgt := 381) hx hb dX10_holds_374 (by decide) (fun c_374 => ?_) (fun c_374 => ?_)
        · refine lv_iconst (v := 0) hx hb dX10_holds_381 (by decide) ?_
          subst hQ
          exact W.zret (v := 0) hx hb hr (rfl) (fun t ht hW => ⟨⟨0, (), rfl, ⟨rl_0.to (by decide), (fun h0 => trivial), (fun _ => trivial)⟩, by rw [ht]; exact hw.2.1, va_K.moved hW.alike hK, hw.2.2.1⟩, hw.2.2.2.1.F ht⟩) hw.2.2.2.1.2.2 dX10_holds_382
        · have r_x5 : RI x5 (-2147483648) 2147483646 := rc_lt1 r_x5 r_y0 (ti_nle c_374) (by decide)
          have r_y0 : RI y0 (-2147483647) 2147483647 := rc_lt2 r_x5 r_y0 (ti_nle c_374) (by decide)
          refine lv_iconst (v := 1) hx hb dX10_holds_377 (by decide) ?_
          refine lv_goto (tgt := 382) hx hb dX10_holds_378 (by decide) ?_
          subst hQ
          exact W.zret (v := 1) hx hb hr (rfl) (fun t ht hW => ⟨⟨1, (), rfl, ⟨rl_1.to (by decide), (fun _ => trivial), (fun h0 => trivial)⟩, by rw [ht]; exact hw.2.1, va_K.moved hW.alike hK, hw.2.2.1⟩, hw.2.2.2.1.F ht⟩) hw.2.2.2.1.2.2 dX10_holds_382
      · have r_v_5 : RI v_5 61 61 := rc_eq1 r_v_5 rl_61 (ti_eq c_352) (by decide)
        refine lv_iload hx hb dX10_holds_355 (lv_at hl 0 rfl) ?_
        refine lv_iload hx hb dX10_holds_357 (lv_at hl 6 rfl) ?_
        refine lv_icmp_ne (tgt := 366) hx hb dX10_holds_359 (by decide) (fun c_359 => ?_) (fun c_359 => ?_)
        · refine lv_iconst (v := 0) hx hb dX10_holds_366 (by decide) ?_
          refine lv_goto (tgt := 382) hx hb dX10_holds_367 (by decide) ?_
          subst hQ
          exact W.zret (v := 0) hx hb hr (rfl) (fun t ht hW => ⟨⟨0, (), rfl, ⟨rl_0.to (by decide), (fun h0 => trivial), (fun _ => trivial)⟩, by rw [ht]; exact hw.2.1, va_K.moved hW.alike hK, hw.2.2.1⟩, hw.2.2.2.1.F ht⟩) hw.2.2.2.1.2.2 dX10_holds_382
        · refine lv_iconst (v := 1) hx hb dX10_holds_362 (by decide) ?_
          refine lv_goto (tgt := 382) hx hb dX10_holds_363 (by decide) ?_
          subst hQ
          exact W.zret (v := 1) hx hb hr (rfl) (fun t ht hW => ⟨⟨1, (), rfl, ⟨rl_1.to (by decide), (fun _ => trivial), (fun h0 => trivial)⟩, by rw [ht]; exact hw.2.1, va_K.moved hW.alike hK, hw.2.2.1⟩, hw.2.2.2.1.F ht⟩) hw.2.2.2.1.2.2 dX10_holds_382
    · have r_v_3 : RI v_3 60 60 := rc_eq1 r_v_3 rl_60 (ti_eq c_324) (by decide)
      refine lv_iload hx hb dX10_holds_327 (lv_at hl 0 rfl) ?_
      refine lv_iload hx hb dX10_holds_329 (lv_at hl 6 rfl) ?_
      refine lv_icmp_ge (tgt := 338) hx hb dX10_holds_331 (by decide) (fun c_331 => ?_) (fun c_331 => ?_)
      · refine lv_iconst (v := 0) hx hb dX10_holds_338 (by decide) ?_
        refine lv_goto (tgt := 382) hx hb dX10_holds_339 (by decide) ?_
        subst hQ
        exact W.zret (v := 0) hx hb hr (rfl) (fun t ht hW => ⟨⟨0, (), rfl, ⟨rl_0.to (by decide), (fun h0 => trivial), (fun _ => trivial)⟩, by rw [ht]; exact hw.2.1, va_K.moved hW.alike hK, hw.2.2.1⟩, hw.2.2.2.1.F ht⟩) hw.2.2.2.1.2.2 dX10_holds_382
      · have r_y0 : RI y0 (-2147483648) 2147483646 := rc_lt1 r_y0 r_x5 (ti_nle c_331) (by decide)
        have r_x5 : RI x5 (-2147483647) 2147483647 := rc_lt2 r_y0 r_x5 (ti_nle c_331) (by decide)
        refine lv_iconst (v := 1) hx hb dX10_holds_334 (by decide) ?_
        refine lv_goto (tgt := 382) hx hb dX10_holds_335 (by decide) ?_
        subst hQ
        exact W.zret (v := 1) hx hb hr (rfl) (fun t ht hW => ⟨⟨1, (), rfl, ⟨rl_1.to (by decide), (fun _ => trivial), (fun h0 => trivial)⟩, by rw [ht]; exact hw.2.1, va_K.moved hW.alike hK, hw.2.2.1⟩, hw.2.2.2.1.F ht⟩) hw.2.2.2.1.2.2 dX10_holds_382
  refine lv_sipush (v := 174) hx hb dX10_holds_0 (by decide) ?_
  refine lv_iconst (v := 4) hx hb dX10_holds_3 (by decide) ?_
  refine lv_iload_n hx hb dX10_holds_4 rfl (lv_at hl 1 rfl) ?_
  refine lv_imul hx hb dX10_holds_5 (lv_topi (fun v_6 e_v_6 => ?_))
  obtain ⟨t_v_6, r_v_6⟩ := tq_mul (lo := 0) (hi := 104) rl_4 r_p1 (by decide +kernel) e_v_6
  have t_v_6 : v_6.toInt = 4 * p1.toInt := t_v_6
  refine lv_iadd hx hb dX10_holds_6 (lv_topi (fun v_7 e_v_7 => ?_))
  obtain ⟨t_v_7, r_v_7⟩ := tq_add (lo := 174) (hi := 278) rl_174 r_v_6 (by decide +kernel) e_v_7
  have t_v_7 : v_7.toInt = 174 + v_6.toInt := t_v_7
  refine lv_istore_n (lv' := [(3, .int v_7), (0, .ref p0), (1, .int p1), (2, .int p2)]) hx hb dX10_holds_7 rfl hl (by decide) rfl (fun ls hl => ?_)
  refine lv_aload_n hx hb dX10_holds_8 rfl (lv_at hl 1 rfl) ?_
  refine tg_get (ci := 10) (ts := ty_MODEL) (C := RX10) (T := TX10) (N := 49) hx hb hts inX10 hown hK hw h_p0 rfl rfl 14 (by decide) (hts _ tw_1151) (fun _ h9 => h9) (ft := vR 34) rfl dX10_holds_9 (fun u_8 hv_u_8 m_u_8 => ?_)
  obtain ⟨vu_8, rfl, h_vu_8⟩ := hv_u_8
  refine lv_iload_n hx hb dX10_holds_12 rfl (lv_at hl 0 rfl) ?_
  refine lv_iconst (v := 1) hx hb dX10_holds_13 (by decide) ?_
  refine lv_iadd hx hb dX10_holds_14 (lv_topi (fun v_9 e_v_9 => ?_))
  obtain ⟨t_v_9, r_v_9⟩ := tq_add (lo := 175) (hi := 279) r_v_7 rl_1 (by decide +kernel) e_v_9
  have t_v_9 : v_9.toInt = v_7.toInt + 1 := t_v_9
  refine tg_iald (lo := (-2147483648)) (hi := 2147483647) hx hb hK hw h_vu_8 rfl 175 279 r_v_9 (by decide) (by decide +kernel) dX10_holds_15 (fun v_10 r_v_10 m_v_10 o_v_10 => ?_)
  refine lv_istore (lv' := [(4, .int v_10), (3, .int v_7), (0, .ref p0), (1, .int p1), (2, .int p2)]) hx hb dX10_holds_16 hl (by decide) rfl (fun ls hl => ?_)
  refine lv_aload_n hx hb dX10_holds_18 rfl (lv_at hl 2 rfl) ?_
  refine tg_mem (ci := 10) (C := RX10) (T := TX10) (N := 49) hx hb hts inX10 hown hK hw 14 m_u_8 rfl (by decide) (hts _ tw_1151) (fun _ h9 => h9) dX10_holds_19 ?_
  refine lv_iload_n hx hb dX10_holds_22 rfl (lv_at hl 1 rfl) ?_
  refine lv_iconst (v := 2) hx hb dX10_holds_23 (by decide) ?_
  refine lv_iadd hx hb dX10_holds_24 (lv_topi (fun v_11 e_v_11 => ?_))
  obtain ⟨t_v_11, r_v_11⟩ := tq_add (lo := 176) (hi := 280) r_v_7 rl_2 (by decide +kernel) e_v_11
  have t_v_11 : v_11.toInt = v_7.toInt + 2 := t_v_11
  refine tg_iald (lo := (-2147483648)) (hi := 2147483647) hx hb hK hw h_vu_8 rfl 176 280 r_v_11 (by decide) (by decide +kernel) dX10_holds_25 (fun v_12 r_v_12 m_v_12 o_v_12 => ?_)
  refine lv_istore (lv' := [(5, .int v_12), (4, .int v_10), (3, .int v_7), (0, .ref p0), (1, .int p1), (2, .int p2)]) hx hb dX10_holds_26 hl (by decide) rfl (fun ls hl => ?_)
  refine lv_aload_n hx hb dX10_holds_28 rfl (lv_at hl 3 rfl) ?_
  refine tg_mem (ci := 10) (C := RX10) (T := TX10) (N := 49) hx hb hts inX10 hown hK hw 14 m_u_8 rfl (by decide) (hts _ tw_1151) (fun _ h9 => h9) dX10_holds_29 ?_
  refine lv_iload_n hx hb dX10_holds_32 rfl (lv_at hl 2 rfl) ?_
  refine tg_iald (lo := (-2147483648)) (hi := 2147483647) hx hb hK hw h_vu_8 rfl 174 278 r_v_7 (by decide) (by decide +kernel) dX10_holds_33 (fun v_13 r_v_13 m_v_13 o_v_13 => ?_)
  by_cases k_34_1 : v_13 = 1
  · refine lv_lookup (tgt := 108) (off := 74) hx hb dX10_holds_34 (by decide) (by rw [k_34_1]; decide) (by decide) ?_
    have r_v_13 : RI v_13 1 1 := by rw [k_34_1]; exact rl_1
    have g_v_10 : 0 ≤ v_10.toInt ∧ v_10.toInt < p1.toInt := by obtain ⟨_, f9, e8, e7, q9, _⟩ := ax_of (k := 14) (t := 34) hw h_p0 rfl (fun _ => rfl); cases FLD.inj hw.2.2.1 e8 m_u_8; have t9 := ARR.ael hw.2.2.1 e7 m_v_13; have x9 := ARR.ael hw.2.2.1 e7 m_v_10; rw [show Int32.toNatClampNeg v_7 = 174 + 4 * Int32.toNatClampNeg p1 from (by have k1 := r_v_7.cl (by decide); have k2 := r_p1.cl (by decide); omega)] at t9; rw [show Int32.toNatClampNeg v_9 = 175 + 4 * Int32.toNatClampNeg p1 from (by have k1 := r_v_9.cl (by decide); have k2 := r_p1.cl (by decide); omega)] at x9; exact RN_child q9 (r_p1.to (by decide)) t9 x9 (r_v_13.to (by decide))
    have r_v_10 : RI v_10 0 25 := ⟨g_v_10.1, by have k1 := r_p1.2; omega⟩
    refine lv_aload_n hx hb dX10_holds_108 rfl (lv_at hl 3 rfl) ?_
    refine lv_iload hx hb dX10_holds_109 (lv_at hl 1 rfl) ?_
    refine lv_iload_n hx hb dX10_holds_111 rfl (lv_at hl 5 rfl) ?_
    refine tk_ir (va_runV (As := [.int v_10, .int p2]) (rest := []) ⟨hx, hb, hml, hown, hts⟩ (c_X10_holds__34 l D cy z s.heap.size Ps w0 hw.1 p0 v_10 p2 h_p0 r_v_10 r_p2) (cwV 2 hts (gV tw_1787 tw_1789 ts_119 tw_15 tw_1790) rfl rfl rfl (by decide +kernel) ⟨Nat.le_of_ble_eq_true rfl, Nat.le_of_ble_eq_true rfl⟩) (tg_preV hw hK hSD hA (ci := 10) (q := (RX10, TX10, 49)) rfl h_p0 rfl) rfl rfl hl.1 rfl (lv_room (Nat.le_of_ble_eq_true rfl)) dX10_holds_112 ⟨Nat.le_of_ble_eq_true rfl, Nat.le_of_ble_eq_true rfl⟩) hw hA (fun v_14  H locs hp_v_14 hw => ?_)
    have r_v_14 : RI v_14 0 1 := hp_v_14.1
    refine lv_if_ne (tgt := 122) hx hb dX10_holds_115 (by decide) (fun c_115 => ?_) (fun c_115 => ?_)
    · have r_v_14 : RI v_14 1 1 := rc_neL r_v_14 rl_0 (ti_ne c_115) (by decide)
      refine lv_iconst (v := 0) hx hb dX10_holds_122 (by decide) ?_
      subst hQ
      exact W.zret (v := 0) hx hb hr (rfl) (fun t ht hW => ⟨⟨0, (), rfl, ⟨rl_0.to (by decide), (fun h0 => trivial), (fun _ => trivial)⟩, by rw [ht]; exact hw.2.1, va_K.moved hW.alike hK, hw.2.2.1⟩, hw.2.2.2.1.F ht⟩) hw.2.2.2.1.2.2 dX10_holds_123
    · have r_v_14 : RI v_14 0 0 := rc_eq1 r_v_14 rl_0 (ti_eq c_115) (by decide)
      refine lv_iconst (v := 1) hx hb dX10_holds_118 (by decide) ?_
      refine lv_goto (tgt := 123) hx hb dX10_holds_119 (by decide) ?_
      subst hQ
      exact W.zret (v := 1) hx hb hr (rfl) (fun t ht hW => ⟨⟨1, (), rfl, ⟨rl_1.to (by decide), (fun _ => trivial), (fun h0 => trivial)⟩, by rw [ht]; exact hw.2.1, va_K.moved hW.alike hK, hw.2.2.1⟩, hw.2.2.2.1.F ht⟩) hw.2.2.2.1.2.2 dX10_holds_123
  · by_cases k_34_2 : v_13 = 2
    · refine lv_lookup (tgt := 124) (off := 90) hx hb dX10_holds_34 (by decide) (by rw [k_34_2]; decide) (by decide) ?_
      have r_v_13 : RI v_13 2 2 := by rw [k_34_2]; exact rl_2
      have g_v_10 : 0 ≤ v_10.toInt ∧ v_10.toInt < p1.toInt := by obtain ⟨_, f9, e8, e7, q9, _⟩ := ax_of (k := 14) (t := 34) hw h_p0 rfl (fun _ => rfl); cases FLD.inj hw.2.2.1 e8 m_u_8; have t9 := ARR.ael hw.2.2.1 e7 m_v_13; have x9 := ARR.ael hw.2.2.1 e7 m_v_10; rw [show Int32.toNatClampNeg v_7 = 174 + 4 * Int32.toNatClampNeg p1 from (by have k1 := r_v_7.cl (by decide); have k2 := r_p1.cl (by decide); omega)] at t9; rw [show Int32.toNatClampNeg v_9 = 175 + 4 * Int32.toNatClampNeg p1 from (by have k1 := r_v_9.cl (by decide); have k2 := r_p1.cl (by decide); omega)] at x9; exact RN_child q9 (r_p1.to (by decide)) t9 x9 (r_v_13.to (by decide))
      have r_v_10 : RI v_10 0 25 := ⟨g_v_10.1, by have k1 := r_p1.2; omega⟩
      have g_v_12 : 0 ≤ v_12.toInt ∧ v_12.toInt < p1.toInt := by obtain ⟨_, f9, e8, e7, q9, _⟩ := ax_of (k := 14) (t := 34) hw h_p0 rfl (fun _ => rfl); cases FLD.inj hw.2.2.1 e8 m_u_8; have t9 := ARR.ael hw.2.2.1 e7 m_v_13; have x9 := ARR.ael hw.2.2.1 e7 m_v_12; rw [show Int32.toNatClampNeg v_7 = 174 + 4 * Int32.toNatClampNeg p1 from (by have k1 := r_v_7.cl (by decide); have k2 := r_p1.cl (by decide); omega)] at t9; rw [show Int32.toNatClampNeg v_11 = 176 + 4 * Int32.toNatClampNeg p1 from (by have k1 := r_v_11.cl (by decide); have k2 := r_p1.cl (by decide); omega)] at x9; exact RN_child2 q9 (r_p1.to (by decide)) t9 x9 (r_v_13.to (by decide))
      have r_v_12 : RI v_12 0 25 := ⟨g_v_12.1, by have k1 := r_p1.2; omega⟩
      refine lv_aload_n hx hb dX10_holds_124 rfl (lv_at hl 3 rfl) ?_
      refine lv_iload hx hb dX10_holds_125 (lv_at hl 1 rfl) ?_
      refine lv_iload_n hx hb dX10_holds_127 rfl (lv_at hl 5 rfl) ?_
      refine tk_ir (va_runV (As := [.int v_10, .int p2]) (rest := []) ⟨hx, hb, hml, hown, hts⟩ (c_X10_holds__34 l D cy z s.heap.size Ps w0 hw.1 p0 v_10 p2 h_p0 r_v_10 r_p2) (cwV 2 hts (gV tw_1787 tw_1789 ts_119 tw_15 tw_1790) rfl rfl rfl (by decide +kernel) ⟨Nat.le_of_ble_eq_true rfl, Nat.le_of_ble_eq_true rfl⟩) (tg_preV hw hK hSD hA (ci := 10) (q := (RX10, TX10, 49)) rfl h_p0 rfl) rfl rfl hl.1 rfl (lv_room (Nat.le_of_ble_eq_true rfl)) dX10_holds_128 ⟨Nat.le_of_ble_eq_true rfl, Nat.le_of_ble_eq_true rfl⟩) hw hA (fun v_15  H locs hp_v_15 hw => ?_)
      have r_v_15 : RI v_15 0 1 := hp_v_15.1
      refine lv_if_eq (tgt := 148) hx hb dX10_holds_131 (by decide) (fun c_131 => ?_) (fun c_131 => ?_)
      · have r_v_15 : RI v_15 0 0 := rc_eq1 r_v_15 rl_0 (ti_eq c_131) (by decide)
        refine lv_iconst (v := 0) hx hb dX10_holds_148 (by decide) ?_
        subst hQ
        exact W.zret (v := 0) hx hb hr (rfl) (fun t ht hW => ⟨⟨0, (), rfl, ⟨rl_0.to (by decide), (fun h0 => trivial), (fun _ => trivial)⟩, by rw [ht]; exact hw.2.1, va_K.moved hW.alike hK, hw.2.2.1⟩, hw.2.2.2.1.F ht⟩) hw.2.2.2.1.2.2 dX10_holds_149
      · have r_v_15 : RI v_15 1 1 := rc_neL r_v_15 rl_0 (ti_ne c_131) (by decide)
        refine lv_aload_n hx hb dX10_holds_134 rfl (lv_at hl 3 rfl) ?_
        refine lv_iload hx hb dX10_holds_135 (lv_at hl 0 rfl) ?_
        refine lv_iload_n hx hb dX10_holds_137 rfl (lv_at hl 5 rfl) ?_
        refine tk_ir (va_runV (As := [.int v_12, .int p2]) (rest := []) ⟨hx, hb, hml, hown, hts⟩ (c_X10_holds__34 l D cy z H.size Ps w0 hw.1 p0 v_12 p2 h_p0 r_v_12 r_p2) (cwV 2 hts (gV tw_1787 tw_1789 ts_119 tw_15 tw_1790) rfl rfl rfl (by decide +kernel) ⟨Nat.le_of_ble_eq_true rfl, Nat.le_of_ble_eq_true rfl⟩) (tg_preV hw hK hSD hA (ci := 10) (q := (RX10, TX10, 49)) rfl h_p0 rfl) rfl rfl hl.1 rfl (lv_room (Nat.le_of_ble_eq_true rfl)) dX10_holds_138 ⟨Nat.le_of_ble_eq_true rfl, Nat.le_of_ble_eq_true rfl⟩) hw hA (fun v_16  H locs hp_v_16 hw => ?_)
        have r_v_16 : RI v_16 0 1 := hp_v_16.1
        refine lv_if_eq (tgt := 148) hx hb dX10_holds_141 (by decide) (fun c_141 => ?_) (fun c_141 => ?_)
        · have r_v_16 : RI v_16 0 0 := rc_eq1 r_v_16 rl_0 (ti_eq c_141) (by decide)
          refine lv_iconst (v := 0) hx hb dX10_holds_148 (by decide) ?_
          subst hQ
          exact W.zret (v := 0) hx hb hr (rfl) (fun t ht hW => ⟨⟨0, (), rfl, ⟨rl_0.to (by decide), (fun h0 => trivial), (fun _ => trivial)⟩, by rw [ht]; exact hw.2.1, va_K.moved hW.alike hK, hw.2.2.1⟩, hw.2.2.2.1.F ht⟩) hw.2.2.2.1.2.2 dX10_holds_149
        · have r_v_16 : RI v_16 1 1 := rc_neL r_v_16 rl_0 (ti_ne c_141) (by decide)
          refine lv_iconst (v := 1) hx hb dX10_holds_144 (by decide) ?_
          refine lv_goto (tgt := 149) hx hb dX10_holds_145 (by decide) ?_
          subst hQ
          exact W.zret (v := 1) hx hb hr (rfl) (fun t ht hW => ⟨⟨1, (), rfl, ⟨rl_1.to (by decide), (fun _ => trivial), (fun h0 => trivial)⟩, by rw [ht]; exact hw.2.1, va_K.moved hW.alike hK, hw.2.2.1⟩, hw.2.2.2.1.F ht⟩) hw.2.2.2.1.2.2 dX10_holds_149
    · by_cases k_34_3 : v_13 = 3
      · refine lv_lookup (tgt := 150) (off := 116) hx hb dX10_holds_34 (by decide) (by rw [k_34_3]; decide) (by decide) ?_
        have r_v_13 : RI v_13 3 3 := by rw [k_34_3]; exact rl_3
        have g_v_10 : 0 ≤ v_10.toInt ∧ v_10.toInt < p1.toInt := by obtain ⟨_, f9, e8, e7, q9, _⟩ := ax_of (k := 14) (t := 34) hw h_p0 rfl (fun _ => rfl); cases FLD.inj hw.2.2.1 e8 m_u_8; have t9 := ARR.ael hw.2.2.1 e7 m_v_13; have x9 := ARR.ael hw.2.2.1 e7 m_v_10; rw [show Int32.toNatClampNeg v_7 = 174 + 4 * Int32.toNatClampNeg p1 from (by have k1 := r_v_7.cl (by decide); have k2 := r_p1.cl (by decide); omega)] at t9; rw [show Int32.toNatClampNeg v_9 = 175 + 4 * Int32.toNatClampNeg p1 from (by have k1 := r_v_9.cl (by decide); have k2 := r_p1.cl (by decide); omega)] at x9; exact RN_child q9 (r_p1.to (by decide)) t9 x9 (r_v_13.to (by decide))
        have r_v_10 : RI v_10 0 25 := ⟨g_v_10.1, by have k1 := r_p1.2; omega⟩
        have g_v_12 : 0 ≤ v_12.toInt ∧ v_12.toInt < p1.toInt := by obtain ⟨_, f9, e8, e7, q9, _⟩ := ax_of (k := 14) (t := 34) hw h_p0 rfl (fun _ => rfl); cases FLD.inj hw.2.2.1 e8 m_u_8; have t9 := ARR.ael hw.2.2.1 e7 m_v_13; have x9 := ARR.ael hw.2.2.1 e7 m_v_12; rw [show Int32.toNatClampNeg v_7 = 174 + 4 * Int32.toNatClampNeg p1 from (by have k1 := r_v_7.cl (by decide); have k2 := r_p1.cl (by decide); omega)] at t9; rw [show Int32.toNatClampNeg v_11 = 176 + 4 * Int32.toNatClampNeg p1 from (by have k1 := r_v_11.cl (by decide); have k2 := r_p1.cl (by decide); omega)] at x9; exact RN_child2 q9 (r_p1.to (by decide)) t9 x9 (r_v_13.to (by decide))
        have r_v_12 : RI v_12 0 25 := ⟨g_v_12.1, by have k1 := r_p1.2; omega⟩
        refine lv_aload_n hx hb dX10_holds_150 rfl (lv_at hl 3 rfl) ?_
        refine lv_iload hx hb dX10_holds_151 (lv_at hl 1 rfl) ?_
        refine lv_iload_n hx hb dX10_holds_153 rfl (lv_at hl 5 rfl) ?_
        refine tk_ir (va_runV (As := [.int v_10, .int p2]) (rest := []) ⟨hx, hb, hml, hown, hts⟩ (c_X10_holds__34 l D cy z s.heap.size Ps w0 hw.1 p0 v_10 p2 h_p0 r_v_10 r_p2) (cwV 2 hts (gV tw_1787 tw_1789 ts_119 tw_15 tw_1790) rfl rfl rfl (by decide +kernel) ⟨Nat.le_of_ble_eq_true rfl, Nat.le_of_ble_eq_true rfl⟩) (tg_preV hw hK hSD hA (ci := 10) (q := (RX10, TX10, 49)) rfl h_p0 rfl) rfl rfl hl.1 rfl (lv_room (Nat.le_of_ble_eq_true rfl)) dX10_holds_154 ⟨Nat.le_of_ble_eq_true rfl, Nat.le_of_ble_eq_true rfl⟩) hw hA (fun v_17  H locs hp_v_17 hw => ?_)
        have r_v_17 : RI v_17 0 1 := hp_v_17.1
        refine lv_if_ne (tgt := 170) hx hb dX10_holds_157 (by decide) (fun c_157 => ?_) (fun c_157 => ?_)
        · have r_v_17 : RI v_17 1 1 := rc_neL r_v_17 rl_0 (ti_ne c_157) (by decide)
          refine lv_iconst (v := 1) hx hb dX10_holds_170 (by decide) ?_
          refine lv_goto (tgt := 175) hx hb dX10_holds_171 (by decide) ?_
          subst hQ
          exact W.zret (v := 1) hx hb hr (rfl) (fun t ht hW => ⟨⟨1, (), rfl, ⟨rl_1.to (by decide), (fun _ => trivial), (fun h0 => trivial)⟩, by rw [ht]; exact hw.2.1, va_K.moved hW.alike hK, hw.2.2.1⟩, hw.2.2.2.1.F ht⟩) hw.2.2.2.1.2.2 dX10_holds_175
        · have r_v_17 : RI v_17 0 0 := rc_eq1 r_v_17 rl_0 (ti_eq c_157) (by decide)
          refine lv_aload_n hx hb dX10_holds_160 rfl (lv_at hl 3 rfl) ?_
          refine lv_iload hx hb dX10_holds_161 (lv_at hl 0 rfl) ?_
          refine lv_iload_n hx hb dX10_holds_163 rfl (lv_at hl 5 rfl) ?_
          refine tk_ir (va_runV (As := [.int v_12, .int p2]) (rest := []) ⟨hx, hb, hml, hown, hts⟩ (c_X10_holds__34 l D cy z H.size Ps w0 hw.1 p0 v_12 p2 h_p0 r_v_12 r_p2) (cwV 2 hts (gV tw_1787 tw_1789 ts_119 tw_15 tw_1790) rfl rfl rfl (by decide +kernel) ⟨Nat.le_of_ble_eq_true rfl, Nat.le_of_ble_eq_true rfl⟩) (tg_preV hw hK hSD hA (ci := 10) (q := (RX10, TX10, 49)) rfl h_p0 rfl) rfl rfl hl.1 rfl (lv_room (Nat.le_of_ble_eq_true rfl)) dX10_holds_164 ⟨Nat.le_of_ble_eq_true rfl, Nat.le_of_ble_eq_true rfl⟩) hw hA (fun v_18  H locs hp_v_18 hw => ?_)
          have r_v_18 : RI v_18 0 1 := hp_v_18.1
          refine lv_if_eq (tgt := 174) hx hb dX10_holds_167 (by decide) (fun c_167 => ?_) (fun c_167 => ?_)
          · have r_v_18 : RI v_18 0 0 := rc_eq1 r_v_18 rl_0 (ti_eq c_167) (by decide)
            refine lv_iconst (v := 0) hx hb dX10_holds_174 (by decide) ?_
            subst hQ
            exact W.zret (v := 0) hx hb hr (rfl) (fun t ht hW => ⟨⟨0, (), rfl, ⟨rl_0.to (by decide), (fun h0 => trivial), (fun _ => trivial)⟩, by rw [ht]; exact hw.2.1, va_K.moved hW.alike hK, hw.2.2.1⟩, hw.2.2.2.1.F ht⟩) hw.2.2.2.1.2.2 dX10_holds_175
          · have r_v_18 : RI v_18 1 1 := rc_neL r_v_18 rl_0 (ti_ne c_167) (by decide)
            refine lv_iconst (v := 1) hx hb dX10_holds_170 (by decide) ?_
            refine lv_goto (tgt := 175) hx hb dX10_holds_171 (by decide) ?_
            subst hQ
            exact W.zret (v := 1) hx hb hr (rfl) (fun t ht hW => ⟨⟨1, (), rfl, ⟨rl_1.to (by decide), (fun _ => trivial), (fun h0 => trivial)⟩, by rw [ht]; exact hw.2.1, va_K.moved hW.alike hK, hw.2.2.1⟩, hw.2.2.2.1.F ht⟩) hw.2.2.2.1.2.2 dX10_holds_175
      · by_cases k_34_69 : v_13 = 69
        · refine lv_lookup (tgt := 176) (off := 142) hx hb dX10_holds_34 (by decide) (by rw [k_34_69]; decide) (by decide) ?_
          have r_v_13 : RI v_13 69 69 := by rw [k_34_69]; exact rl_69
          refine lv_aload_n hx hb dX10_holds_176 rfl (lv_at hl 3 rfl) ?_
          refine lv_iload_n hx hb dX10_holds_177 rfl (lv_at hl 5 rfl) ?_
          refine tk_ir (va_runV (As := [.int p2]) (rest := []) ⟨hx, hb, hml, hown, hts⟩ (c_X10_isOpen l D cy z s.heap.size Ps w0 hw.1 p0 p2 h_p0 (r_p2.to (by decide))) (cwV 1 hts (gV tw_1457 tw_1459 ts_71 tw_15 tw_1460) rfl rfl rfl (by decide +kernel) ⟨Nat.le_of_ble_eq_true rfl, Nat.le_of_ble_eq_true rfl⟩) (tg_preV hw hK hSD hA (ci := 10) (q := (RX10, TX10, 49)) rfl h_p0 rfl) rfl rfl hl.1 rfl (lv_room (Nat.le_of_ble_eq_true rfl)) dX10_holds_178 ⟨Nat.le_of_ble_eq_true rfl, Nat.le_of_ble_eq_true rfl⟩) hw hA (fun v_19  H locs hp_v_19 hw => ?_)
          have r_v_19 : RI v_19 0 1 := hp_v_19.1
          subst hQ
          exact W.zret (v := v_19) hx hb hr (tq_nz (r_v_19.to (by decide))) (fun t ht hW => ⟨⟨v_19, (), rfl, ⟨r_v_19.to (by decide), (fun h0 => trivial), (fun h0 => trivial)⟩, by rw [ht]; exact hw.2.1, va_K.moved hW.alike hK, hw.2.2.1⟩, hw.2.2.2.1.F ht⟩) hw.2.2.2.1.2.2 dX10_holds_181
        · by_cases k_34_70 : v_13 = 70
          · refine lv_lookup (tgt := 182) (off := 148) hx hb dX10_holds_34 (by decide) (by rw [k_34_70]; decide) (by decide) ?_
            have r_v_13 : RI v_13 70 70 := by rw [k_34_70]; exact rl_70
            refine lv_aload_n hx hb dX10_holds_182 rfl (lv_at hl 3 rfl) ?_
            refine lv_iload_n hx hb dX10_holds_183 rfl (lv_at hl 5 rfl) ?_
            refine tk_ir (va_runV (As := [.int p2]) (rest := []) ⟨hx, hb, hml, hown, hts⟩ (c_X10_whatIs l D cy z s.heap.size Ps w0 hw.1 p0 p2 h_p0 r_p2) (cwV 1 hts (gV tw_1449 tw_1451 ts_69 tw_15 tw_1452) rfl rfl rfl (by decide +kernel) ⟨Nat.le_of_ble_eq_true rfl, Nat.le_of_ble_eq_true rfl⟩) (tg_preV hw hK hSD hA (ci := 10) (q := (RX10, TX10, 49)) rfl h_p0 rfl) rfl rfl hl.1 rfl (lv_room (Nat.le_of_ble_eq_true rfl)) dX10_holds_184 ⟨Nat.le_of_ble_eq_true rfl, Nat.le_of_ble_eq_true rfl⟩) hw hA (fun v_20  H locs hp_v_20 hw => ?_)
            have r_v_20 : RI v_20 (-1) 5 := hp_v_20.1
            by_cases c9_v_20 : v_20.toInt < 0
            · have r_v_20 : RI v_20 (-1) (-1) := by unfold RI at r_v_20 ⊢; omega
              have x_NB_p0_p2 := (hp_v_20.2.2.2.2.1 (by omega)).1
              refine lv_iconst (v := (-1)) hx hb dX10_holds_187 (by decide) ?_
              refine lv_icmp_ne (tgt := 195) hx hb dX10_holds_188 (by decide) (fun c_188 => ?_) (fun c_188 => ?_)
              · exact absurd (r_v_20.eq.trans rl_m1.eq.symm) ((ti_ne c_188))
              · refine lv_iconst (v := 1) hx hb dX10_holds_191 (by decide) ?_
                refine lv_goto (tgt := 196) hx hb dX10_holds_192 (by decide) ?_
                subst hQ
                exact W.zret (v := 1) hx hb hr (rfl) (fun t ht hW => ⟨⟨1, (), rfl, ⟨rl_1.to (by decide), (fun _ => trivial), (fun h0 => trivial)⟩, by rw [ht]; exact hw.2.1, va_K.moved hW.alike hK, hw.2.2.1⟩, hw.2.2.2.1.F ht⟩) hw.2.2.2.1.2.2 dX10_holds_196
            · have r_v_20 : RI v_20 0 5 := by unfold RI at r_v_20 ⊢; omega
              have x_WB_p0_p2_v_20 := (hp_v_20.2.2.2.2.2 (by omega)).1
              refine lv_iconst (v := (-1)) hx hb dX10_holds_187 (by decide) ?_
              refine lv_icmp_ne (tgt := 195) hx hb dX10_holds_188 (by decide) (fun c_188 => ?_) (fun c_188 => ?_)
              · refine lv_iconst (v := 0) hx hb dX10_holds_195 (by decide) ?_
                subst hQ
                exact W.zret (v := 0) hx hb hr (rfl) (fun t ht hW => ⟨⟨0, (), rfl, ⟨rl_0.to (by decide), (fun h0 => trivial), (fun _ => trivial)⟩, by rw [ht]; exact hw.2.1, va_K.moved hW.alike hK, hw.2.2.1⟩, hw.2.2.2.1.F ht⟩) hw.2.2.2.1.2.2 dX10_holds_196
              · have r_v_20 : RI v_20 0 (-1) := rc_eq1 r_v_20 rl_m1 (ti_eq c_188) (by decide)
                exact (r_v_20.no (by decide)).elim
          · by_cases k_34_71 : v_13 = 71
            · refine lv_lookup (tgt := 197) (off := 163) hx hb dX10_holds_34 (by decide) (by rw [k_34_71]; decide) (by decide) ?_
              have r_v_13 : RI v_13 71 71 := by rw [k_34_71]; exact rl_71
              refine lv_aload_n hx hb dX10_holds_197 rfl (lv_at hl 3 rfl) ?_
              refine lv_iload_n hx hb dX10_holds_198 rfl (lv_at hl 5 rfl) ?_
              refine tk_ir (va_runV (As := [.int p2]) (rest := []) ⟨hx, hb, hml, hown, hts⟩ (c_X10_sittersOf l D cy z s.heap.size Ps w0 hw.1 p0 p2 h_p0 (r_p2.to (by decide))) (cwV 1 hts (gV tw_1461 tw_1463 ts_72 tw_15 tw_1464) rfl rfl rfl (by decide +kernel) ⟨Nat.le_of_ble_eq_true rfl, Nat.le_of_ble_eq_true rfl⟩) (tg_preV hw hK hSD hA (ci := 10) (q := (RX10, TX10, 49)) rfl h_p0 rfl) rfl rfl hl.1 rfl (lv_room (Nat.le_of_ble_eq_true rfl)) dX10_holds_199 ⟨Nat.le_of_ble_eq_true rfl, Nat.le_of_ble_eq_true rfl⟩) hw hA (fun v_21  H locs hp_v_21 hw => ?_)
              have r_v_21 : RI v_21 (-2147483648) 2147483647 := hp_v_21.1
              refine lv_if_eq (tgt := 209) hx hb dX10_holds_202 (by decide) (fun c_202 => ?_) (fun c_202 => ?_)
              · have r_v_21 : RI v_21 0 0 := rc_eq1 r_v_21 rl_0 (ti_eq c_202) (by decide)
                refine lv_iconst (v := 0) hx hb dX10_holds_209 (by decide) ?_
                subst hQ
                exact W.zret (v := 0) hx hb hr (rfl) (fun t ht hW => ⟨⟨0, (), rfl, ⟨rl_0.to (by decide), (fun h0 => trivial), (fun _ => trivial)⟩, by rw [ht]; exact hw.2.1, va_K.moved hW.alike hK, hw.2.2.1⟩, hw.2.2.2.1.F ht⟩) hw.2.2.2.1.2.2 dX10_holds_210
              · refine lv_iconst (v := 1) hx hb dX10_holds_205 (by decide) ?_
                refine lv_goto (tgt := 210) hx hb dX10_holds_206 (by decide) ?_
                subst hQ
                exact W.zret (v := 1) hx hb hr (rfl) (fun t ht hW => ⟨⟨1, (), rfl, ⟨rl_1.to (by decide), (fun _ => trivial), (fun h0 => trivial)⟩, by rw [ht]; exact hw.2.1, va_K.moved hW.alike hK, hw.2.2.1⟩, hw.2.2.2.1.F ht⟩) hw.2.2.2.1.2.2 dX10_holds_210
            · by_cases k_34_72 : v_13 = 72
              · refine lv_lookup (tgt := 211) (off := 177) hx hb dX10_holds_34 (by decide) (by rw [k_34_72]; decide) (by decide) ?_
                have r_v_13 : RI v_13 72 72 := by rw [k_34_72]; exact rl_72
                refine lv_aload_n hx hb dX10_holds_211 rfl (lv_at hl 3 rfl) ?_
                refine lv_iload_n hx hb dX10_holds_212 rfl (lv_at hl 5 rfl) ?_
                refine tk_ir (va_runV (As := [.int p2]) (rest := []) ⟨hx, hb, hml, hown, hts⟩ (c_X10_whatIs l D cy z s.heap.size Ps w0 hw.1 p0 p2 h_p0 r_p2) (cwV 1 hts (gV tw_1449 tw_1451 ts_69 tw_15 tw_1452) rfl rfl rfl (by decide +kernel) ⟨Nat.le_of_ble_eq_true rfl, Nat.le_of_ble_eq_true rfl⟩) (tg_preV hw hK hSD hA (ci := 10) (q := (RX10, TX10, 49)) rfl h_p0 rfl) rfl rfl hl.1 rfl (lv_room (Nat.le_of_ble_eq_true rfl)) dX10_holds_213 ⟨Nat.le_of_ble_eq_true rfl, Nat.le_of_ble_eq_true rfl⟩) hw hA (fun v_22  H locs hp_v_22 hw => ?_)
                have r_v_22 : RI v_22 (-1) 5 := hp_v_22.1
                by_cases c9_v_22 : v_22.toInt < 0
                · have r_v_22 : RI v_22 (-1) (-1) := by unfold RI at r_v_22 ⊢; omega
                  have x_NB_p0_p2 := (hp_v_22.2.2.2.2.1 (by omega)).1
                  refine lv_iload hx hb dX10_holds_216 (lv_at hl 1 rfl) ?_
                  refine lv_icmp_ne (tgt := 225) hx hb dX10_holds_218 (by decide) (fun c_218 => ?_) (fun c_218 => ?_)
                  · refine lv_iconst (v := 0) hx hb dX10_holds_225 (by decide) ?_
                    subst hQ
                    exact W.zret (v := 0) hx hb hr (rfl) (fun t ht hW => ⟨⟨0, (), rfl, ⟨rl_0.to (by decide), (fun h0 => trivial), (fun _ => trivial)⟩, by rw [ht]; exact hw.2.1, va_K.moved hW.alike hK, hw.2.2.1⟩, hw.2.2.2.1.F ht⟩) hw.2.2.2.1.2.2 dX10_holds_226
                  · have r_v_10 : RI v_10 (-1) (-1) := rc_eq2 r_v_22 r_v_10 (ti_eq c_218) (by decide)
                    refine lv_iconst (v := 1) hx hb dX10_holds_221 (by decide) ?_
                    refine lv_goto (tgt := 226) hx hb dX10_holds_222 (by decide) ?_
                    subst hQ
                    exact W.zret (v := 1) hx hb hr (rfl) (fun t ht hW => ⟨⟨1, (), rfl, ⟨rl_1.to (by decide), (fun _ => trivial), (fun h0 => trivial)⟩, by rw [ht]; exact hw.2.1, va_K.moved hW.alike hK, hw.2.2.1⟩, hw.2.2.2.1.F ht⟩) hw.2.2.2.1.2.2 dX10_holds_226
                · have r_v_22 : RI v_22 0 5 := by unfold RI at r_v_22 ⊢; omega
                  have x_WB_p0_p2_v_22 := (hp_v_22.2.2.2.2.2 (by omega)).1
                  refine lv_iload hx hb dX10_holds_216 (lv_at hl 1 rfl) ?_
                  refine lv_icmp_ne (tgt := 225) hx hb dX10_holds_218 (by decide) (fun c_218 => ?_) (fun c_218 => ?_)
                  · refine lv_iconst (v := 0) hx hb dX10_holds_225 (by decide) ?_
                    subst hQ
                    exact W.zret (v := 0) hx hb hr (rfl) (fun t ht hW => ⟨⟨0, (), rfl, ⟨rl_0.to (by decide), (fun h0 => trivial), (fun _ => trivial)⟩, by rw [ht]; exact hw.2.1, va_K.moved hW.alike hK, hw.2.2.1⟩, hw.2.2.2.1.F ht⟩) hw.2.2.2.1.2.2 dX10_holds_226
                  · have r_v_10 : RI v_10 0 5 := rc_eq2 r_v_22 r_v_10 (ti_eq c_218) (by decide)
                    refine lv_iconst (v := 1) hx hb dX10_holds_221 (by decide) ?_
                    refine lv_goto (tgt := 226) hx hb dX10_holds_222 (by decide) ?_
                    subst hQ
                    exact W.zret (v := 1) hx hb hr (rfl) (fun t ht hW => ⟨⟨1, (), rfl, ⟨rl_1.to (by decide), (fun _ => trivial), (fun h0 => trivial)⟩, by rw [ht]; exact hw.2.1, va_K.moved hW.alike hK, hw.2.2.1⟩, hw.2.2.2.1.F ht⟩) hw.2.2.2.1.2.2 dX10_holds_226
              · by_cases k_34_73 : v_13 = 73
                · refine lv_lookup (tgt := 227) (off := 193) hx hb dX10_holds_34 (by decide) (by rw [k_34_73]; decide) (by decide) ?_
                  have r_v_13 : RI v_13 73 73 := by rw [k_34_73]; exact rl_73
                  refine lv_aload_n hx hb dX10_holds_227 rfl (lv_at hl 3 rfl) ?_
                  refine tg_mem (ci := 10) (C := RX10) (T := TX10) (N := 49) hx hb hts inX10 hown hK hw 14 m_u_8 rfl (by decide) (hts _ tw_1151) (fun _ h9 => h9) dX10_holds_228 ?_
                  refine lv_bipush (v := 86) hx hb dX10_holds_231 (by decide) ?_
                  refine lv_iload_n hx hb dX10_holds_233 rfl (lv_at hl 5 rfl) ?_
                  refine lv_iadd hx hb dX10_holds_234 (lv_topi (fun v_23 e_v_23 => ?_))
                  obtain ⟨t_v_23, r_v_23⟩ := tq_add (lo := 86) (hi := 91) rl_86 r_p2 (by decide +kernel) e_v_23
                  have t_v_23 : v_23.toInt = 86 + p2.toInt := t_v_23
                  refine tg_iald (lo := (-2147483648)) (hi := 2147483647) hx hb hK hw h_vu_8 rfl 86 91 r_v_23 (by decide) (by decide +kernel) dX10_holds_235 (fun v_24 r_v_24 m_v_24 o_v_24 => ?_)
                  refine lv_iload hx hb dX10_holds_236 (lv_at hl 1 rfl) ?_
                  refine lv_icmp_ne (tgt := 245) hx hb dX10_holds_238 (by decide) (fun c_238 => ?_) (fun c_238 => ?_)
                  · refine lv_iconst (v := 0) hx hb dX10_holds_245 (by decide) ?_
                    subst hQ
                    exact W.zret (v := 0) hx hb hr (rfl) (fun t ht hW => ⟨⟨0, (), rfl, ⟨rl_0.to (by decide), (fun h0 => trivial), (fun _ => trivial)⟩, by rw [ht]; exact hw.2.1, va_K.moved hW.alike hK, hw.2.2.1⟩, hw.2.2.2.1.F ht⟩) hw.2.2.2.1.2.2 dX10_holds_246
                  · refine lv_iconst (v := 1) hx hb dX10_holds_241 (by decide) ?_
                    refine lv_goto (tgt := 246) hx hb dX10_holds_242 (by decide) ?_
                    subst hQ
                    exact W.zret (v := 1) hx hb hr (rfl) (fun t ht hW => ⟨⟨1, (), rfl, ⟨rl_1.to (by decide), (fun _ => trivial), (fun h0 => trivial)⟩, by rw [ht]; exact hw.2.1, va_K.moved hW.alike hK, hw.2.2.1⟩, hw.2.2.2.1.F ht⟩) hw.2.2.2.1.2.2 dX10_holds_246
                · refine lv_lookup (tgt := 247) (off := 213) hx hb dX10_holds_34 (by decide) ((lv_osw k_34_1 (by decide)).trans ((lv_osw k_34_2 (by decide)).trans ((lv_osw k_34_3 (by decide)).trans ((lv_osw k_34_69 (by decide)).trans ((lv_osw k_34_70 (by decide)).trans ((lv_osw k_34_71 (by decide)).trans ((lv_osw k_34_72 (by decide)).trans ((lv_osw k_34_73 (by decide)).trans (rfl))))))))) (by decide) ?_
                  refine lv_aload_n hx hb dX10_holds_247 rfl (lv_at hl 3 rfl) ?_
                  refine tg_mem (ci := 10) (C := RX10) (T := TX10) (N := 49) hx hb hts inX10 hown hK hw 14 m_u_8 rfl (by decide) (hts _ tw_1151) (fun _ h9 => h9) dX10_holds_248 ?_
                  refine lv_iload_n hx hb dX10_holds_251 rfl (lv_at hl 2 rfl) ?_
                  refine tg_imem hx hb hK hw h_vu_8 rfl r_v_7 (by decide) m_v_13 dX10_holds_252 ?_
                  refine lv_bipush (v := 50) hx hb dX10_holds_253 (by decide) ?_
                  refine lv_isub hx hb dX10_holds_255 (lv_topi (fun v_26 e_v_26 => ?_))
                  have r_v_26 := ri_any v_26
                  refine lv_istore (lv' := [(6, .int v_26), (5, .int v_12), (4, .int v_10), (3, .int v_7), (0, .ref p0), (1, .int p1), (2, .int p2)]) hx hb dX10_holds_256 hl (by decide) rfl (fun ls hl => ?_)
                  refine lv_iload hx hb dX10_holds_258 (lv_at hl 0 rfl) ?_
                  refine lv_bipush (v := 24) hx hb dX10_holds_260 (by decide) ?_
                  refine lv_icmp_ne (tgt := 273) hx hb dX10_holds_262 (by decide) (fun c_262 => ?_) (fun c_262 => ?_)
                  · refine lv_iload hx hb dX10_holds_273 (lv_at hl 0 rfl) ?_
                    refine lv_bipush (v := 25) hx hb dX10_holds_275 (by decide) ?_
                    refine lv_icmp_ne (tgt := 292) hx hb dX10_holds_277 (by decide) (fun c_277 => ?_) (fun c_277 => ?_)
                    · refine lv_iload hx hb dX10_holds_292 (lv_at hl 0 rfl) ?_
                      refine lv_bipush (v := 26) hx hb dX10_holds_294 (by decide) ?_
                      refine lv_icmp_ne (tgt := 311) hx hb dX10_holds_296 (by decide) (fun c_296 => ?_) (fun c_296 => ?_)
                      · refine lv_iload_n hx hb dX10_holds_311 rfl (lv_at hl 6 rfl) ?_
                        exact B312 v_7 v_10 v_12 v_26 p2 _ _ ls r_p1 r_p2 r_v_7 r_v_10 r_v_12 r_v_26 (r_p2.to (by decide)) hw (lv_sub hl [4, 5, 6, 3, 2, 1, 0] rfl)
                      · have r_v_26 : RI v_26 26 26 := rc_eq1 r_v_26 rl_26 (ti_eq c_296) (by decide)
                        refine lv_aload_n hx hb dX10_holds_299 rfl (lv_at hl 4 rfl) ?_
                        refine tg_mem (ci := 10) (C := RX10) (T := TX10) (N := 49) hx hb hts inX10 hown hK hw 14 m_u_8 rfl (by decide) (hts _ tw_1151) (fun _ h9 => h9) dX10_holds_300 ?_
                        refine lv_bipush (v := 98) hx hb dX10_holds_303 (by decide) ?_
                        refine lv_iload_n hx hb dX10_holds_305 rfl (lv_at hl 6 rfl) ?_
                        refine lv_iadd hx hb dX10_holds_306 (lv_topi (fun v_27 e_v_27 => ?_))
                        obtain ⟨t_v_27, r_v_27⟩ := tq_add (lo := 98) (hi := 103) rl_98 r_p2 (by decide +kernel) e_v_27
                        have t_v_27 : v_27.toInt = 98 + p2.toInt := t_v_27
                        refine tg_iald (lo := (-2147483648)) (hi := 2147483647) hx hb hK hw h_vu_8 rfl 98 103 r_v_27 (by decide) (by decide +kernel) dX10_holds_307 (fun v_28 r_v_28 m_v_28 o_v_28 => ?_)
                        refine lv_goto (tgt := 312) hx hb dX10_holds_308 (by decide) ?_
                        exact B312 v_7 v_10 v_12 v_26 v_28 _ _ ls r_p1 r_p2 r_v_7 r_v_10 r_v_12 (r_v_26.to (by decide)) r_v_28 hw (lv_sub hl [4, 5, 6, 3, 2, 1, 0] rfl)
                    · have r_v_26 : RI v_26 25 25 := rc_eq1 r_v_26 rl_25 (ti_eq c_277) (by decide)
                      refine lv_aload_n hx hb dX10_holds_280 rfl (lv_at hl 4 rfl) ?_
                      refine tg_mem (ci := 10) (C := RX10) (T := TX10) (N := 49) hx hb hts inX10 hown hK hw 14 m_u_8 rfl (by decide) (hts _ tw_1151) (fun _ h9 => h9) dX10_holds_281 ?_
                      refine lv_bipush (v := 92) hx hb dX10_holds_284 (by decide) ?_
                      refine lv_iload_n hx hb dX10_holds_286 rfl (lv_at hl 6 rfl) ?_
                      refine lv_iadd hx hb dX10_holds_287 (lv_topi (fun v_29 e_v_29 => ?_))
                      obtain ⟨t_v_29, r_v_29⟩ := tq_add (lo := 92) (hi := 97) rl_92 r_p2 (by decide +kernel) e_v_29
                      have t_v_29 : v_29.toInt = 92 + p2.toInt := t_v_29
                      refine tg_iald (lo := (-2147483648)) (hi := 2147483647) hx hb hK hw h_vu_8 rfl 92 97 r_v_29 (by decide) (by decide +kernel) dX10_holds_288 (fun v_30 r_v_30 m_v_30 o_v_30 => ?_)
                      refine lv_goto (tgt := 312) hx hb dX10_holds_289 (by decide) ?_
                      exact B312 v_7 v_10 v_12 v_26 v_30 _ _ ls r_p1 r_p2 r_v_7 r_v_10 r_v_12 (r_v_26.to (by decide)) r_v_30 hw (lv_sub hl [4, 5, 6, 3, 2, 1, 0] rfl)
                  · have r_v_26 : RI v_26 24 24 := rc_eq1 r_v_26 rl_24 (ti_eq c_262) (by decide)
                    refine lv_aload_n hx hb dX10_holds_265 rfl (lv_at hl 4 rfl) ?_
                    refine lv_iload_n hx hb dX10_holds_266 rfl (lv_at hl 6 rfl) ?_
                    refine tk_ir (va_runV (As := [.int p2]) (rest := []) ⟨hx, hb, hml, hown, hts⟩ (c_X10_sizeOf l D cy z s.heap.size Ps w0 hw.1 p0 p2 h_p0 r_p2) (cwV 1 hts (gV tw_1453 tw_1455 ts_70 tw_15 tw_1456) rfl rfl rfl (by decide +kernel) ⟨Nat.le_of_ble_eq_true rfl, Nat.le_of_ble_eq_true rfl⟩) (tg_preV hw hK hSD hA (ci := 10) (q := (RX10, TX10, 49)) rfl h_p0 rfl) rfl rfl hl.1 rfl (lv_room (Nat.le_of_ble_eq_true rfl)) dX10_holds_267 ⟨Nat.le_of_ble_eq_true rfl, Nat.le_of_ble_eq_true rfl⟩) hw hA (fun v_31  H locs hp_v_31 hw => ?_)
                    have r_v_31 : RI v_31 (-2147483648) 2147483647 := hp_v_31.1
                    refine lv_goto (tgt := 312) hx hb dX10_holds_270 (by decide) ?_
                    exact B312 v_7 v_10 v_12 v_26 v_31 _ _ ls r_p1 r_p2 r_v_7 r_v_10 r_v_12 (r_v_26.to (by decide)) r_v_31 hw (lv_sub hl [4, 5, 6, 3, 2, 1, 0] rfl)
abbrev wr_X10_holds__32 : List (Nat × Nat) := []
abbrev wa_X10_holds__32 : List Nat := []
set_option maxHeartbeats 4000000 in
set_option maxRecDepth 100000 in
theorem c_X10_holds__32 (l : Launch) (D : va_G) (cy : Nat → ClassId) (z : Nat → Nat) (sz : Nat) (Ps : PSI) (w0 : va_W) (hT : HT cy GG Ps w0) (p0 : Nat) (p1 : Int32) (p2 : Int32) (h_p0 : (p0, 55) ∈ Ps) (r_p1 : RI p1 0 27) (r_p2 : RI p2 0 5) : Met l yX10_holds (Cond.code yX10_holds cX10_holds 8 (some .boolean) :: gT) ({ frames := 30, cells := 0, slots := 0, locals := 6000 } : Room) (va_Pc [.ref p0, .int p1, .int p2] (PRE D cy z w0 sz)) (va_Qi (fun (r : Int32) (u : Unit) => RI r 0 1 ∧ (r = 0 → True) ∧ (¬ r = 0 → True)) (BB D cy (va_A w0 sz) (fun (u : Unit) => w0)) (va_A w0 sz)) 0 0 (va_A w0 sz) := by
  refine Met.ofW (cc := cX10_holds) (maxL := 8) (ret := (some .boolean)) (by decide) rfl ?_
  intro p e s m args below meth c s₁ B hml hv
  obtain ⟨rfl, hsz, hP, hK, hD0, hSD⟩ := hv
  have hx := B.exec
  have hb := B.bytes
  have hr := B.returns
  have hlocks := B.notSynchronized
  have hts : ∀ w ∈ gT, w.before _ s = true := fun w h => atoms_spec (ws := Cond.code yX10_holds cX10_holds 8 (some .boolean) :: gT) B.pre w (List.mem_cons_of_mem _ h)
  have hown : s.vm.findClass RX10 = some m.cls := findClass_of_methodNamed B.named
  subst hsz
  have hD := hD0.self (sz := s.heap.size)
  generalize hAe : va_A w0 s.heap.size = A at hD hSD ⊢
  have hA : ∀ q : Nat, s.heap.size ≤ q → A q := fun q h => by rw [← hAe]; exact Or.inr h
  have hl := lv_entry ([.ref p0, .int p1, .int p2]) (n := 8) (Nat.le_of_ble_eq_true rfl)
  rw [lg_entry_eq]
  generalize (lg_sl ([.ref p0, .int p1, .int p2]) ++ List.replicate (8 - (lg_sl ([.ref p0, .int p1, .int p2])).length) Slot.unset).toArray = ls at hl ⊢
  have hl : lv_has ls 8 [(0, .ref p0), (1, .int p1), (2, .int p2)] := hl
  refine nameQ (fun Q hQ => ?_)
  have hw : WD D cy GG A s wr_X10_holds__32 wa_X10_holds__32 Ps w0 Ps w0 s.heap [] := ⟨hT, hP, hD, va_S.rf, FR.rf, hT.1, [], (List.append_nil _).symm⟩
  have B312 : ∀ (x3 : Int32) (x4 : Int32) (x5 : Int32) (x6 : Int32) (y0 : Int32) (H : Heap) (locs : List Loc) (ls : Array Slot), RI p1 0 27 → RI p2 0 5 → RI x3 174 282 → RI x4 (-2147483648) 2147483647 → RI x5 (-2147483648) 2147483647 → RI x6 (-2147483648) 2147483647 → RI y0 (-2147483648) 2147483647 → WD D cy GG A s wr_X10_holds__32 wa_X10_holds__32 Ps w0 Ps w0 H locs → lv_has ls 8 [(0, .ref p0), (1, .int p1), (2, .int p2), (3, .int x3), (4, .int x4), (5, .int x5), (6, .int x6)] → W p l e (headSpec (Cond.code yX10_holds cX10_holds 8 (some .boolean) :: gT) ({ frames := 30, cells := 0, slots := 0, locals := 6000 } : Room)).room s m ([.ref p0, .int p1, .int p2] : List Value).toArray below meth c H locs 0 0 Q (F0 m 312 ls [.int y0]) := by
    intro x3 x4 x5 x6 y0 H locs ls r_p1 r_p2 r_x3 r_x4 r_x5 r_x6 r_y0 hw hl
    refine lv_istore (lv' := [(7, .int y0), (0, .ref p0), (1, .int p1), (2, .int p2), (3, .int x3), (4, .int x4), (5, .int x5), (6, .int x6)]) hx hb dX10_holds_312 hl (by decide) rfl (fun ls hl => ?_)
    refine lv_aload_n hx hb dX10_holds_314 rfl (lv_at hl 1 rfl) ?_
    refine tg_get (ci := 10) (ts := ty_MODEL) (C := RX10) (T := TX10) (N := 49) hx hb hts inX10 hown hK hw h_p0 rfl rfl 14 (by decide) (hts _ tw_1151) (fun _ h9 => h9) (ft := vR 34) rfl dX10_holds_315 (fun u_1 hv_u_1 m_u_1 => ?_)
    obtain ⟨vu_1, rfl, h_vu_1⟩ := hv_u_1
    refine lv_iload_n hx hb dX10_holds_318 rfl (lv_at hl 4 rfl) ?_
    refine lv_iconst (v := 3) hx hb dX10_holds_319 (by decide) ?_
    refine lv_iadd hx hb dX10_holds_320 (lv_topi (fun v_2 e_v_2 => ?_))
    obtain ⟨t_v_2, r_v_2⟩ := tq_add (lo := 177) (hi := 285) r_x3 rl_3 (by decide +kernel) e_v_2
    have t_v_2 : v_2.toInt = x3.toInt + 3 := t_v_2
    refine tg_iald (lo := (-2147483648)) (hi := 2147483647) hx hb hK hw h_vu_1 rfl 177 285 r_v_2 (by decide) (by decide +kernel) dX10_holds_321 (fun v_3 r_v_3 m_v_3 o_v_3 => ?_)
    refine lv_bipush (v := 60) hx hb dX10_holds_322 (by decide) ?_
    refine lv_icmp_ne (tgt := 342) hx hb dX10_holds_324 (by decide) (fun c_324 => ?_) (fun c_324 => ?_)
    · refine lv_aload_n hx hb dX10_holds_342 rfl (lv_at hl 1 rfl) ?_
      refine tg_mem (ci := 10) (C := RX10) (T := TX10) (N := 49) hx hb hts inX10 hown hK hw 14 m_u_1 rfl (by decide) (hts _ tw_1151) (fun _ h9 => h9) dX10_holds_343 ?_
      refine lv_iload_n hx hb dX10_holds_346 rfl (lv_at hl 4 rfl) ?_
      refine lv_iconst (v := 3) hx hb dX10_holds_347 (by decide) ?_
      refine lv_iadd hx hb dX10_holds_348 (lv_topi (fun v_4 e_v_4 => ?_))
      obtain ⟨t_v_4, r_v_4⟩ := tq_add (lo := 177) (hi := 285) r_x3 rl_3 (by decide +kernel) e_v_4
      have t_v_4 : v_4.toInt = x3.toInt + 3 := t_v_4
      refine tg_iald (lo := (-2147483648)) (hi := 2147483647) hx hb hK hw h_vu_1 rfl 177 285 r_v_4 (by decide) (by decide +kernel) dX10_holds_349 (fun v_5 r_v_5 m_v_5 o_v_5 => ?_)
      refine lv_bipush (v := 61) hx hb dX10_holds_350 (by decide) ?_
      refine lv_icmp_ne (tgt := 370) hx hb dX10_holds_352 (by decide) (fun c_352 => ?_) (fun c_352 => ?_)
      · refine lv_iload hx hb dX10_holds_370 (lv_at hl 0 rfl) ?_
        refine lv_iload hx hb dX10_holds_372 (lv_at hl 6 rfl) ?_
        refine lv_icmp_le (tgt := 381) hx hb dX10_holds_374 (by decide) (fun c_374 => ?_) (fun c_374 => ?_)
        · refine lv_iconst (v := 0) hx hb dX10_holds_381 (by decide) ?_
          subst hQ
          exact W.zret (v := 0) hx hb hr (rfl) (fun t ht hW => ⟨⟨0, (), rfl, ⟨rl_0.to (by decide), (fun h0 => trivial), (fun _ => trivial)⟩, by rw [ht]; exact hw.2.1, va_K.moved hW.alike hK, hw.2.2.1⟩, hw.2.2.2.1.F ht⟩) hw.2.2.2.1.2.2 dX10_holds_382
        · have r_x5 : RI x5 (-2147483648) 2147483646 := rc_lt1 r_x5 r_y0 (ti_nle c_374) (by decide)
          have r_y0 : RI y0 (-2147483647) 2147483647 := rc_lt2 r_x5 r_y0 (ti_nle c_374) (by decide)
          refine lv_iconst (v := 1) hx hb dX10_holds_377 (by decide) ?_
          refine lv_goto (tgt := 382) hx hb dX10_holds_378 (by decide) ?_
          subst hQ
          exact W.zret (v := 1) hx hb hr (rfl) (fun t ht hW => ⟨⟨1, (), rfl, ⟨rl_1.to (by decide), (fun _ => trivial), (fun h0 => trivial)⟩, by rw [ht]; exact hw.2.1, va_K.moved hW.alike hK, hw.2.2.1⟩, hw.2.2.2.1.F ht⟩) hw.2.2.2.1.2.2 dX10_holds_382
      · have r_v_5 : RI v_5 61 61 := rc_eq1 r_v_5 rl_61 (ti_eq c_352) (by decide)
        refine lv_iload hx hb dX10_holds_355 (lv_at hl 0 rfl) ?_
        refine lv_iload hx hb dX10_holds_357 (lv_at hl 6 rfl) ?_
        refine lv_icmp_ne (tgt := 366) hx hb dX10_holds_359 (by decide) (fun c_359 => ?_) (fun c_359 => ?_)
        · refine lv_iconst (v := 0) hx hb dX10_holds_366 (by decide) ?_
          refine lv_goto (tgt := 382) hx hb dX10_holds_367 (by decide) ?_
          subst hQ
          exact W.zret (v := 0) hx hb hr (rfl) (fun t ht hW => ⟨⟨0, (), rfl, ⟨rl_0.to (by decide), (fun h0 => trivial), (fun _ => trivial)⟩, by rw [ht]; exact hw.2.1, va_K.moved hW.alike hK, hw.2.2.1⟩, hw.2.2.2.1.F ht⟩) hw.2.2.2.1.2.2 dX10_holds_382
        · refine lv_iconst (v := 1) hx hb dX10_holds_362 (by decide) ?_
          refine lv_goto (tgt := 382) hx hb dX10_holds_363 (by decide) ?_
          subst hQ
          exact W.zret (v := 1) hx hb hr (rfl) (fun t ht hW => ⟨⟨1, (), rfl, ⟨rl_1.to (by decide), (fun _ => trivial), (fun h0 => trivial)⟩, by rw [ht]; exact hw.2.1, va_K.moved hW.alike hK, hw.2.2.1⟩, hw.2.2.2.1.F ht⟩) hw.2.2.2.1.2.2 dX10_holds_382
    · have r_v_3 : RI v_3 60 60 := rc_eq1 r_v_3 rl_60 (ti_eq c_324) (by decide)
      refine lv_iload hx hb dX10_holds_327 (lv_at hl 0 rfl) ?_
      refine lv_iload hx hb dX10_holds_329 (lv_at hl 6 rfl) ?_
      refine lv_icmp_ge (tgt := 338) hx hb dX10_holds_331 (by decide) (fun c_331 => ?_) (fun c_331 => ?_)
      · refine lv_iconst (v := 0) hx hb dX10_holds_338 (by decide) ?_
        refine lv_goto (tgt := 382) hx hb dX10_holds_339 (by decide) ?_
        subst hQ
        exact W.zret (v := 0) hx hb hr (rfl) (fun t ht hW => ⟨⟨0, (), rfl, ⟨rl_0.to (by decide), (fun h0 => trivial), (fun _ => trivial)⟩, by rw [ht]; exact hw.2.1, va_K.moved hW.alike hK, hw.2.2.1⟩, hw.2.2.2.1.F ht⟩) hw.2.2.2.1.2.2 dX10_holds_382
      · have r_y0 : RI y0 (-2147483648) 2147483646 := rc_lt1 r_y0 r_x5 (ti_nle c_331) (by decide)
        have r_x5 : RI x5 (-2147483647) 2147483647 := rc_lt2 r_y0 r_x5 (ti_nle c_331) (by decide)
        refine lv_iconst (v := 1) hx hb dX10_holds_334 (by decide) ?_
        refine lv_goto (tgt := 382) hx hb dX10_holds_335 (by decide) ?_
        subst hQ
        exact W.zret (v := 1) hx hb hr (rfl) (fun t ht hW => ⟨⟨1, (), rfl, ⟨rl_1.to (by decide), (fun _ => trivial), (fun h0 => trivial)⟩, by rw [ht]; exact hw.2.1, va_K.moved hW.alike hK, hw.2.2.1⟩, hw.2.2.2.1.F ht⟩) hw.2.2.2.1.2.2 dX10_holds_382
  refine lv_sipush (v := 174) hx hb dX10_holds_0 (by decide) ?_
  refine lv_iconst (v := 4) hx hb dX10_holds_3 (by decide) ?_
  refine lv_iload_n hx hb dX10_holds_4 rfl (lv_at hl 1 rfl) ?_
  refine lv_imul hx hb dX10_holds_5 (lv_topi (fun v_6 e_v_6 => ?_))
  obtain ⟨t_v_6, r_v_6⟩ := tq_mul (lo := 0) (hi := 108) rl_4 r_p1 (by decide +kernel) e_v_6
  have t_v_6 : v_6.toInt = 4 * p1.toInt := t_v_6
  refine lv_iadd hx hb dX10_holds_6 (lv_topi (fun v_7 e_v_7 => ?_))
  obtain ⟨t_v_7, r_v_7⟩ := tq_add (lo := 174) (hi := 282) rl_174 r_v_6 (by decide +kernel) e_v_7
  have t_v_7 : v_7.toInt = 174 + v_6.toInt := t_v_7
  refine lv_istore_n (lv' := [(3, .int v_7), (0, .ref p0), (1, .int p1), (2, .int p2)]) hx hb dX10_holds_7 rfl hl (by decide) rfl (fun ls hl => ?_)
  refine lv_aload_n hx hb dX10_holds_8 rfl (lv_at hl 1 rfl) ?_
  refine tg_get (ci := 10) (ts := ty_MODEL) (C := RX10) (T := TX10) (N := 49) hx hb hts inX10 hown hK hw h_p0 rfl rfl 14 (by decide) (hts _ tw_1151) (fun _ h9 => h9) (ft := vR 34) rfl dX10_holds_9 (fun u_8 hv_u_8 m_u_8 => ?_)
  obtain ⟨vu_8, rfl, h_vu_8⟩ := hv_u_8
  refine lv_iload_n hx hb dX10_holds_12 rfl (lv_at hl 0 rfl) ?_
  refine lv_iconst (v := 1) hx hb dX10_holds_13 (by decide) ?_
  refine lv_iadd hx hb dX10_holds_14 (lv_topi (fun v_9 e_v_9 => ?_))
  obtain ⟨t_v_9, r_v_9⟩ := tq_add (lo := 175) (hi := 283) r_v_7 rl_1 (by decide +kernel) e_v_9
  have t_v_9 : v_9.toInt = v_7.toInt + 1 := t_v_9
  refine tg_iald (lo := (-2147483648)) (hi := 2147483647) hx hb hK hw h_vu_8 rfl 175 283 r_v_9 (by decide) (by decide +kernel) dX10_holds_15 (fun v_10 r_v_10 m_v_10 o_v_10 => ?_)
  refine lv_istore (lv' := [(4, .int v_10), (3, .int v_7), (0, .ref p0), (1, .int p1), (2, .int p2)]) hx hb dX10_holds_16 hl (by decide) rfl (fun ls hl => ?_)
  refine lv_aload_n hx hb dX10_holds_18 rfl (lv_at hl 2 rfl) ?_
  refine tg_mem (ci := 10) (C := RX10) (T := TX10) (N := 49) hx hb hts inX10 hown hK hw 14 m_u_8 rfl (by decide) (hts _ tw_1151) (fun _ h9 => h9) dX10_holds_19 ?_
  refine lv_iload_n hx hb dX10_holds_22 rfl (lv_at hl 1 rfl) ?_
  refine lv_iconst (v := 2) hx hb dX10_holds_23 (by decide) ?_
  refine lv_iadd hx hb dX10_holds_24 (lv_topi (fun v_11 e_v_11 => ?_))
  obtain ⟨t_v_11, r_v_11⟩ := tq_add (lo := 176) (hi := 284) r_v_7 rl_2 (by decide +kernel) e_v_11
  have t_v_11 : v_11.toInt = v_7.toInt + 2 := t_v_11
  refine tg_iald (lo := (-2147483648)) (hi := 2147483647) hx hb hK hw h_vu_8 rfl 176 284 r_v_11 (by decide) (by decide +kernel) dX10_holds_25 (fun v_12 r_v_12 m_v_12 o_v_12 => ?_)
  refine lv_istore (lv' := [(5, .int v_12), (4, .int v_10), (3, .int v_7), (0, .ref p0), (1, .int p1), (2, .int p2)]) hx hb dX10_holds_26 hl (by decide) rfl (fun ls hl => ?_)
  refine lv_aload_n hx hb dX10_holds_28 rfl (lv_at hl 3 rfl) ?_
  refine tg_mem (ci := 10) (C := RX10) (T := TX10) (N := 49) hx hb hts inX10 hown hK hw 14 m_u_8 rfl (by decide) (hts _ tw_1151) (fun _ h9 => h9) dX10_holds_29 ?_
  refine lv_iload_n hx hb dX10_holds_32 rfl (lv_at hl 2 rfl) ?_
  refine tg_iald (lo := (-2147483648)) (hi := 2147483647) hx hb hK hw h_vu_8 rfl 174 282 r_v_7 (by decide) (by decide +kernel) dX10_holds_33 (fun v_13 r_v_13 m_v_13 o_v_13 => ?_)
  by_cases k_34_1 : v_13 = 1
  · refine lv_lookup (tgt := 108) (off := 74) hx hb dX10_holds_34 (by decide) (by rw [k_34_1]; decide) (by decide) ?_
    have r_v_13 : RI v_13 1 1 := by rw [k_34_1]; exact rl_1
    have g_v_10 : 0 ≤ v_10.toInt ∧ v_10.toInt < p1.toInt := by obtain ⟨_, f9, e8, e7, q9, _⟩ := ax_of (k := 14) (t := 34) hw h_p0 rfl (fun _ => rfl); cases FLD.inj hw.2.2.1 e8 m_u_8; have t9 := ARR.ael hw.2.2.1 e7 m_v_13; have x9 := ARR.ael hw.2.2.1 e7 m_v_10; rw [show Int32.toNatClampNeg v_7 = 174 + 4 * Int32.toNatClampNeg p1 from (by have k1 := r_v_7.cl (by decide); have k2 := r_p1.cl (by decide); omega)] at t9; rw [show Int32.toNatClampNeg v_9 = 175 + 4 * Int32.toNatClampNeg p1 from (by have k1 := r_v_9.cl (by decide); have k2 := r_p1.cl (by decide); omega)] at x9; exact RN_child q9 (r_p1.to (by decide)) t9 x9 (r_v_13.to (by decide))
    have r_v_10 : RI v_10 0 26 := ⟨g_v_10.1, by have k1 := r_p1.2; omega⟩
    refine lv_aload_n hx hb dX10_holds_108 rfl (lv_at hl 3 rfl) ?_
    refine lv_iload hx hb dX10_holds_109 (lv_at hl 1 rfl) ?_
    refine lv_iload_n hx hb dX10_holds_111 rfl (lv_at hl 5 rfl) ?_
    refine tk_ir (va_runV (As := [.int v_10, .int p2]) (rest := []) ⟨hx, hb, hml, hown, hts⟩ (c_X10_holds__33 l D cy z s.heap.size Ps w0 hw.1 p0 v_10 p2 h_p0 r_v_10 r_p2) (cwV 2 hts (gV tw_1787 tw_1789 ts_119 tw_15 tw_1790) rfl rfl rfl (by decide +kernel) ⟨Nat.le_of_ble_eq_true rfl, Nat.le_of_ble_eq_true rfl⟩) (tg_preV hw hK hSD hA (ci := 10) (q := (RX10, TX10, 49)) rfl h_p0 rfl) rfl rfl hl.1 rfl (lv_room (Nat.le_of_ble_eq_true rfl)) dX10_holds_112 ⟨Nat.le_of_ble_eq_true rfl, Nat.le_of_ble_eq_true rfl⟩) hw hA (fun v_14  H locs hp_v_14 hw => ?_)
    have r_v_14 : RI v_14 0 1 := hp_v_14.1
    refine lv_if_ne (tgt := 122) hx hb dX10_holds_115 (by decide) (fun c_115 => ?_) (fun c_115 => ?_)
    · have r_v_14 : RI v_14 1 1 := rc_neL r_v_14 rl_0 (ti_ne c_115) (by decide)
      refine lv_iconst (v := 0) hx hb dX10_holds_122 (by decide) ?_
      subst hQ
      exact W.zret (v := 0) hx hb hr (rfl) (fun t ht hW => ⟨⟨0, (), rfl, ⟨rl_0.to (by decide), (fun h0 => trivial), (fun _ => trivial)⟩, by rw [ht]; exact hw.2.1, va_K.moved hW.alike hK, hw.2.2.1⟩, hw.2.2.2.1.F ht⟩) hw.2.2.2.1.2.2 dX10_holds_123
    · have r_v_14 : RI v_14 0 0 := rc_eq1 r_v_14 rl_0 (ti_eq c_115) (by decide)
      refine lv_iconst (v := 1) hx hb dX10_holds_118 (by decide) ?_
      refine lv_goto (tgt := 123) hx hb dX10_holds_119 (by decide) ?_
      subst hQ
      exact W.zret (v := 1) hx hb hr (rfl) (fun t ht hW => ⟨⟨1, (), rfl, ⟨rl_1.to (by decide), (fun _ => trivial), (fun h0 => trivial)⟩, by rw [ht]; exact hw.2.1, va_K.moved hW.alike hK, hw.2.2.1⟩, hw.2.2.2.1.F ht⟩) hw.2.2.2.1.2.2 dX10_holds_123
  · by_cases k_34_2 : v_13 = 2
    · refine lv_lookup (tgt := 124) (off := 90) hx hb dX10_holds_34 (by decide) (by rw [k_34_2]; decide) (by decide) ?_
      have r_v_13 : RI v_13 2 2 := by rw [k_34_2]; exact rl_2
      have g_v_10 : 0 ≤ v_10.toInt ∧ v_10.toInt < p1.toInt := by obtain ⟨_, f9, e8, e7, q9, _⟩ := ax_of (k := 14) (t := 34) hw h_p0 rfl (fun _ => rfl); cases FLD.inj hw.2.2.1 e8 m_u_8; have t9 := ARR.ael hw.2.2.1 e7 m_v_13; have x9 := ARR.ael hw.2.2.1 e7 m_v_10; rw [show Int32.toNatClampNeg v_7 = 174 + 4 * Int32.toNatClampNeg p1 from (by have k1 := r_v_7.cl (by decide); have k2 := r_p1.cl (by decide); omega)] at t9; rw [show Int32.toNatClampNeg v_9 = 175 + 4 * Int32.toNatClampNeg p1 from (by have k1 := r_v_9.cl (by decide); have k2 := r_p1.cl (by decide); omega)] at x9; exact RN_child q9 (r_p1.to (by decide)) t9 x9 (r_v_13.to (by decide))
      have r_v_10 : RI v_10 0 26 := ⟨g_v_10.1, by have k1 := r_p1.2; omega⟩
      have g_v_12 : 0 ≤ v_12.toInt ∧ v_12.toInt < p1.toInt := by obtain ⟨_, f9, e8, e7, q9, _⟩ := ax_of (k := 14) (t := 34) hw h_p0 rfl (fun _ => rfl); cases FLD.inj hw.2.2.1 e8 m_u_8; have t9 := ARR.ael hw.2.2.1 e7 m_v_13; have x9 := ARR.ael hw.2.2.1 e7 m_v_12; rw [show Int32.toNatClampNeg v_7 = 174 + 4 * Int32.toNatClampNeg p1 from (by have k1 := r_v_7.cl (by decide); have k2 := r_p1.cl (by decide); omega)] at t9; rw [show Int32.toNatClampNeg v_11 = 176 + 4 * Int32.toNatClampNeg p1 from (by have k1 := r_v_11.cl (by decide); have k2 := r_p1.cl (by decide); omega)] at x9; exact RN_child2 q9 (r_p1.to (by decide)) t9 x9 (r_v_13.to (by decide))
      have r_v_12 : RI v_12 0 26 := ⟨g_v_12.1, by have k1 := r_p1.2; omega⟩
      refine lv_aload_n hx hb dX10_holds_124 rfl (lv_at hl 3 rfl) ?_
      refine lv_iload hx hb dX10_holds_125 (lv_at hl 1 rfl) ?_
      refine lv_iload_n hx hb dX10_holds_127 rfl (lv_at hl 5 rfl) ?_
      refine tk_ir (va_runV (As := [.int v_10, .int p2]) (rest := []) ⟨hx, hb, hml, hown, hts⟩ (c_X10_holds__33 l D cy z s.heap.size Ps w0 hw.1 p0 v_10 p2 h_p0 r_v_10 r_p2) (cwV 2 hts (gV tw_1787 tw_1789 ts_119 tw_15 tw_1790) rfl rfl rfl (by decide +kernel) ⟨Nat.le_of_ble_eq_true rfl, Nat.le_of_ble_eq_true rfl⟩) (tg_preV hw hK hSD hA (ci := 10) (q := (RX10, TX10, 49)) rfl h_p0 rfl) rfl rfl hl.1 rfl (lv_room (Nat.le_of_ble_eq_true rfl)) dX10_holds_128 ⟨Nat.le_of_ble_eq_true rfl, Nat.le_of_ble_eq_true rfl⟩) hw hA (fun v_15  H locs hp_v_15 hw => ?_)
      have r_v_15 : RI v_15 0 1 := hp_v_15.1
      refine lv_if_eq (tgt := 148) hx hb dX10_holds_131 (by decide) (fun c_131 => ?_) (fun c_131 => ?_)
      · have r_v_15 : RI v_15 0 0 := rc_eq1 r_v_15 rl_0 (ti_eq c_131) (by decide)
        refine lv_iconst (v := 0) hx hb dX10_holds_148 (by decide) ?_
        subst hQ
        exact W.zret (v := 0) hx hb hr (rfl) (fun t ht hW => ⟨⟨0, (), rfl, ⟨rl_0.to (by decide), (fun h0 => trivial), (fun _ => trivial)⟩, by rw [ht]; exact hw.2.1, va_K.moved hW.alike hK, hw.2.2.1⟩, hw.2.2.2.1.F ht⟩) hw.2.2.2.1.2.2 dX10_holds_149
      · have r_v_15 : RI v_15 1 1 := rc_neL r_v_15 rl_0 (ti_ne c_131) (by decide)
        refine lv_aload_n hx hb dX10_holds_134 rfl (lv_at hl 3 rfl) ?_
        refine lv_iload hx hb dX10_holds_135 (lv_at hl 0 rfl) ?_
        refine lv_iload_n hx hb dX10_holds_137 rfl (lv_at hl 5 rfl) ?_
        refine tk_ir (va_runV (As := [.int v_12, .int p2]) (rest := []) ⟨hx, hb, hml, hown, hts⟩ (c_X10_holds__33 l D cy z H.size Ps w0 hw.1 p0 v_12 p2 h_p0 r_v_12 r_p2) (cwV 2 hts (gV tw_1787 tw_1789 ts_119 tw_15 tw_1790) rfl rfl rfl (by decide +kernel) ⟨Nat.le_of_ble_eq_true rfl, Nat.le_of_ble_eq_true rfl⟩) (tg_preV hw hK hSD hA (ci := 10) (q := (RX10, TX10, 49)) rfl h_p0 rfl) rfl rfl hl.1 rfl (lv_room (Nat.le_of_ble_eq_true rfl)) dX10_holds_138 ⟨Nat.le_of_ble_eq_true rfl, Nat.le_of_ble_eq_true rfl⟩) hw hA (fun v_16  H locs hp_v_16 hw => ?_)
        have r_v_16 : RI v_16 0 1 := hp_v_16.1
        refine lv_if_eq (tgt := 148) hx hb dX10_holds_141 (by decide) (fun c_141 => ?_) (fun c_141 => ?_)
        · have r_v_16 : RI v_16 0 0 := rc_eq1 r_v_16 rl_0 (ti_eq c_141) (by decide)
          refine lv_iconst (v := 0) hx hb dX10_holds_148 (by decide) ?_
          subst hQ
          exact W.zret (v := 0) hx hb hr (rfl) (fun t ht hW => ⟨⟨0, (), rfl, ⟨rl_0.to (by decide), (fun h0 => trivial), (fun _ => trivial)⟩, by rw [ht]; exact hw.2.1, va_K.moved hW.alike hK, hw.2.2.1⟩, hw.2.2.2.1.F ht⟩) hw.2.2.2.1.2.2 dX10_holds_149
        · have r_v_16 : RI v_16 1 1 := rc_neL r_v_16 rl_0 (ti_ne c_141) (by decide)
          refine lv_iconst (v := 1) hx hb dX10_holds_144 (by decide) ?_
          refine lv_goto (tgt := 149) hx hb dX10_holds_145 (by decide) ?_
          subst hQ
          exact W.zret (v := 1) hx hb hr (rfl) (fun t ht hW => ⟨⟨1, (), rfl, ⟨rl_1.to (by decide), (fun _ => trivial), (fun h0 => trivial)⟩, by rw [ht]; exact hw.2.1, va_K.moved hW.alike hK, hw.2.2.1⟩, hw.2.2.2.1.F ht⟩) hw.2.2.2.1.2.2 dX10_holds_149
    · by_cases k_34_3 : v_13 = 3
      · refine lv_lookup (tgt := 150) (off := 116) hx hb dX10_holds_34 (by decide) (by rw [k_34_3]; decide) (by decide) ?_
        have r_v_13 : RI v_13 3 3 := by rw [k_34_3]; exact rl_3
        have g_v_10 : 0 ≤ v_10.toInt ∧ v_10.toInt < p1.toInt := by obtain ⟨_, f9, e8, e7, q9, _⟩ := ax_of (k := 14) (t := 34) hw h_p0 rfl (fun _ => rfl); cases FLD.inj hw.2.2.1 e8 m_u_8; have t9 := ARR.ael hw.2.2.1 e7 m_v_13; have x9 := ARR.ael hw.2.2.1 e7 m_v_10; rw [show Int32.toNatClampNeg v_7 = 174 + 4 * Int32.toNatClampNeg p1 from (by have k1 := r_v_7.cl (by decide); have k2 := r_p1.cl (by decide); omega)] at t9; rw [show Int32.toNatClampNeg v_9 = 175 + 4 * Int32.toNatClampNeg p1 from (by have k1 := r_v_9.cl (by decide); have k2 := r_p1.cl (by decide); omega)] at x9; exact RN_child q9 (r_p1.to (by decide)) t9 x9 (r_v_13.to (by decide))
        have r_v_10 : RI v_10 0 26 := ⟨g_v_10.1, by have k1 := r_p1.2; omega⟩
        have g_v_12 : 0 ≤ v_12.toInt ∧ v_12.toInt < p1.toInt := by obtain ⟨_, f9, e8, e7, q9, _⟩ := ax_of (k := 14) (t := 34) hw h_p0 rfl (fun _ => rfl); cases FLD.inj hw.2.2.1 e8 m_u_8; have t9 := ARR.ael hw.2.2.1 e7 m_v_13; have x9 := ARR.ael hw.2.2.1 e7 m_v_12; rw [show Int32.toNatClampNeg v_7 = 174 + 4 * Int32.toNatClampNeg p1 from (by have k1 := r_v_7.cl (by decide); have k2 := r_p1.cl (by decide); omega)] at t9; rw [show Int32.toNatClampNeg v_11 = 176 + 4 * Int32.toNatClampNeg p1 from (by have k1 := r_v_11.cl (by decide); have k2 := r_p1.cl (by decide); omega)] at x9; exact RN_child2 q9 (r_p1.to (by decide)) t9 x9 (r_v_13.to (by decide))
        have r_v_12 : RI v_12 0 26 := ⟨g_v_12.1, by have k1 := r_p1.2; omega⟩
        refine lv_aload_n hx hb dX10_holds_150 rfl (lv_at hl 3 rfl) ?_
        refine lv_iload hx hb dX10_holds_151 (lv_at hl 1 rfl) ?_
        refine lv_iload_n hx hb dX10_holds_153 rfl (lv_at hl 5 rfl) ?_
        refine tk_ir (va_runV (As := [.int v_10, .int p2]) (rest := []) ⟨hx, hb, hml, hown, hts⟩ (c_X10_holds__33 l D cy z s.heap.size Ps w0 hw.1 p0 v_10 p2 h_p0 r_v_10 r_p2) (cwV 2 hts (gV tw_1787 tw_1789 ts_119 tw_15 tw_1790) rfl rfl rfl (by decide +kernel) ⟨Nat.le_of_ble_eq_true rfl, Nat.le_of_ble_eq_true rfl⟩) (tg_preV hw hK hSD hA (ci := 10) (q := (RX10, TX10, 49)) rfl h_p0 rfl) rfl rfl hl.1 rfl (lv_room (Nat.le_of_ble_eq_true rfl)) dX10_holds_154 ⟨Nat.le_of_ble_eq_true rfl, Nat.le_of_ble_eq_true rfl⟩) hw hA (fun v_17  H locs hp_v_17 hw => ?_)
        have r_v_17 : RI v_17 0 1 := hp_v_17.1
        refine lv_if_ne (tgt := 170) hx hb dX10_holds_157 (by decide) (fun c_157 => ?_) (fun c_157 => ?_)
        · have r_v_17 : RI v_17 1 1 := rc_neL r_v_17 rl_0 (ti_ne c_157) (by decide)
          refine lv_iconst (v := 1) hx hb dX10_holds_170 (by decide) ?_
          refine lv_goto (tgt := 175) hx hb dX10_holds_171 (by decide) ?_
          subst hQ
          exact W.zret (v := 1) hx hb hr (rfl) (fun t ht hW => ⟨⟨1, (), rfl, ⟨rl_1.to (by decide), (fun _ => trivial), (fun h0 => trivial)⟩, by rw [ht]; exact hw.2.1, va_K.moved hW.alike hK, hw.2.2.1⟩, hw.2.2.2.1.F ht⟩) hw.2.2.2.1.2.2 dX10_holds_175
        · have r_v_17 : RI v_17 0 0 := rc_eq1 r_v_17 rl_0 (ti_eq c_157) (by decide)
          refine lv_aload_n hx hb dX10_holds_160 rfl (lv_at hl 3 rfl) ?_
          refine lv_iload hx hb dX10_holds_161 (lv_at hl 0 rfl) ?_
          refine lv_iload_n hx hb dX10_holds_163 rfl (lv_at hl 5 rfl) ?_
          refine tk_ir (va_runV (As := [.int v_12, .int p2]) (rest := []) ⟨hx, hb, hml, hown, hts⟩ (c_X10_holds__33 l D cy z H.size Ps w0 hw.1 p0 v_12 p2 h_p0 r_v_12 r_p2) (cwV 2 hts (gV tw_1787 tw_1789 ts_119 tw_15 tw_1790) rfl rfl rfl (by decide +kernel) ⟨Nat.le_of_ble_eq_true rfl, Nat.le_of_ble_eq_true rfl⟩) (tg_preV hw hK hSD hA (ci := 10) (q := (RX10, TX10, 49)) rfl h_p0 rfl) rfl rfl hl.1 rfl (lv_room (Nat.le_of_ble_eq_true rfl)) dX10_holds_164 ⟨Nat.le_of_ble_eq_true rfl, Nat.le_of_ble_eq_true rfl⟩) hw hA (fun v_18  H locs hp_v_18 hw => ?_)
          have r_v_18 : RI v_18 0 1 := hp_v_18.1
          refine lv_if_eq (tgt := 174) hx hb dX10_holds_167 (by decide) (fun c_167 => ?_) (fun c_167 => ?_)
          · have r_v_18 : RI v_18 0 0 := rc_eq1 r_v_18 rl_0 (ti_eq c_167) (by decide)
            refine lv_iconst (v := 0) hx hb dX10_holds_174 (by decide) ?_
            subst hQ
            exact W.zret (v := 0) hx hb hr (rfl) (fun t ht hW => ⟨⟨0, (), rfl, ⟨rl_0.to (by decide), (fun h0 => trivial), (fun _ => trivial)⟩, by rw [ht]; exact hw.2.1, va_K.moved hW.alike hK, hw.2.2.1⟩, hw.2.2.2.1.F ht⟩) hw.2.2.2.1.2.2 dX10_holds_175
          · have r_v_18 : RI v_18 1 1 := rc_neL r_v_18 rl_0 (ti_ne c_167) (by decide)
            refine lv_iconst (v := 1) hx hb dX10_holds_170 (by decide) ?_
            refine lv_goto (tgt := 175) hx hb dX10_holds_171 (by decide) ?_
            subst hQ
            exact W.zret (v := 1) hx hb hr (rfl) (fun t ht hW => ⟨⟨1, (), rfl, ⟨rl_1.to (by decide), (fun _ => trivial), (fun h0 => trivial)⟩, by rw [ht]; exact hw.2.1, va_K.moved hW.alike hK, hw.2.2.1⟩, hw.2.2.2.1.F ht⟩) hw.2.2.2.1.2.2 dX10_holds_175
      · by_cases k_34_69 : v_13 = 69
        · refine lv_lookup (tgt := 176) (off := 142) hx hb dX10_holds_34 (by decide) (by rw [k_34_69]; decide) (by decide) ?_
          have r_v_13 : RI v_13 69 69 := by rw [k_34_69]; exact rl_69
          refine lv_aload_n hx hb dX10_holds_176 rfl (lv_at hl 3 rfl) ?_
          refine lv_iload_n hx hb dX10_holds_177 rfl (lv_at hl 5 rfl) ?_
          refine tk_ir (va_runV (As := [.int p2]) (rest := []) ⟨hx, hb, hml, hown, hts⟩ (c_X10_isOpen l D cy z s.heap.size Ps w0 hw.1 p0 p2 h_p0 (r_p2.to (by decide))) (cwV 1 hts (gV tw_1457 tw_1459 ts_71 tw_15 tw_1460) rfl rfl rfl (by decide +kernel) ⟨Nat.le_of_ble_eq_true rfl, Nat.le_of_ble_eq_true rfl⟩) (tg_preV hw hK hSD hA (ci := 10) (q := (RX10, TX10, 49)) rfl h_p0 rfl) rfl rfl hl.1 rfl (lv_room (Nat.le_of_ble_eq_true rfl)) dX10_holds_178 ⟨Nat.le_of_ble_eq_true rfl, Nat.le_of_ble_eq_true rfl⟩) hw hA (fun v_19  H locs hp_v_19 hw => ?_)
          have r_v_19 : RI v_19 0 1 := hp_v_19.1
          subst hQ
          exact W.zret (v := v_19) hx hb hr (tq_nz (r_v_19.to (by decide))) (fun t ht hW => ⟨⟨v_19, (), rfl, ⟨r_v_19.to (by decide), (fun h0 => trivial), (fun h0 => trivial)⟩, by rw [ht]; exact hw.2.1, va_K.moved hW.alike hK, hw.2.2.1⟩, hw.2.2.2.1.F ht⟩) hw.2.2.2.1.2.2 dX10_holds_181
        · by_cases k_34_70 : v_13 = 70
          · refine lv_lookup (tgt := 182) (off := 148) hx hb dX10_holds_34 (by decide) (by rw [k_34_70]; decide) (by decide) ?_
            have r_v_13 : RI v_13 70 70 := by rw [k_34_70]; exact rl_70
            refine lv_aload_n hx hb dX10_holds_182 rfl (lv_at hl 3 rfl) ?_
            refine lv_iload_n hx hb dX10_holds_183 rfl (lv_at hl 5 rfl) ?_
            refine tk_ir (va_runV (As := [.int p2]) (rest := []) ⟨hx, hb, hml, hown, hts⟩ (c_X10_whatIs l D cy z s.heap.size Ps w0 hw.1 p0 p2 h_p0 r_p2) (cwV 1 hts (gV tw_1449 tw_1451 ts_69 tw_15 tw_1452) rfl rfl rfl (by decide +kernel) ⟨Nat.le_of_ble_eq_true rfl, Nat.le_of_ble_eq_true rfl⟩) (tg_preV hw hK hSD hA (ci := 10) (q := (RX10, TX10, 49)) rfl h_p0 rfl) rfl rfl hl.1 rfl (lv_room (Nat.le_of_ble_eq_true rfl)) dX10_holds_184 ⟨Nat.le_of_ble_eq_true rfl, Nat.le_of_ble_eq_true rfl⟩) hw hA (fun v_20  H locs hp_v_20 hw => ?_)
            have r_v_20 : RI v_20 (-1) 5 := hp_v_20.1
            by_cases c9_v_20 : v_20.toInt < 0
            · have r_v_20 : RI v_20 (-1) (-1) := by unfold RI at r_v_20 ⊢; omega
              have x_NB_p0_p2 := (hp_v_20.2.2.2.2.1 (by omega)).1
              refine lv_iconst (v := (-1)) hx hb dX10_holds_187 (by decide) ?_
              refine lv_icmp_ne (tgt := 195) hx hb dX10_holds_188 (by decide) (fun c_188 => ?_) (fun c_188 => ?_)
              · exact absurd (r_v_20.eq.trans rl_m1.eq.symm) ((ti_ne c_188))
              · refine lv_iconst (v := 1) hx hb dX10_holds_191 (by decide) ?_
                refine lv_goto (tgt := 196) hx hb dX10_holds_192 (by decide) ?_
                subst hQ
                exact W.zret (v := 1) hx hb hr (rfl) (fun t ht hW => ⟨⟨1, (), rfl, ⟨rl_1.to (by decide), (fun _ => trivial), (fun h0 => trivial)⟩, by rw [ht]; exact hw.2.1, va_K.moved hW.alike hK, hw.2.2.1⟩, hw.2.2.2.1.F ht⟩) hw.2.2.2.1.2.2 dX10_holds_196
            · have r_v_20 : RI v_20 0 5 := by unfold RI at r_v_20 ⊢; omega
              have x_WB_p0_p2_v_20 := (hp_v_20.2.2.2.2.2 (by omega)).1
              refine lv_iconst (v := (-1)) hx hb dX10_holds_187 (by decide) ?_
              refine lv_icmp_ne (tgt := 195) hx hb dX10_holds_188 (by decide) (fun c_188 => ?_) (fun c_188 => ?_)
              · refine lv_iconst (v := 0) hx hb dX10_holds_195 (by decide) ?_
                subst hQ
                exact W.zret (v := 0) hx hb hr (rfl) (fun t ht hW => ⟨⟨0, (), rfl, ⟨rl_0.to (by decide), (fun h0 => trivial), (fun _ => trivial)⟩, by rw [ht]; exact hw.2.1, va_K.moved hW.alike hK, hw.2.2.1⟩, hw.2.2.2.1.F ht⟩) hw.2.2.2.1.2.2 dX10_holds_196
              · have r_v_20 : RI v_20 0 (-1) := rc_eq1 r_v_20 rl_m1 (ti_eq c_188) (by decide)
                exact (r_v_20.no (by decide)).elim
          · by_cases k_34_71 : v_13 = 71
            · refine lv_lookup (tgt := 197) (off := 163) hx hb dX10_holds_34 (by decide) (by rw [k_34_71]; decide) (by decide) ?_
              have r_v_13 : RI v_13 71 71 := by rw [k_34_71]; exact rl_71
              refine lv_aload_n hx hb dX10_holds_197 rfl (lv_at hl 3 rfl) ?_
              refine lv_iload_n hx hb dX10_holds_198 rfl (lv_at hl 5 rfl) ?_
              refine tk_ir (va_runV (As := [.int p2]) (rest := []) ⟨hx, hb, hml, hown, hts⟩ (c_X10_sittersOf l D cy z s.heap.size Ps w0 hw.1 p0 p2 h_p0 (r_p2.to (by decide))) (cwV 1 hts (gV tw_1461 tw_1463 ts_72 tw_15 tw_1464) rfl rfl rfl (by decide +kernel) ⟨Nat.le_of_ble_eq_true rfl, Nat.le_of_ble_eq_true rfl⟩) (tg_preV hw hK hSD hA (ci := 10) (q := (RX10, TX10, 49)) rfl h_p0 rfl) rfl rfl hl.1 rfl (lv_room (Nat.le_of_ble_eq_true rfl)) dX10_holds_199 ⟨Nat.le_of_ble_eq_true rfl, Nat.le_of_ble_eq_true rfl⟩) hw hA (fun v_21  H locs hp_v_21 hw => ?_)
              have r_v_21 : RI v_21 (-2147483648) 2147483647 := hp_v_21.1
              refine lv_if_eq (tgt := 209) hx hb dX10_holds_202 (by decide) (fun c_202 => ?_) (fun c_202 => ?_)
              · have r_v_21 : RI v_21 0 0 := rc_eq1 r_v_21 rl_0 (ti_eq c_202) (by decide)
                refine lv_iconst (v := 0) hx hb dX10_holds_209 (by decide) ?_
                subst hQ
                exact W.zret (v := 0) hx hb hr (rfl) (fun t ht hW => ⟨⟨0, (), rfl, ⟨rl_0.to (by decide), (fun h0 => trivial), (fun _ => trivial)⟩, by rw [ht]; exact hw.2.1, va_K.moved hW.alike hK, hw.2.2.1⟩, hw.2.2.2.1.F ht⟩) hw.2.2.2.1.2.2 dX10_holds_210
              · refine lv_iconst (v := 1) hx hb dX10_holds_205 (by decide) ?_
                refine lv_goto (tgt := 210) hx hb dX10_holds_206 (by decide) ?_
                subst hQ
                exact W.zret (v := 1) hx hb hr (rfl) (fun t ht hW => ⟨⟨1, (), rfl, ⟨rl_1.to (by decide), (fun _ => trivial), (fun h0 => trivial)⟩, by rw [ht]; exact hw.2.1, va_K.moved hW.alike hK, hw.2.2.1⟩, hw.2.2.2.1.F ht⟩) hw.2.2.2.1.2.2 dX10_holds_210
            · by_cases k_34_72 : v_13 = 72
              · refine lv_lookup (tgt := 211) (off := 177) hx hb dX10_holds_34 (by decide) (by rw [k_34_72]; decide) (by decide) ?_
                have r_v_13 : RI v_13 72 72 := by rw [k_34_72]; exact rl_72
                refine lv_aload_n hx hb dX10_holds_211 rfl (lv_at hl 3 rfl) ?_
                refine lv_iload_n hx hb dX10_holds_212 rfl (lv_at hl 5 rfl) ?_
                refine tk_ir (va_runV (As := [.int p2]) (rest := []) ⟨hx, hb, hml, hown, hts⟩ (c_X10_whatIs l D cy z s.heap.size Ps w0 hw.1 p0 p2 h_p0 r_p2) (cwV 1 hts (gV tw_1449 tw_1451 ts_69 tw_15 tw_1452) rfl rfl rfl (by decide +kernel) ⟨Nat.le_of_ble_eq_true rfl, Nat.le_of_ble_eq_true rfl⟩) (tg_preV hw hK hSD hA (ci := 10) (q := (RX10, TX10, 49)) rfl h_p0 rfl) rfl rfl hl.1 rfl (lv_room (Nat.le_of_ble_eq_true rfl)) dX10_holds_213 ⟨Nat.le_of_ble_eq_true rfl, Nat.le_of_ble_eq_true rfl⟩) hw hA (fun v_22  H locs hp_v_22 hw => ?_)
                have r_v_22 : RI v_22 (-1) 5 := hp_v_22.1
                by_cases c9_v_22 : v_22.toInt < 0
                · have r_v_22 : RI v_22 (-1) (-1) := by unfold RI at r_v_22 ⊢; omega
                  have x_NB_p0_p2 := (hp_v_22.2.2.2.2.1 (by omega)).1
                  refine lv_iload hx hb dX10_holds_216 (lv_at hl 1 rfl) ?_
                  refine lv_icmp_ne (tgt := 225) hx hb dX10_holds_218 (by decide) (fun c_218 => ?_) (fun c_218 => ?_)
                  · refine lv_iconst (v := 0) hx hb dX10_holds_225 (by decide) ?_
                    subst hQ
                    exact W.zret (v := 0) hx hb hr (rfl) (fun t ht hW => ⟨⟨0, (), rfl, ⟨rl_0.to (by decide), (fun h0 => trivial), (fun _ => trivial)⟩, by rw [ht]; exact hw.2.1, va_K.moved hW.alike hK, hw.2.2.1⟩, hw.2.2.2.1.F ht⟩) hw.2.2.2.1.2.2 dX10_holds_226
                  · have r_v_10 : RI v_10 (-1) (-1) := rc_eq2 r_v_22 r_v_10 (ti_eq c_218) (by decide)
                    refine lv_iconst (v := 1) hx hb dX10_holds_221 (by decide) ?_
                    refine lv_goto (tgt := 226) hx hb dX10_holds_222 (by decide) ?_
                    subst hQ
                    exact W.zret (v := 1) hx hb hr (rfl) (fun t ht hW => ⟨⟨1, (), rfl, ⟨rl_1.to (by decide), (fun _ => trivial), (fun h0 => trivial)⟩, by rw [ht]; exact hw.2.1, va_K.moved hW.alike hK, hw.2.2.1⟩, hw.2.2.2.1.F ht⟩) hw.2.2.2.1.2.2 dX10_holds_226
                · have r_v_22 : RI v_22 0 5 := by unfold RI at r_v_22 ⊢; omega
                  have x_WB_p0_p2_v_22 := (hp_v_22.2.2.2.2.2 (by omega)).1
                  refine lv_iload hx hb dX10_holds_216 (lv_at hl 1 rfl) ?_
                  refine lv_icmp_ne (tgt := 225) hx hb dX10_holds_218 (by decide) (fun c_218 => ?_) (fun c_218 => ?_)
                  · refine lv_iconst (v := 0) hx hb dX10_holds_225 (by decide) ?_
                    subst hQ
                    exact W.zret (v := 0) hx hb hr (rfl) (fun t ht hW => ⟨⟨0, (), rfl, ⟨rl_0.to (by decide), (fun h0 => trivial), (fun _ => trivial)⟩, by rw [ht]; exact hw.2.1, va_K.moved hW.alike hK, hw.2.2.1⟩, hw.2.2.2.1.F ht⟩) hw.2.2.2.1.2.2 dX10_holds_226
                  · have r_v_10 : RI v_10 0 5 := rc_eq2 r_v_22 r_v_10 (ti_eq c_218) (by decide)
                    refine lv_iconst (v := 1) hx hb dX10_holds_221 (by decide) ?_
                    refine lv_goto (tgt := 226) hx hb dX10_holds_222 (by decide) ?_
                    subst hQ
                    exact W.zret (v := 1) hx hb hr (rfl) (fun t ht hW => ⟨⟨1, (), rfl, ⟨rl_1.to (by decide), (fun _ => trivial), (fun h0 => trivial)⟩, by rw [ht]; exact hw.2.1, va_K.moved hW.alike hK, hw.2.2.1⟩, hw.2.2.2.1.F ht⟩) hw.2.2.2.1.2.2 dX10_holds_226
              · by_cases k_34_73 : v_13 = 73
                · refine lv_lookup (tgt := 227) (off := 193) hx hb dX10_holds_34 (by decide) (by rw [k_34_73]; decide) (by decide) ?_
                  have r_v_13 : RI v_13 73 73 := by rw [k_34_73]; exact rl_73
                  refine lv_aload_n hx hb dX10_holds_227 rfl (lv_at hl 3 rfl) ?_
                  refine tg_mem (ci := 10) (C := RX10) (T := TX10) (N := 49) hx hb hts inX10 hown hK hw 14 m_u_8 rfl (by decide) (hts _ tw_1151) (fun _ h9 => h9) dX10_holds_228 ?_
                  refine lv_bipush (v := 86) hx hb dX10_holds_231 (by decide) ?_
                  refine lv_iload_n hx hb dX10_holds_233 rfl (lv_at hl 5 rfl) ?_
                  refine lv_iadd hx hb dX10_holds_234 (lv_topi (fun v_23 e_v_23 => ?_))
                  obtain ⟨t_v_23, r_v_23⟩ := tq_add (lo := 86) (hi := 91) rl_86 r_p2 (by decide +kernel) e_v_23
                  have t_v_23 : v_23.toInt = 86 + p2.toInt := t_v_23
                  refine tg_iald (lo := (-2147483648)) (hi := 2147483647) hx hb hK hw h_vu_8 rfl 86 91 r_v_23 (by decide) (by decide +kernel) dX10_holds_235 (fun v_24 r_v_24 m_v_24 o_v_24 => ?_)
                  refine lv_iload hx hb dX10_holds_236 (lv_at hl 1 rfl) ?_
                  refine lv_icmp_ne (tgt := 245) hx hb dX10_holds_238 (by decide) (fun c_238 => ?_) (fun c_238 => ?_)
                  · refine lv_iconst (v := 0) hx hb dX10_holds_245 (by decide) ?_
                    subst hQ
                    exact W.zret (v := 0) hx hb hr (rfl) (fun t ht hW => ⟨⟨0, (), rfl, ⟨rl_0.to (by decide), (fun h0 => trivial), (fun _ => trivial)⟩, by rw [ht]; exact hw.2.1, va_K.moved hW.alike hK, hw.2.2.1⟩, hw.2.2.2.1.F ht⟩) hw.2.2.2.1.2.2 dX10_holds_246
                  · refine lv_iconst (v := 1) hx hb dX10_holds_241 (by decide) ?_
                    refine lv_goto (tgt := 246) hx hb dX10_holds_242 (by decide) ?_
                    subst hQ
                    exact W.zret (v := 1) hx hb hr (rfl) (fun t ht hW => ⟨⟨1, (), rfl, ⟨rl_1.to (by decide), (fun _ => trivial), (fun h0 => trivial)⟩, by rw [ht]; exact hw.2.1, va_K.moved hW.alike hK, hw.2.2.1⟩, hw.2.2.2.1.F ht⟩) hw.2.2.2.1.2.2 dX10_holds_246
                · refine lv_lookup (tgt := 247) (off := 213) hx hb dX10_holds_34 (by decide) ((lv_osw k_34_1 (by decide)).trans ((lv_osw k_34_2 (by decide)).trans ((lv_osw k_34_3 (by decide)).trans ((lv_osw k_34_69 (by decide)).trans ((lv_osw k_34_70 (by decide)).trans ((lv_osw k_34_71 (by decide)).trans ((lv_osw k_34_72 (by decide)).trans ((lv_osw k_34_73 (by decide)).trans (rfl))))))))) (by decide) ?_
                  refine lv_aload_n hx hb dX10_holds_247 rfl (lv_at hl 3 rfl) ?_
                  refine tg_mem (ci := 10) (C := RX10) (T := TX10) (N := 49) hx hb hts inX10 hown hK hw 14 m_u_8 rfl (by decide) (hts _ tw_1151) (fun _ h9 => h9) dX10_holds_248 ?_
                  refine lv_iload_n hx hb dX10_holds_251 rfl (lv_at hl 2 rfl) ?_
                  refine tg_imem hx hb hK hw h_vu_8 rfl r_v_7 (by decide) m_v_13 dX10_holds_252 ?_
                  refine lv_bipush (v := 50) hx hb dX10_holds_253 (by decide) ?_
                  refine lv_isub hx hb dX10_holds_255 (lv_topi (fun v_26 e_v_26 => ?_))
                  have r_v_26 := ri_any v_26
                  refine lv_istore (lv' := [(6, .int v_26), (5, .int v_12), (4, .int v_10), (3, .int v_7), (0, .ref p0), (1, .int p1), (2, .int p2)]) hx hb dX10_holds_256 hl (by decide) rfl (fun ls hl => ?_)
                  refine lv_iload hx hb dX10_holds_258 (lv_at hl 0 rfl) ?_
                  refine lv_bipush (v := 24) hx hb dX10_holds_260 (by decide) ?_
                  refine lv_icmp_ne (tgt := 273) hx hb dX10_holds_262 (by decide) (fun c_262 => ?_) (fun c_262 => ?_)
                  · refine lv_iload hx hb dX10_holds_273 (lv_at hl 0 rfl) ?_
                    refine lv_bipush (v := 25) hx hb dX10_holds_275 (by decide) ?_
                    refine lv_icmp_ne (tgt := 292) hx hb dX10_holds_277 (by decide) (fun c_277 => ?_) (fun c_277 => ?_)
                    · refine lv_iload hx hb dX10_holds_292 (lv_at hl 0 rfl) ?_
                      refine lv_bipush (v := 26) hx hb dX10_holds_294 (by decide) ?_
                      refine lv_icmp_ne (tgt := 311) hx hb dX10_holds_296 (by decide) (fun c_296 => ?_) (fun c_296 => ?_)
                      · refine lv_iload_n hx hb dX10_holds_311 rfl (lv_at hl 6 rfl) ?_
                        exact B312 v_7 v_10 v_12 v_26 p2 _ _ ls r_p1 r_p2 r_v_7 r_v_10 r_v_12 r_v_26 (r_p2.to (by decide)) hw (lv_sub hl [4, 5, 6, 3, 2, 1, 0] rfl)
                      · have r_v_26 : RI v_26 26 26 := rc_eq1 r_v_26 rl_26 (ti_eq c_296) (by decide)
                        refine lv_aload_n hx hb dX10_holds_299 rfl (lv_at hl 4 rfl) ?_
                        refine tg_mem (ci := 10) (C := RX10) (T := TX10) (N := 49) hx hb hts inX10 hown hK hw 14 m_u_8 rfl (by decide) (hts _ tw_1151) (fun _ h9 => h9) dX10_holds_300 ?_
                        refine lv_bipush (v := 98) hx hb dX10_holds_303 (by decide) ?_
                        refine lv_iload_n hx hb dX10_holds_305 rfl (lv_at hl 6 rfl) ?_
                        refine lv_iadd hx hb dX10_holds_306 (lv_topi (fun v_27 e_v_27 => ?_))
                        obtain ⟨t_v_27, r_v_27⟩ := tq_add (lo := 98) (hi := 103) rl_98 r_p2 (by decide +kernel) e_v_27
                        have t_v_27 : v_27.toInt = 98 + p2.toInt := t_v_27
                        refine tg_iald (lo := (-2147483648)) (hi := 2147483647) hx hb hK hw h_vu_8 rfl 98 103 r_v_27 (by decide) (by decide +kernel) dX10_holds_307 (fun v_28 r_v_28 m_v_28 o_v_28 => ?_)
                        refine lv_goto (tgt := 312) hx hb dX10_holds_308 (by decide) ?_
                        exact B312 v_7 v_10 v_12 v_26 v_28 _ _ ls r_p1 r_p2 r_v_7 r_v_10 r_v_12 (r_v_26.to (by decide)) r_v_28 hw (lv_sub hl [4, 5, 6, 3, 2, 1, 0] rfl)
                    · have r_v_26 : RI v_26 25 25 := rc_eq1 r_v_26 rl_25 (ti_eq c_277) (by decide)
                      refine lv_aload_n hx hb dX10_holds_280 rfl (lv_at hl 4 rfl) ?_
                      refine tg_mem (ci := 10) (C := RX10) (T := TX10) (N := 49) hx hb hts inX10 hown hK hw 14 m_u_8 rfl (by decide) (hts _ tw_1151) (fun _ h9 => h9) dX10_holds_281 ?_
                      refine lv_bipush (v := 92) hx hb dX10_holds_284 (by decide) ?_
                      refine lv_iload_n hx hb dX10_holds_286 rfl (lv_at hl 6 rfl) ?_
                      refine lv_iadd hx hb dX10_holds_287 (lv_topi (fun v_29 e_v_29 => ?_))
                      obtain ⟨t_v_29, r_v_29⟩ := tq_add (lo := 92) (hi := 97) rl_92 r_p2 (by decide +kernel) e_v_29
                      have t_v_29 : v_29.toInt = 92 + p2.toInt := t_v_29
                      refine tg_iald (lo := (-2147483648)) (hi := 2147483647) hx hb hK hw h_vu_8 rfl 92 97 r_v_29 (by decide) (by decide +kernel) dX10_holds_288 (fun v_30 r_v_30 m_v_30 o_v_30 => ?_)
                      refine lv_goto (tgt := 312) hx hb dX10_holds_289 (by decide) ?_
                      exact B312 v_7 v_10 v_12 v_26 v_30 _ _ ls r_p1 r_p2 r_v_7 r_v_10 r_v_12 (r_v_26.to (by decide)) r_v_30 hw (lv_sub hl [4, 5, 6, 3, 2, 1, 0] rfl)
                  · have r_v_26 : RI v_26 24 24 := rc_eq1 r_v_26 rl_24 (ti_eq c_262) (by decide)
                    refine lv_aload_n hx hb dX10_holds_265 rfl (lv_at hl 4 rfl) ?_
                    refine lv_iload_n hx hb dX10_holds_266 rfl (lv_at hl 6 rfl) ?_
                    refine tk_ir (va_runV (As := [.int p2]) (rest := []) ⟨hx, hb, hml, hown, hts⟩ (c_X10_sizeOf l D cy z s.heap.size Ps w0 hw.1 p0 p2 h_p0 r_p2) (cwV 1 hts (gV tw_1453 tw_1455 ts_70 tw_15 tw_1456) rfl rfl rfl (by decide +kernel) ⟨Nat.le_of_ble_eq_true rfl, Nat.le_of_ble_eq_true rfl⟩) (tg_preV hw hK hSD hA (ci := 10) (q := (RX10, TX10, 49)) rfl h_p0 rfl) rfl rfl hl.1 rfl (lv_room (Nat.le_of_ble_eq_true rfl)) dX10_holds_267 ⟨Nat.le_of_ble_eq_true rfl, Nat.le_of_ble_eq_true rfl⟩) hw hA (fun v_31  H locs hp_v_31 hw => ?_)
                    have r_v_31 : RI v_31 (-2147483648) 2147483647 := hp_v_31.1
                    refine lv_goto (tgt := 312) hx hb dX10_holds_270 (by decide) ?_
                    exact B312 v_7 v_10 v_12 v_26 v_31 _ _ ls r_p1 r_p2 r_v_7 r_v_10 r_v_12 (r_v_26.to (by decide)) r_v_31 hw (lv_sub hl [4, 5, 6, 3, 2, 1, 0] rfl)
abbrev wr_X10_holds__31 : List (Nat × Nat) := []
abbrev wa_X10_holds__31 : List Nat := []
set_option maxHeartbeats 4000000 in
set_option maxRecDepth 100000 in
theorem c_X10_holds__31 (l : Launch) (D : va_G) (cy : Nat → ClassId) (z : Nat → Nat) (sz : Nat) (Ps : PSI) (w0 : va_W) (hT : HT cy GG Ps w0) (p0 : Nat) (p1 : Int32) (p2 : Int32) (h_p0 : (p0, 55) ∈ Ps) (r_p1 : RI p1 0 28) (r_p2 : RI p2 0 5) : Met l yX10_holds (Cond.code yX10_holds cX10_holds 8 (some .boolean) :: gT) ({ frames := 31, cells := 0, slots := 0, locals := 6200 } : Room) (va_Pc [.ref p0, .int p1, .int p2] (PRE D cy z w0 sz)) (va_Qi (fun (r : Int32) (u : Unit) => RI r 0 1 ∧ (r = 0 → True) ∧ (¬ r = 0 → True)) (BB D cy (va_A w0 sz) (fun (u : Unit) => w0)) (va_A w0 sz)) 0 0 (va_A w0 sz) := by
  refine Met.ofW (cc := cX10_holds) (maxL := 8) (ret := (some .boolean)) (by decide) rfl ?_
  intro p e s m args below meth c s₁ B hml hv
  obtain ⟨rfl, hsz, hP, hK, hD0, hSD⟩ := hv
  have hx := B.exec
  have hb := B.bytes
  have hr := B.returns
  have hlocks := B.notSynchronized
  have hts : ∀ w ∈ gT, w.before _ s = true := fun w h => atoms_spec (ws := Cond.code yX10_holds cX10_holds 8 (some .boolean) :: gT) B.pre w (List.mem_cons_of_mem _ h)
  have hown : s.vm.findClass RX10 = some m.cls := findClass_of_methodNamed B.named
  subst hsz
  have hD := hD0.self (sz := s.heap.size)
  generalize hAe : va_A w0 s.heap.size = A at hD hSD ⊢
  have hA : ∀ q : Nat, s.heap.size ≤ q → A q := fun q h => by rw [← hAe]; exact Or.inr h
  have hl := lv_entry ([.ref p0, .int p1, .int p2]) (n := 8) (Nat.le_of_ble_eq_true rfl)
  rw [lg_entry_eq]
  generalize (lg_sl ([.ref p0, .int p1, .int p2]) ++ List.replicate (8 - (lg_sl ([.ref p0, .int p1, .int p2])).length) Slot.unset).toArray = ls at hl ⊢
  have hl : lv_has ls 8 [(0, .ref p0), (1, .int p1), (2, .int p2)] := hl
  refine nameQ (fun Q hQ => ?_)
  have hw : WD D cy GG A s wr_X10_holds__31 wa_X10_holds__31 Ps w0 Ps w0 s.heap [] := ⟨hT, hP, hD, va_S.rf, FR.rf, hT.1, [], (List.append_nil _).symm⟩
  have B312 : ∀ (x3 : Int32) (x4 : Int32) (x5 : Int32) (x6 : Int32) (y0 : Int32) (H : Heap) (locs : List Loc) (ls : Array Slot), RI p1 0 28 → RI p2 0 5 → RI x3 174 286 → RI x4 (-2147483648) 2147483647 → RI x5 (-2147483648) 2147483647 → RI x6 (-2147483648) 2147483647 → RI y0 (-2147483648) 2147483647 → WD D cy GG A s wr_X10_holds__31 wa_X10_holds__31 Ps w0 Ps w0 H locs → lv_has ls 8 [(0, .ref p0), (1, .int p1), (2, .int p2), (3, .int x3), (4, .int x4), (5, .int x5), (6, .int x6)] → W p l e (headSpec (Cond.code yX10_holds cX10_holds 8 (some .boolean) :: gT) ({ frames := 31, cells := 0, slots := 0, locals := 6200 } : Room)).room s m ([.ref p0, .int p1, .int p2] : List Value).toArray below meth c H locs 0 0 Q (F0 m 312 ls [.int y0]) := by
    intro x3 x4 x5 x6 y0 H locs ls r_p1 r_p2 r_x3 r_x4 r_x5 r_x6 r_y0 hw hl
    refine lv_istore (lv' := [(7, .int y0), (0, .ref p0), (1, .int p1), (2, .int p2), (3, .int x3), (4, .int x4), (5, .int x5), (6, .int x6)]) hx hb dX10_holds_312 hl (by decide) rfl (fun ls hl => ?_)
    refine lv_aload_n hx hb dX10_holds_314 rfl (lv_at hl 1 rfl) ?_
    refine tg_get (ci := 10) (ts := ty_MODEL) (C := RX10) (T := TX10) (N := 49) hx hb hts inX10 hown hK hw h_p0 rfl rfl 14 (by decide) (hts _ tw_1151) (fun _ h9 => h9) (ft := vR 34) rfl dX10_holds_315 (fun u_1 hv_u_1 m_u_1 => ?_)
    obtain ⟨vu_1, rfl, h_vu_1⟩ := hv_u_1
    refine lv_iload_n hx hb dX10_holds_318 rfl (lv_at hl 4 rfl) ?_
    refine lv_iconst (v := 3) hx hb dX10_holds_319 (by decide) ?_
    refine lv_iadd hx hb dX10_holds_320 (lv_topi (fun v_2 e_v_2 => ?_))
    obtain ⟨t_v_2, r_v_2⟩ := tq_add (lo := 177) (hi := 289) r_x3 rl_3 (by decide +kernel) e_v_2
    have t_v_2 : v_2.toInt = x3.toInt + 3 := t_v_2
    refine tg_iald (lo := (-2147483648)) (hi := 2147483647) hx hb hK hw h_vu_1 rfl 177 289 r_v_2 (by decide) (by decide +kernel) dX10_holds_321 (fun v_3 r_v_3 m_v_3 o_v_3 => ?_)
    refine lv_bipush (v := 60) hx hb dX10_holds_322 (by decide) ?_
    refine lv_icmp_ne (tgt := 342) hx hb dX10_holds_324 (by decide) (fun c_324 => ?_) (fun c_324 => ?_)
    · refine lv_aload_n hx hb dX10_holds_342 rfl (lv_at hl 1 rfl) ?_
      refine tg_mem (ci := 10) (C := RX10) (T := TX10) (N := 49) hx hb hts inX10 hown hK hw 14 m_u_1 rfl (by decide) (hts _ tw_1151) (fun _ h9 => h9) dX10_holds_343 ?_
      refine lv_iload_n hx hb dX10_holds_346 rfl (lv_at hl 4 rfl) ?_
      refine lv_iconst (v := 3) hx hb dX10_holds_347 (by decide) ?_
      refine lv_iadd hx hb dX10_holds_348 (lv_topi (fun v_4 e_v_4 => ?_))
      obtain ⟨t_v_4, r_v_4⟩ := tq_add (lo := 177) (hi := 289) r_x3 rl_3 (by decide +kernel) e_v_4
      have t_v_4 : v_4.toInt = x3.toInt + 3 := t_v_4
      refine tg_iald (lo := (-2147483648)) (hi := 2147483647) hx hb hK hw h_vu_1 rfl 177 289 r_v_4 (by decide) (by decide +kernel) dX10_holds_349 (fun v_5 r_v_5 m_v_5 o_v_5 => ?_)
      refine lv_bipush (v := 61) hx hb dX10_holds_350 (by decide) ?_
      refine lv_icmp_ne (tgt := 370) hx hb dX10_holds_352 (by decide) (fun c_352 => ?_) (fun c_352 => ?_)
      · refine lv_iload hx hb dX10_holds_370 (lv_at hl 0 rfl) ?_
        refine lv_iload hx hb dX10_holds_372 (lv_at hl 6 rfl) ?_
        refine lv_icmp_le (tgt := 381) hx hb dX10_holds_374 (by decide) (fun c_374 => ?_) (fun c_374 => ?_)
        · refine lv_iconst (v := 0) hx hb dX10_holds_381 (by decide) ?_
          subst hQ
          exact W.zret (v := 0) hx hb hr (rfl) (fun t ht hW => ⟨⟨0, (), rfl, ⟨rl_0.to (by decide), (fun h0 => trivial), (fun _ => trivial)⟩, by rw [ht]; exact hw.2.1, va_K.moved hW.alike hK, hw.2.2.1⟩, hw.2.2.2.1.F ht⟩) hw.2.2.2.1.2.2 dX10_holds_382
        · have r_x5 : RI x5 (-2147483648) 2147483646 := rc_lt1 r_x5 r_y0 (ti_nle c_374) (by decide)
          have r_y0 : RI y0 (-2147483647) 2147483647 := rc_lt2 r_x5 r_y0 (ti_nle c_374) (by decide)
          refine lv_iconst (v := 1) hx hb dX10_holds_377 (by decide) ?_
          refine lv_goto (tgt := 382) hx hb dX10_holds_378 (by decide) ?_
          subst hQ
          exact W.zret (v := 1) hx hb hr (rfl) (fun t ht hW => ⟨⟨1, (), rfl, ⟨rl_1.to (by decide), (fun _ => trivial), (fun h0 => trivial)⟩, by rw [ht]; exact hw.2.1, va_K.moved hW.alike hK, hw.2.2.1⟩, hw.2.2.2.1.F ht⟩) hw.2.2.2.1.2.2 dX10_holds_382
      · have r_v_5 : RI v_5 61 61 := rc_eq1 r_v_5 rl_61 (ti_eq c_352) (by decide)
        refine lv_iload hx hb dX10_holds_355 (lv_at hl 0 rfl) ?_
        refine lv_iload hx hb dX10_holds_357 (lv_at hl 6 rfl) ?_
        refine lv_icmp_ne (tgt := 366) hx hb dX10_holds_359 (by decide) (fun c_359 => ?_) (fun c_359 => ?_)
        · refine lv_iconst (v := 0) hx hb dX10_holds_366 (by decide) ?_
          refine lv_goto (tgt := 382) hx hb dX10_holds_367 (by decide) ?_
          subst hQ
          exact W.zret (v := 0) hx hb hr (rfl) (fun t ht hW => ⟨⟨0, (), rfl, ⟨rl_0.to (by decide), (fun h0 => trivial), (fun _ => trivial)⟩, by rw [ht]; exact hw.2.1, va_K.moved hW.alike hK, hw.2.2.1⟩, hw.2.2.2.1.F ht⟩) hw.2.2.2.1.2.2 dX10_holds_382
        · refine lv_iconst (v := 1) hx hb dX10_holds_362 (by decide) ?_
          refine lv_goto (tgt := 382) hx hb dX10_holds_363 (by decide) ?_
          subst hQ
          exact W.zret (v := 1) hx hb hr (rfl) (fun t ht hW => ⟨⟨1, (), rfl, ⟨rl_1.to (by decide), (fun _ => trivial), (fun h0 => trivial)⟩, by rw [ht]; exact hw.2.1, va_K.moved hW.alike hK, hw.2.2.1⟩, hw.2.2.2.1.F ht⟩) hw.2.2.2.1.2.2 dX10_holds_382
    · have r_v_3 : RI v_3 60 60 := rc_eq1 r_v_3 rl_60 (ti_eq c_324) (by decide)
      refine lv_iload hx hb dX10_holds_327 (lv_at hl 0 rfl) ?_
      refine lv_iload hx hb dX10_holds_329 (lv_at hl 6 rfl) ?_
      refine lv_icmp_ge (tgt := 338) hx hb dX10_holds_331 (by decide) (fun c_331 => ?_) (fun c_331 => ?_)
      · refine lv_iconst (v := 0) hx hb dX10_holds_338 (by decide) ?_
        refine lv_goto (tgt := 382) hx hb dX10_holds_339 (by decide) ?_
        subst hQ
        exact W.zret (v := 0) hx hb hr (rfl) (fun t ht hW => ⟨⟨0, (), rfl, ⟨rl_0.to (by decide), (fun h0 => trivial), (fun _ => trivial)⟩, by rw [ht]; exact hw.2.1, va_K.moved hW.alike hK, hw.2.2.1⟩, hw.2.2.2.1.F ht⟩) hw.2.2.2.1.2.2 dX10_holds_382
      · have r_y0 : RI y0 (-2147483648) 2147483646 := rc_lt1 r_y0 r_x5 (ti_nle c_331) (by decide)
        have r_x5 : RI x5 (-2147483647) 2147483647 := rc_lt2 r_y0 r_x5 (ti_nle c_331) (by decide)
        refine lv_iconst (v := 1) hx hb dX10_holds_334 (by decide) ?_
        refine lv_goto (tgt := 382) hx hb dX10_holds_335 (by decide) ?_
        subst hQ
        exact W.zret (v := 1) hx hb hr (rfl) (fun t ht hW => ⟨⟨1, (), rfl, ⟨rl_1.to (by decide), (fun _ => trivial), (fun h0 => trivial)⟩, by rw [ht]; exact hw.2.1, va_K.moved hW.alike hK, hw.2.2.1⟩, hw.2.2.2.1.F ht⟩) hw.2.2.2.1.2.2 dX10_holds_382
  refine lv_sipush (v := 174) hx hb dX10_holds_0 (by decide) ?_
  refine lv_iconst (v := 4) hx hb dX10_holds_3 (by decide) ?_
  refine lv_iload_n hx hb dX10_holds_4 rfl (lv_at hl 1 rfl) ?_
  refine lv_imul hx hb dX10_holds_5 (lv_topi (fun v_6 e_v_6 => ?_))
  obtain ⟨t_v_6, r_v_6⟩ := tq_mul (lo := 0) (hi := 112) rl_4 r_p1 (by decide +kernel) e_v_6
  have t_v_6 : v_6.toInt = 4 * p1.toInt := t_v_6
  refine lv_iadd hx hb dX10_holds_6 (lv_topi (fun v_7 e_v_7 => ?_))
  obtain ⟨t_v_7, r_v_7⟩ := tq_add (lo := 174) (hi := 286) rl_174 r_v_6 (by decide +kernel) e_v_7
  have t_v_7 : v_7.toInt = 174 + v_6.toInt := t_v_7
  refine lv_istore_n (lv' := [(3, .int v_7), (0, .ref p0), (1, .int p1), (2, .int p2)]) hx hb dX10_holds_7 rfl hl (by decide) rfl (fun ls hl => ?_)
  refine lv_aload_n hx hb dX10_holds_8 rfl (lv_at hl 1 rfl) ?_
  refine tg_get (ci := 10) (ts := ty_MODEL) (C := RX10) (T := TX10) (N := 49) hx hb hts inX10 hown hK hw h_p0 rfl rfl 14 (by decide) (hts _ tw_1151) (fun _ h9 => h9) (ft := vR 34) rfl dX10_holds_9 (fun u_8 hv_u_8 m_u_8 => ?_)
  obtain ⟨vu_8, rfl, h_vu_8⟩ := hv_u_8
  refine lv_iload_n hx hb dX10_holds_12 rfl (lv_at hl 0 rfl) ?_
  refine lv_iconst (v := 1) hx hb dX10_holds_13 (by decide) ?_
  refine lv_iadd hx hb dX10_holds_14 (lv_topi (fun v_9 e_v_9 => ?_))
  obtain ⟨t_v_9, r_v_9⟩ := tq_add (lo := 175) (hi := 287) r_v_7 rl_1 (by decide +kernel) e_v_9
  have t_v_9 : v_9.toInt = v_7.toInt + 1 := t_v_9
  refine tg_iald (lo := (-2147483648)) (hi := 2147483647) hx hb hK hw h_vu_8 rfl 175 287 r_v_9 (by decide) (by decide +kernel) dX10_holds_15 (fun v_10 r_v_10 m_v_10 o_v_10 => ?_)
  refine lv_istore (lv' := [(4, .int v_10), (3, .int v_7), (0, .ref p0), (1, .int p1), (2, .int p2)]) hx hb dX10_holds_16 hl (by decide) rfl (fun ls hl => ?_)
  refine lv_aload_n hx hb dX10_holds_18 rfl (lv_at hl 2 rfl) ?_
  refine tg_mem (ci := 10) (C := RX10) (T := TX10) (N := 49) hx hb hts inX10 hown hK hw 14 m_u_8 rfl (by decide) (hts _ tw_1151) (fun _ h9 => h9) dX10_holds_19 ?_
  refine lv_iload_n hx hb dX10_holds_22 rfl (lv_at hl 1 rfl) ?_
  refine lv_iconst (v := 2) hx hb dX10_holds_23 (by decide) ?_
  refine lv_iadd hx hb dX10_holds_24 (lv_topi (fun v_11 e_v_11 => ?_))
  obtain ⟨t_v_11, r_v_11⟩ := tq_add (lo := 176) (hi := 288) r_v_7 rl_2 (by decide +kernel) e_v_11
  have t_v_11 : v_11.toInt = v_7.toInt + 2 := t_v_11
  refine tg_iald (lo := (-2147483648)) (hi := 2147483647) hx hb hK hw h_vu_8 rfl 176 288 r_v_11 (by decide) (by decide +kernel) dX10_holds_25 (fun v_12 r_v_12 m_v_12 o_v_12 => ?_)
  refine lv_istore (lv' := [(5, .int v_12), (4, .int v_10), (3, .int v_7), (0, .ref p0), (1, .int p1), (2, .int p2)]) hx hb dX10_holds_26 hl (by decide) rfl (fun ls hl => ?_)
  refine lv_aload_n hx hb dX10_holds_28 rfl (lv_at hl 3 rfl) ?_
  refine tg_mem (ci := 10) (C := RX10) (T := TX10) (N := 49) hx hb hts inX10 hown hK hw 14 m_u_8 rfl (by decide) (hts _ tw_1151) (fun _ h9 => h9) dX10_holds_29 ?_
  refine lv_iload_n hx hb dX10_holds_32 rfl (lv_at hl 2 rfl) ?_
  refine tg_iald (lo := (-2147483648)) (hi := 2147483647) hx hb hK hw h_vu_8 rfl 174 286 r_v_7 (by decide) (by decide +kernel) dX10_holds_33 (fun v_13 r_v_13 m_v_13 o_v_13 => ?_)
  by_cases k_34_1 : v_13 = 1
  · refine lv_lookup (tgt := 108) (off := 74) hx hb dX10_holds_34 (by decide) (by rw [k_34_1]; decide) (by decide) ?_
    have r_v_13 : RI v_13 1 1 := by rw [k_34_1]; exact rl_1
    have g_v_10 : 0 ≤ v_10.toInt ∧ v_10.toInt < p1.toInt := by obtain ⟨_, f9, e8, e7, q9, _⟩ := ax_of (k := 14) (t := 34) hw h_p0 rfl (fun _ => rfl); cases FLD.inj hw.2.2.1 e8 m_u_8; have t9 := ARR.ael hw.2.2.1 e7 m_v_13; have x9 := ARR.ael hw.2.2.1 e7 m_v_10; rw [show Int32.toNatClampNeg v_7 = 174 + 4 * Int32.toNatClampNeg p1 from (by have k1 := r_v_7.cl (by decide); have k2 := r_p1.cl (by decide); omega)] at t9; rw [show Int32.toNatClampNeg v_9 = 175 + 4 * Int32.toNatClampNeg p1 from (by have k1 := r_v_9.cl (by decide); have k2 := r_p1.cl (by decide); omega)] at x9; exact RN_child q9 (r_p1.to (by decide)) t9 x9 (r_v_13.to (by decide))
    have r_v_10 : RI v_10 0 27 := ⟨g_v_10.1, by have k1 := r_p1.2; omega⟩
    refine lv_aload_n hx hb dX10_holds_108 rfl (lv_at hl 3 rfl) ?_
    refine lv_iload hx hb dX10_holds_109 (lv_at hl 1 rfl) ?_
    refine lv_iload_n hx hb dX10_holds_111 rfl (lv_at hl 5 rfl) ?_
    refine tk_ir (va_runV (As := [.int v_10, .int p2]) (rest := []) ⟨hx, hb, hml, hown, hts⟩ (c_X10_holds__32 l D cy z s.heap.size Ps w0 hw.1 p0 v_10 p2 h_p0 r_v_10 r_p2) (cwV 2 hts (gV tw_1787 tw_1789 ts_119 tw_15 tw_1790) rfl rfl rfl (by decide +kernel) ⟨Nat.le_of_ble_eq_true rfl, Nat.le_of_ble_eq_true rfl⟩) (tg_preV hw hK hSD hA (ci := 10) (q := (RX10, TX10, 49)) rfl h_p0 rfl) rfl rfl hl.1 rfl (lv_room (Nat.le_of_ble_eq_true rfl)) dX10_holds_112 ⟨Nat.le_of_ble_eq_true rfl, Nat.le_of_ble_eq_true rfl⟩) hw hA (fun v_14  H locs hp_v_14 hw => ?_)
    have r_v_14 : RI v_14 0 1 := hp_v_14.1
    refine lv_if_ne (tgt := 122) hx hb dX10_holds_115 (by decide) (fun c_115 => ?_) (fun c_115 => ?_)
    · have r_v_14 : RI v_14 1 1 := rc_neL r_v_14 rl_0 (ti_ne c_115) (by decide)
      refine lv_iconst (v := 0) hx hb dX10_holds_122 (by decide) ?_
      subst hQ
      exact W.zret (v := 0) hx hb hr (rfl) (fun t ht hW => ⟨⟨0, (), rfl, ⟨rl_0.to (by decide), (fun h0 => trivial), (fun _ => trivial)⟩, by rw [ht]; exact hw.2.1, va_K.moved hW.alike hK, hw.2.2.1⟩, hw.2.2.2.1.F ht⟩) hw.2.2.2.1.2.2 dX10_holds_123
    · have r_v_14 : RI v_14 0 0 := rc_eq1 r_v_14 rl_0 (ti_eq c_115) (by decide)
      refine lv_iconst (v := 1) hx hb dX10_holds_118 (by decide) ?_
      refine lv_goto (tgt := 123) hx hb dX10_holds_119 (by decide) ?_
      subst hQ
      exact W.zret (v := 1) hx hb hr (rfl) (fun t ht hW => ⟨⟨1, (), rfl, ⟨rl_1.to (by decide), (fun _ => trivial), (fun h0 => trivial)⟩, by rw [ht]; exact hw.2.1, va_K.moved hW.alike hK, hw.2.2.1⟩, hw.2.2.2.1.F ht⟩) hw.2.2.2.1.2.2 dX10_holds_123
  · by_cases k_34_2 : v_13 = 2
    · refine lv_lookup (tgt := 124) (off := 90) hx hb dX10_holds_34 (by decide) (by rw [k_34_2]; decide) (by decide) ?_
      have r_v_13 : RI v_13 2 2 := by rw [k_34_2]; exact rl_2
      have g_v_10 : 0 ≤ v_10.toInt ∧ v_10.toInt < p1.toInt := by obtain ⟨_, f9, e8, e7, q9, _⟩ := ax_of (k := 14) (t := 34) hw h_p0 rfl (fun _ => rfl); cases FLD.inj hw.2.2.1 e8 m_u_8; have t9 := ARR.ael hw.2.2.1 e7 m_v_13; have x9 := ARR.ael hw.2.2.1 e7 m_v_10; rw [show Int32.toNatClampNeg v_7 = 174 + 4 * Int32.toNatClampNeg p1 from (by have k1 := r_v_7.cl (by decide); have k2 := r_p1.cl (by decide); omega)] at t9; rw [show Int32.toNatClampNeg v_9 = 175 + 4 * Int32.toNatClampNeg p1 from (by have k1 := r_v_9.cl (by decide); have k2 := r_p1.cl (by decide); omega)] at x9; exact RN_child q9 (r_p1.to (by decide)) t9 x9 (r_v_13.to (by decide))
      have r_v_10 : RI v_10 0 27 := ⟨g_v_10.1, by have k1 := r_p1.2; omega⟩
      have g_v_12 : 0 ≤ v_12.toInt ∧ v_12.toInt < p1.toInt := by obtain ⟨_, f9, e8, e7, q9, _⟩ := ax_of (k := 14) (t := 34) hw h_p0 rfl (fun _ => rfl); cases FLD.inj hw.2.2.1 e8 m_u_8; have t9 := ARR.ael hw.2.2.1 e7 m_v_13; have x9 := ARR.ael hw.2.2.1 e7 m_v_12; rw [show Int32.toNatClampNeg v_7 = 174 + 4 * Int32.toNatClampNeg p1 from (by have k1 := r_v_7.cl (by decide); have k2 := r_p1.cl (by decide); omega)] at t9; rw [show Int32.toNatClampNeg v_11 = 176 + 4 * Int32.toNatClampNeg p1 from (by have k1 := r_v_11.cl (by decide); have k2 := r_p1.cl (by decide); omega)] at x9; exact RN_child2 q9 (r_p1.to (by decide)) t9 x9 (r_v_13.to (by decide))
      have r_v_12 : RI v_12 0 27 := ⟨g_v_12.1, by have k1 := r_p1.2; omega⟩
      refine lv_aload_n hx hb dX10_holds_124 rfl (lv_at hl 3 rfl) ?_
      refine lv_iload hx hb dX10_holds_125 (lv_at hl 1 rfl) ?_
      refine lv_iload_n hx hb dX10_holds_127 rfl (lv_at hl 5 rfl) ?_
      refine tk_ir (va_runV (As := [.int v_10, .int p2]) (rest := []) ⟨hx, hb, hml, hown, hts⟩ (c_X10_holds__32 l D cy z s.heap.size Ps w0 hw.1 p0 v_10 p2 h_p0 r_v_10 r_p2) (cwV 2 hts (gV tw_1787 tw_1789 ts_119 tw_15 tw_1790) rfl rfl rfl (by decide +kernel) ⟨Nat.le_of_ble_eq_true rfl, Nat.le_of_ble_eq_true rfl⟩) (tg_preV hw hK hSD hA (ci := 10) (q := (RX10, TX10, 49)) rfl h_p0 rfl) rfl rfl hl.1 rfl (lv_room (Nat.le_of_ble_eq_true rfl)) dX10_holds_128 ⟨Nat.le_of_ble_eq_true rfl, Nat.le_of_ble_eq_true rfl⟩) hw hA (fun v_15  H locs hp_v_15 hw => ?_)
      have r_v_15 : RI v_15 0 1 := hp_v_15.1
      refine lv_if_eq (tgt := 148) hx hb dX10_holds_131 (by decide) (fun c_131 => ?_) (fun c_131 => ?_)
      · have r_v_15 : RI v_15 0 0 := rc_eq1 r_v_15 rl_0 (ti_eq c_131) (by decide)
        refine lv_iconst (v := 0) hx hb dX10_holds_148 (by decide) ?_
        subst hQ
        exact W.zret (v := 0) hx hb hr (rfl) (fun t ht hW => ⟨⟨0, (), rfl, ⟨rl_0.to (by decide), (fun h0 => trivial), (fun _ => trivial)⟩, by rw [ht]; exact hw.2.1, va_K.moved hW.alike hK, hw.2.2.1⟩, hw.2.2.2.1.F ht⟩) hw.2.2.2.1.2.2 dX10_holds_149
      · have r_v_15 : RI v_15 1 1 := rc_neL r_v_15 rl_0 (ti_ne c_131) (by decide)
        refine lv_aload_n hx hb dX10_holds_134 rfl (lv_at hl 3 rfl) ?_
        refine lv_iload hx hb dX10_holds_135 (lv_at hl 0 rfl) ?_
        refine lv_iload_n hx hb dX10_holds_137 rfl (lv_at hl 5 rfl) ?_
        refine tk_ir (va_runV (As := [.int v_12, .int p2]) (rest := []) ⟨hx, hb, hml, hown, hts⟩ (c_X10_holds__32 l D cy z H.size Ps w0 hw.1 p0 v_12 p2 h_p0 r_v_12 r_p2) (cwV 2 hts (gV tw_1787 tw_1789 ts_119 tw_15 tw_1790) rfl rfl rfl (by decide +kernel) ⟨Nat.le_of_ble_eq_true rfl, Nat.le_of_ble_eq_true rfl⟩) (tg_preV hw hK hSD hA (ci := 10) (q := (RX10, TX10, 49)) rfl h_p0 rfl) rfl rfl hl.1 rfl (lv_room (Nat.le_of_ble_eq_true rfl)) dX10_holds_138 ⟨Nat.le_of_ble_eq_true rfl, Nat.le_of_ble_eq_true rfl⟩) hw hA (fun v_16  H locs hp_v_16 hw => ?_)
        have r_v_16 : RI v_16 0 1 := hp_v_16.1
        refine lv_if_eq (tgt := 148) hx hb dX10_holds_141 (by decide) (fun c_141 => ?_) (fun c_141 => ?_)
        · have r_v_16 : RI v_16 0 0 := rc_eq1 r_v_16 rl_0 (ti_eq c_141) (by decide)
          refine lv_iconst (v := 0) hx hb dX10_holds_148 (by decide) ?_
          subst hQ
          exact W.zret (v := 0) hx hb hr (rfl) (fun t ht hW => ⟨⟨0, (), rfl, ⟨rl_0.to (by decide), (fun h0 => trivial), (fun _ => trivial)⟩, by rw [ht]; exact hw.2.1, va_K.moved hW.alike hK, hw.2.2.1⟩, hw.2.2.2.1.F ht⟩) hw.2.2.2.1.2.2 dX10_holds_149
        · have r_v_16 : RI v_16 1 1 := rc_neL r_v_16 rl_0 (ti_ne c_141) (by decide)
          refine lv_iconst (v := 1) hx hb dX10_holds_144 (by decide) ?_
          refine lv_goto (tgt := 149) hx hb dX10_holds_145 (by decide) ?_
          subst hQ
          exact W.zret (v := 1) hx hb hr (rfl) (fun t ht hW => ⟨⟨1, (), rfl, ⟨rl_1.to (by decide), (fun _ => trivial), (fun h0 => trivial)⟩, by rw [ht]; exact hw.2.1, va_K.moved hW.alike hK, hw.2.2.1⟩, hw.2.2.2.1.F ht⟩) hw.2.2.2.1.2.2 dX10_holds_149
    · by_cases k_34_3 : v_13 = 3
      · refine lv_lookup (tgt := 150) (off := 116) hx hb dX10_holds_34 (by decide) (by rw [k_34_3]; decide) (by decide) ?_
        have r_v_13 : RI v_13 3 3 := by rw [k_34_3]; exact rl_3
        have g_v_10 : 0 ≤ v_10.toInt ∧ v_10.toInt < p1.toInt := by obtain ⟨_, f9, e8, e7, q9, _⟩ := ax_of (k := 14) (t := 34) hw h_p0 rfl (fun _ => rfl); cases FLD.inj hw.2.2.1 e8 m_u_8; have t9 := ARR.ael hw.2.2.1 e7 m_v_13; have x9 := ARR.ael hw.2.2.1 e7 m_v_10; rw [show Int32.toNatClampNeg v_7 = 174 + 4 * Int32.toNatClampNeg p1 from (by have k1 := r_v_7.cl (by decide); have k2 := r_p1.cl (by decide); omega)] at t9; rw [show Int32.toNatClampNeg v_9 = 175 + 4 * Int32.toNatClampNeg p1 from (by have k1 := r_v_9.cl (by decide); have k2 := r_p1.cl (by decide); omega)] at x9; exact RN_child q9 (r_p1.to (by decide)) t9 x9 (r_v_13.to (by decide))
        have r_v_10 : RI v_10 0 27 := ⟨g_v_10.1, by have k1 := r_p1.2; omega⟩
        have g_v_12 : 0 ≤ v_12.toInt ∧ v_12.toInt < p1.toInt := by obtain ⟨_, f9, e8, e7, q9, _⟩ := ax_of (k := 14) (t := 34) hw h_p0 rfl (fun _ => rfl); cases FLD.inj hw.2.2.1 e8 m_u_8; have t9 := ARR.ael hw.2.2.1 e7 m_v_13; have x9 := ARR.ael hw.2.2.1 e7 m_v_12; rw [show Int32.toNatClampNeg v_7 = 174 + 4 * Int32.toNatClampNeg p1 from (by have k1 := r_v_7.cl (by decide); have k2 := r_p1.cl (by decide); omega)] at t9; rw [show Int32.toNatClampNeg v_11 = 176 + 4 * Int32.toNatClampNeg p1 from (by have k1 := r_v_11.cl (by decide); have k2 := r_p1.cl (by decide); omega)] at x9; exact RN_child2 q9 (r_p1.to (by decide)) t9 x9 (r_v_13.to (by decide))
        have r_v_12 : RI v_12 0 27 := ⟨g_v_12.1, by have k1 := r_p1.2; omega⟩
        refine lv_aload_n hx hb dX10_holds_150 rfl (lv_at hl 3 rfl) ?_
        refine lv_iload hx hb dX10_holds_151 (lv_at hl 1 rfl) ?_
        refine lv_iload_n hx hb dX10_holds_153 rfl (lv_at hl 5 rfl) ?_
        refine tk_ir (va_runV (As := [.int v_10, .int p2]) (rest := []) ⟨hx, hb, hml, hown, hts⟩ (c_X10_holds__32 l D cy z s.heap.size Ps w0 hw.1 p0 v_10 p2 h_p0 r_v_10 r_p2) (cwV 2 hts (gV tw_1787 tw_1789 ts_119 tw_15 tw_1790) rfl rfl rfl (by decide +kernel) ⟨Nat.le_of_ble_eq_true rfl, Nat.le_of_ble_eq_true rfl⟩) (tg_preV hw hK hSD hA (ci := 10) (q := (RX10, TX10, 49)) rfl h_p0 rfl) rfl rfl hl.1 rfl (lv_room (Nat.le_of_ble_eq_true rfl)) dX10_holds_154 ⟨Nat.le_of_ble_eq_true rfl, Nat.le_of_ble_eq_true rfl⟩) hw hA (fun v_17  H locs hp_v_17 hw => ?_)
        have r_v_17 : RI v_17 0 1 := hp_v_17.1
        refine lv_if_ne (tgt := 170) hx hb dX10_holds_157 (by decide) (fun c_157 => ?_) (fun c_157 => ?_)
        · have r_v_17 : RI v_17 1 1 := rc_neL r_v_17 rl_0 (ti_ne c_157) (by decide)
          refine lv_iconst (v := 1) hx hb dX10_holds_170 (by decide) ?_
          refine lv_goto (tgt := 175) hx hb dX10_holds_171 (by decide) ?_
          subst hQ
          exact W.zret (v := 1) hx hb hr (rfl) (fun t ht hW => ⟨⟨1, (), rfl, ⟨rl_1.to (by decide), (fun _ => trivial), (fun h0 => trivial)⟩, by rw [ht]; exact hw.2.1, va_K.moved hW.alike hK, hw.2.2.1⟩, hw.2.2.2.1.F ht⟩) hw.2.2.2.1.2.2 dX10_holds_175
        · have r_v_17 : RI v_17 0 0 := rc_eq1 r_v_17 rl_0 (ti_eq c_157) (by decide)
          refine lv_aload_n hx hb dX10_holds_160 rfl (lv_at hl 3 rfl) ?_
          refine lv_iload hx hb dX10_holds_161 (lv_at hl 0 rfl) ?_
          refine lv_iload_n hx hb dX10_holds_163 rfl (lv_at hl 5 rfl) ?_
          refine tk_ir (va_runV (As := [.int v_12, .int p2]) (rest := []) ⟨hx, hb, hml, hown, hts⟩ (c_X10_holds__32 l D cy z H.size Ps w0 hw.1 p0 v_12 p2 h_p0 r_v_12 r_p2) (cwV 2 hts (gV tw_1787 tw_1789 ts_119 tw_15 tw_1790) rfl rfl rfl (by decide +kernel) ⟨Nat.le_of_ble_eq_true rfl, Nat.le_of_ble_eq_true rfl⟩) (tg_preV hw hK hSD hA (ci := 10) (q := (RX10, TX10, 49)) rfl h_p0 rfl) rfl rfl hl.1 rfl (lv_room (Nat.le_of_ble_eq_true rfl)) dX10_holds_164 ⟨Nat.le_of_ble_eq_true rfl, Nat.le_of_ble_eq_true rfl⟩) hw hA (fun v_18  H locs hp_v_18 hw => ?_)
          have r_v_18 : RI v_18 0 1 := hp_v_18.1
          refine lv_if_eq (tgt := 174) hx hb dX10_holds_167 (by decide) (fun c_167 => ?_) (fun c_167 => ?_)
          · have r_v_18 : RI v_18 0 0 := rc_eq1 r_v_18 rl_0 (ti_eq c_167) (by decide)
            refine lv_iconst (v := 0) hx hb dX10_holds_174 (by decide) ?_
            subst hQ
            exact W.zret (v := 0) hx hb hr (rfl) (fun t ht hW => ⟨⟨0, (), rfl, ⟨rl_0.to (by decide), (fun h0 => trivial), (fun _ => trivial)⟩, by rw [ht]; exact hw.2.1, va_K.moved hW.alike hK, hw.2.2.1⟩, hw.2.2.2.1.F ht⟩) hw.2.2.2.1.2.2 dX10_holds_175
          · have r_v_18 : RI v_18 1 1 := rc_neL r_v_18 rl_0 (ti_ne c_167) (by decide)
            refine lv_iconst (v := 1) hx hb dX10_holds_170 (by decide) ?_
            refine lv_goto (tgt := 175) hx hb dX10_holds_171 (by decide) ?_
            subst hQ
            exact W.zret (v := 1) hx hb hr (rfl) (fun t ht hW => ⟨⟨1, (), rfl, ⟨rl_1.to (by decide), (fun _ => trivial), (fun h0 => trivial)⟩, by rw [ht]; exact hw.2.1, va_K.moved hW.alike hK, hw.2.2.1⟩, hw.2.2.2.1.F ht⟩) hw.2.2.2.1.2.2 dX10_holds_175
      · by_cases k_34_69 : v_13 = 69
        · refine lv_lookup (tgt := 176) (off := 142) hx hb dX10_holds_34 (by decide) (by rw [k_34_69]; decide) (by decide) ?_
          have r_v_13 : RI v_13 69 69 := by rw [k_34_69]; exact rl_69
          refine lv_aload_n hx hb dX10_holds_176 rfl (lv_at hl 3 rfl) ?_
          refine lv_iload_n hx hb dX10_holds_177 rfl (lv_at hl 5 rfl) ?_
          refine tk_ir (va_runV (As := [.int p2]) (rest := []) ⟨hx, hb, hml, hown, hts⟩ (c_X10_isOpen l D cy z s.heap.size Ps w0 hw.1 p0 p2 h_p0 (r_p2.to (by decide))) (cwV 1 hts (gV tw_1457 tw_1459 ts_71 tw_15 tw_1460) rfl rfl rfl (by decide +kernel) ⟨Nat.le_of_ble_eq_true rfl, Nat.le_of_ble_eq_true rfl⟩) (tg_preV hw hK hSD hA (ci := 10) (q := (RX10, TX10, 49)) rfl h_p0 rfl) rfl rfl hl.1 rfl (lv_room (Nat.le_of_ble_eq_true rfl)) dX10_holds_178 ⟨Nat.le_of_ble_eq_true rfl, Nat.le_of_ble_eq_true rfl⟩) hw hA (fun v_19  H locs hp_v_19 hw => ?_)
          have r_v_19 : RI v_19 0 1 := hp_v_19.1
          subst hQ
          exact W.zret (v := v_19) hx hb hr (tq_nz (r_v_19.to (by decide))) (fun t ht hW => ⟨⟨v_19, (), rfl, ⟨r_v_19.to (by decide), (fun h0 => trivial), (fun h0 => trivial)⟩, by rw [ht]; exact hw.2.1, va_K.moved hW.alike hK, hw.2.2.1⟩, hw.2.2.2.1.F ht⟩) hw.2.2.2.1.2.2 dX10_holds_181
        · by_cases k_34_70 : v_13 = 70
          · refine lv_lookup (tgt := 182) (off := 148) hx hb dX10_holds_34 (by decide) (by rw [k_34_70]; decide) (by decide) ?_
            have r_v_13 : RI v_13 70 70 := by rw [k_34_70]; exact rl_70
            refine lv_aload_n hx hb dX10_holds_182 rfl (lv_at hl 3 rfl) ?_
            refine lv_iload_n hx hb dX10_holds_183 rfl (lv_at hl 5 rfl) ?_
            refine tk_ir (va_runV (As := [.int p2]) (rest := []) ⟨hx, hb, hml, hown, hts⟩ (c_X10_whatIs l D cy z s.heap.size Ps w0 hw.1 p0 p2 h_p0 r_p2) (cwV 1 hts (gV tw_1449 tw_1451 ts_69 tw_15 tw_1452) rfl rfl rfl (by decide +kernel) ⟨Nat.le_of_ble_eq_true rfl, Nat.le_of_ble_eq_true rfl⟩) (tg_preV hw hK hSD hA (ci := 10) (q := (RX10, TX10, 49)) rfl h_p0 rfl) rfl rfl hl.1 rfl (lv_room (Nat.le_of_ble_eq_true rfl)) dX10_holds_184 ⟨Nat.le_of_ble_eq_true rfl, Nat.le_of_ble_eq_true rfl⟩) hw hA (fun v_20  H locs hp_v_20 hw => ?_)
            have r_v_20 : RI v_20 (-1) 5 := hp_v_20.1
            by_cases c9_v_20 : v_20.toInt < 0
            · have r_v_20 : RI v_20 (-1) (-1) := by unfold RI at r_v_20 ⊢; omega
              have x_NB_p0_p2 := (hp_v_20.2.2.2.2.1 (by omega)).1
              refine lv_iconst (v := (-1)) hx hb dX10_holds_187 (by decide) ?_
              refine lv_icmp_ne (tgt := 195) hx hb dX10_holds_188 (by decide) (fun c_188 => ?_) (fun c_188 => ?_)
              · exact absurd (r_v_20.eq.trans rl_m1.eq.symm) ((ti_ne c_188))
              · refine lv_iconst (v := 1) hx hb dX10_holds_191 (by decide) ?_
                refine lv_goto (tgt := 196) hx hb dX10_holds_192 (by decide) ?_
                subst hQ
                exact W.zret (v := 1) hx hb hr (rfl) (fun t ht hW => ⟨⟨1, (), rfl, ⟨rl_1.to (by decide), (fun _ => trivial), (fun h0 => trivial)⟩, by rw [ht]; exact hw.2.1, va_K.moved hW.alike hK, hw.2.2.1⟩, hw.2.2.2.1.F ht⟩) hw.2.2.2.1.2.2 dX10_holds_196
            · have r_v_20 : RI v_20 0 5 := by unfold RI at r_v_20 ⊢; omega
              have x_WB_p0_p2_v_20 := (hp_v_20.2.2.2.2.2 (by omega)).1
              refine lv_iconst (v := (-1)) hx hb dX10_holds_187 (by decide) ?_
              refine lv_icmp_ne (tgt := 195) hx hb dX10_holds_188 (by decide) (fun c_188 => ?_) (fun c_188 => ?_)
              · refine lv_iconst (v := 0) hx hb dX10_holds_195 (by decide) ?_
                subst hQ
                exact W.zret (v := 0) hx hb hr (rfl) (fun t ht hW => ⟨⟨0, (), rfl, ⟨rl_0.to (by decide), (fun h0 => trivial), (fun _ => trivial)⟩, by rw [ht]; exact hw.2.1, va_K.moved hW.alike hK, hw.2.2.1⟩, hw.2.2.2.1.F ht⟩) hw.2.2.2.1.2.2 dX10_holds_196
              · have r_v_20 : RI v_20 0 (-1) := rc_eq1 r_v_20 rl_m1 (ti_eq c_188) (by decide)
                exact (r_v_20.no (by decide)).elim
          · by_cases k_34_71 : v_13 = 71
            · refine lv_lookup (tgt := 197) (off := 163) hx hb dX10_holds_34 (by decide) (by rw [k_34_71]; decide) (by decide) ?_
              have r_v_13 : RI v_13 71 71 := by rw [k_34_71]; exact rl_71
              refine lv_aload_n hx hb dX10_holds_197 rfl (lv_at hl 3 rfl) ?_
              refine lv_iload_n hx hb dX10_holds_198 rfl (lv_at hl 5 rfl) ?_
              refine tk_ir (va_runV (As := [.int p2]) (rest := []) ⟨hx, hb, hml, hown, hts⟩ (c_X10_sittersOf l D cy z s.heap.size Ps w0 hw.1 p0 p2 h_p0 (r_p2.to (by decide))) (cwV 1 hts (gV tw_1461 tw_1463 ts_72 tw_15 tw_1464) rfl rfl rfl (by decide +kernel) ⟨Nat.le_of_ble_eq_true rfl, Nat.le_of_ble_eq_true rfl⟩) (tg_preV hw hK hSD hA (ci := 10) (q := (RX10, TX10, 49)) rfl h_p0 rfl) rfl rfl hl.1 rfl (lv_room (Nat.le_of_ble_eq_true rfl)) dX10_holds_199 ⟨Nat.le_of_ble_eq_true rfl, Nat.le_of_ble_eq_true rfl⟩) hw hA (fun v_21  H locs hp_v_21 hw => ?_)
              have r_v_21 : RI v_21 (-2147483648) 2147483647 := hp_v_21.1
              refine lv_if_eq (tgt := 209) hx hb dX10_holds_202 (by decide) (fun c_202 => ?_) (fun c_202 => ?_)
              · have r_v_21 : RI v_21 0 0 := rc_eq1 r_v_21 rl_0 (ti_eq c_202) (by decide)
                refine lv_iconst (v := 0) hx hb dX10_holds_209 (by decide) ?_
                subst hQ
                exact W.zret (v := 0) hx hb hr (rfl) (fun t ht hW => ⟨⟨0, (), rfl, ⟨rl_0.to (by decide), (fun h0 => trivial), (fun _ => trivial)⟩, by rw [ht]; exact hw.2.1, va_K.moved hW.alike hK, hw.2.2.1⟩, hw.2.2.2.1.F ht⟩) hw.2.2.2.1.2.2 dX10_holds_210
              · refine lv_iconst (v := 1) hx hb dX10_holds_205 (by decide) ?_
                refine lv_goto (tgt := 210) hx hb dX10_holds_206 (by decide) ?_
                subst hQ
                exact W.zret (v := 1) hx hb hr (rfl) (fun t ht hW => ⟨⟨1, (), rfl, ⟨rl_1.to (by decide), (fun _ => trivial), (fun h0 => trivial)⟩, by rw [ht]; exact hw.2.1, va_K.moved hW.alike hK, hw.2.2.1⟩, hw.2.2.2.1.F ht⟩) hw.2.2.2.1.2.2 dX10_holds_210
            · by_cases k_34_72 : v_13 = 72
              · refine lv_lookup (tgt := 211) (off := 177) hx hb dX10_holds_34 (by decide) (by rw [k_34_72]; decide) (by decide) ?_
                have r_v_13 : RI v_13 72 72 := by rw [k_34_72]; exact rl_72
                refine lv_aload_n hx hb dX10_holds_211 rfl (lv_at hl 3 rfl) ?_
                refine lv_iload_n hx hb dX10_holds_212 rfl (lv_at hl 5 rfl) ?_
                refine tk_ir (va_runV (As := [.int p2]) (rest := []) ⟨hx, hb, hml, hown, hts⟩ (c_X10_whatIs l D cy z s.heap.size Ps w0 hw.1 p0 p2 h_p0 r_p2) (cwV 1 hts (gV tw_1449 tw_1451 ts_69 tw_15 tw_1452) rfl rfl rfl (by decide +kernel) ⟨Nat.le_of_ble_eq_true rfl, Nat.le_of_ble_eq_true rfl⟩) (tg_preV hw hK hSD hA (ci := 10) (q := (RX10, TX10, 49)) rfl h_p0 rfl) rfl rfl hl.1 rfl (lv_room (Nat.le_of_ble_eq_true rfl)) dX10_holds_213 ⟨Nat.le_of_ble_eq_true rfl, Nat.le_of_ble_eq_true rfl⟩) hw hA (fun v_22  H locs hp_v_22 hw => ?_)
                have r_v_22 : RI v_22 (-1) 5 := hp_v_22.1
                by_cases c9_v_22 : v_22.toInt < 0
                · have r_v_22 : RI v_22 (-1) (-1) := by unfold RI at r_v_22 ⊢; omega
                  have x_NB_p0_p2 := (hp_v_22.2.2.2.2.1 (by omega)).1
                  refine lv_iload hx hb dX10_holds_216 (lv_at hl 1 rfl) ?_
                  refine lv_icmp_ne (tgt := 225) hx hb dX10_holds_218 (by decide) (fun c_218 => ?_) (fun c_218 => ?_)
                  · refine lv_iconst (v := 0) hx hb dX10_holds_225 (by decide) ?_
                    subst hQ
                    exact W.zret (v := 0) hx hb hr (rfl) (fun t ht hW => ⟨⟨0, (), rfl, ⟨rl_0.to (by decide), (fun h0 => trivial), (fun _ => trivial)⟩, by rw [ht]; exact hw.2.1, va_K.moved hW.alike hK, hw.2.2.1⟩, hw.2.2.2.1.F ht⟩) hw.2.2.2.1.2.2 dX10_holds_226
                  · have r_v_10 : RI v_10 (-1) (-1) := rc_eq2 r_v_22 r_v_10 (ti_eq c_218) (by decide)
                    refine lv_iconst (v := 1) hx hb dX10_holds_221 (by decide) ?_
                    refine lv_goto (tgt := 226) hx hb dX10_holds_222 (by decide) ?_
                    subst hQ
                    exact W.zret (v := 1) hx hb hr (rfl) (fun t ht hW => ⟨⟨1, (), rfl, ⟨rl_1.to (by decide), (fun _ => trivial), (fun h0 => trivial)⟩, by rw [ht]; exact hw.2.1, va_K.moved hW.alike hK, hw.2.2.1⟩, hw.2.2.2.1.F ht⟩) hw.2.2.2.1.2.2 dX10_holds_226
                · have r_v_22 : RI v_22 0 5 := by unfold RI at r_v_22 ⊢; omega
                  have x_WB_p0_p2_v_22 := (hp_v_22.2.2.2.2.2 (by omega)).1
                  refine lv_iload hx hb dX10_holds_216 (lv_at hl 1 rfl) ?_
                  refine lv_icmp_ne (tgt := 225) hx hb dX10_holds_218 (by decide) (fun c_218 => ?_) (fun c_218 => ?_)
                  · refine lv_iconst (v := 0) hx hb dX10_holds_225 (by decide) ?_
                    subst hQ
                    exact W.zret (v := 0) hx hb hr (rfl) (fun t ht hW => ⟨⟨0, (), rfl, ⟨rl_0.to (by decide), (fun h0 => trivial), (fun _ => trivial)⟩, by rw [ht]; exact hw.2.1, va_K.moved hW.alike hK, hw.2.2.1⟩, hw.2.2.2.1.F ht⟩) hw.2.2.2.1.2.2 dX10_holds_226
                  · have r_v_10 : RI v_10 0 5 := rc_eq2 r_v_22 r_v_10 (ti_eq c_218) (by decide)
                    refine lv_iconst (v := 1) hx hb dX10_holds_221 (by decide) ?_
                    refine lv_goto (tgt := 226) hx hb dX10_holds_222 (by decide) ?_
                    subst hQ
                    exact W.zret (v := 1) hx hb hr (rfl) (fun t ht hW => ⟨⟨1, (), rfl, ⟨rl_1.to (by decide), (fun _ => trivial), (fun h0 => trivial)⟩, by rw [ht]; exact hw.2.1, va_K.moved hW.alike hK, hw.2.2.1⟩, hw.2.2.2.1.F ht⟩) hw.2.2.2.1.2.2 dX10_holds_226
              · by_cases k_34_73 : v_13 = 73
                · refine lv_lookup (tgt := 227) (off := 193) hx hb dX10_holds_34 (by decide) (by rw [k_34_73]; decide) (by decide) ?_
                  have r_v_13 : RI v_13 73 73 := by rw [k_34_73]; exact rl_73
                  refine lv_aload_n hx hb dX10_holds_227 rfl (lv_at hl 3 rfl) ?_
                  refine tg_mem (ci := 10) (C := RX10) (T := TX10) (N := 49) hx hb hts inX10 hown hK hw 14 m_u_8 rfl (by decide) (hts _ tw_1151) (fun _ h9 => h9) dX10_holds_228 ?_
                  refine lv_bipush (v := 86) hx hb dX10_holds_231 (by decide) ?_
                  refine lv_iload_n hx hb dX10_holds_233 rfl (lv_at hl 5 rfl) ?_
                  refine lv_iadd hx hb dX10_holds_234 (lv_topi (fun v_23 e_v_23 => ?_))
                  obtain ⟨t_v_23, r_v_23⟩ := tq_add (lo := 86) (hi := 91) rl_86 r_p2 (by decide +kernel) e_v_23
                  have t_v_23 : v_23.toInt = 86 + p2.toInt := t_v_23
                  refine tg_iald (lo := (-2147483648)) (hi := 2147483647) hx hb hK hw h_vu_8 rfl 86 91 r_v_23 (by decide) (by decide +kernel) dX10_holds_235 (fun v_24 r_v_24 m_v_24 o_v_24 => ?_)
                  refine lv_iload hx hb dX10_holds_236 (lv_at hl 1 rfl) ?_
                  refine lv_icmp_ne (tgt := 245) hx hb dX10_holds_238 (by decide) (fun c_238 => ?_) (fun c_238 => ?_)
                  · refine lv_iconst (v := 0) hx hb dX10_holds_245 (by decide) ?_
                    subst hQ
                    exact W.zret (v := 0) hx hb hr (rfl) (fun t ht hW => ⟨⟨0, (), rfl, ⟨rl_0.to (by decide), (fun h0 => trivial), (fun _ => trivial)⟩, by rw [ht]; exact hw.2.1, va_K.moved hW.alike hK, hw.2.2.1⟩, hw.2.2.2.1.F ht⟩) hw.2.2.2.1.2.2 dX10_holds_246
                  · refine lv_iconst (v := 1) hx hb dX10_holds_241 (by decide) ?_
                    refine lv_goto (tgt := 246) hx hb dX10_holds_242 (by decide) ?_
                    subst hQ
                    exact W.zret (v := 1) hx hb hr (rfl) (fun t ht hW => ⟨⟨1, (), rfl, ⟨rl_1.to (by decide), (fun _ => trivial), (fun h0 => trivial)⟩, by rw [ht]; exact hw.2.1, va_K.moved hW.alike hK, hw.2.2.1⟩, hw.2.2.2.1.F ht⟩) hw.2.2.2.1.2.2 dX10_holds_246
                · refine lv_lookup (tgt := 247) (off := 213) hx hb dX10_holds_34 (by decide) ((lv_osw k_34_1 (by decide)).trans ((lv_osw k_34_2 (by decide)).trans ((lv_osw k_34_3 (by decide)).trans ((lv_osw k_34_69 (by decide)).trans ((lv_osw k_34_70 (by decide)).trans ((lv_osw k_34_71 (by decide)).trans ((lv_osw k_34_72 (by decide)).trans ((lv_osw k_34_73 (by decide)).trans (rfl))))))))) (by decide) ?_
                  refine lv_aload_n hx hb dX10_holds_247 rfl (lv_at hl 3 rfl) ?_
                  refine tg_mem (ci := 10) (C := RX10) (T := TX10) (N := 49) hx hb hts inX10 hown hK hw 14 m_u_8 rfl (by decide) (hts _ tw_1151) (fun _ h9 => h9) dX10_holds_248 ?_
                  refine lv_iload_n hx hb dX10_holds_251 rfl (lv_at hl 2 rfl) ?_
                  refine tg_imem hx hb hK hw h_vu_8 rfl r_v_7 (by decide) m_v_13 dX10_holds_252 ?_
                  refine lv_bipush (v := 50) hx hb dX10_holds_253 (by decide) ?_
                  refine lv_isub hx hb dX10_holds_255 (lv_topi (fun v_26 e_v_26 => ?_))
                  have r_v_26 := ri_any v_26
                  refine lv_istore (lv' := [(6, .int v_26), (5, .int v_12), (4, .int v_10), (3, .int v_7), (0, .ref p0), (1, .int p1), (2, .int p2)]) hx hb dX10_holds_256 hl (by decide) rfl (fun ls hl => ?_)
                  refine lv_iload hx hb dX10_holds_258 (lv_at hl 0 rfl) ?_
                  refine lv_bipush (v := 24) hx hb dX10_holds_260 (by decide) ?_
                  refine lv_icmp_ne (tgt := 273) hx hb dX10_holds_262 (by decide) (fun c_262 => ?_) (fun c_262 => ?_)
                  · refine lv_iload hx hb dX10_holds_273 (lv_at hl 0 rfl) ?_
                    refine lv_bipush (v := 25) hx hb dX10_holds_275 (by decide) ?_
                    refine lv_icmp_ne (tgt := 292) hx hb dX10_holds_277 (by decide) (fun c_277 => ?_) (fun c_277 => ?_)
                    · refine lv_iload hx hb dX10_holds_292 (lv_at hl 0 rfl) ?_
                      refine lv_bipush (v := 26) hx hb dX10_holds_294 (by decide) ?_
                      refine lv_icmp_ne (tgt := 311) hx hb dX10_holds_296 (by decide) (fun c_296 => ?_) (fun c_296 => ?_)
                      · refine lv_iload_n hx hb dX10_holds_311 rfl (lv_at hl 6 rfl) ?_
                        exact B312 v_7 v_10 v_12 v_26 p2 _ _ ls r_p1 r_p2 r_v_7 r_v_10 r_v_12 r_v_26 (r_p2.to (by decide)) hw (lv_sub hl [4, 5, 6, 3, 2, 1, 0] rfl)
                      · have r_v_26 : RI v_26 26 26 := rc_eq1 r_v_26 rl_26 (ti_eq c_296) (by decide)
                        refine lv_aload_n hx hb dX10_holds_299 rfl (lv_at hl 4 rfl) ?_
                        refine tg_mem (ci := 10) (C := RX10) (T := TX10) (N := 49) hx hb hts inX10 hown hK hw 14 m_u_8 rfl (by decide) (hts _ tw_1151) (fun _ h9 => h9) dX10_holds_300 ?_
                        refine lv_bipush (v := 98) hx hb dX10_holds_303 (by decide) ?_
                        refine lv_iload_n hx hb dX10_holds_305 rfl (lv_at hl 6 rfl) ?_
                        refine lv_iadd hx hb dX10_holds_306 (lv_topi (fun v_27 e_v_27 => ?_))
                        obtain ⟨t_v_27, r_v_27⟩ := tq_add (lo := 98) (hi := 103) rl_98 r_p2 (by decide +kernel) e_v_27
                        have t_v_27 : v_27.toInt = 98 + p2.toInt := t_v_27
                        refine tg_iald (lo := (-2147483648)) (hi := 2147483647) hx hb hK hw h_vu_8 rfl 98 103 r_v_27 (by decide) (by decide +kernel) dX10_holds_307 (fun v_28 r_v_28 m_v_28 o_v_28 => ?_)
                        refine lv_goto (tgt := 312) hx hb dX10_holds_308 (by decide) ?_
                        exact B312 v_7 v_10 v_12 v_26 v_28 _ _ ls r_p1 r_p2 r_v_7 r_v_10 r_v_12 (r_v_26.to (by decide)) r_v_28 hw (lv_sub hl [4, 5, 6, 3, 2, 1, 0] rfl)
                    · have r_v_26 : RI v_26 25 25 := rc_eq1 r_v_26 rl_25 (ti_eq c_277) (by decide)
                      refine lv_aload_n hx hb dX10_holds_280 rfl (lv_at hl 4 rfl) ?_
                      refine tg_mem (ci := 10) (C := RX10) (T := TX10) (N := 49) hx hb hts inX10 hown hK hw 14 m_u_8 rfl (by decide) (hts _ tw_1151) (fun _ h9 => h9) dX10_holds_281 ?_
                      refine lv_bipush (v := 92) hx hb dX10_holds_284 (by decide) ?_
                      refine lv_iload_n hx hb dX10_holds_286 rfl (lv_at hl 6 rfl) ?_
                      refine lv_iadd hx hb dX10_holds_287 (lv_topi (fun v_29 e_v_29 => ?_))
                      obtain ⟨t_v_29, r_v_29⟩ := tq_add (lo := 92) (hi := 97) rl_92 r_p2 (by decide +kernel) e_v_29
                      have t_v_29 : v_29.toInt = 92 + p2.toInt := t_v_29
                      refine tg_iald (lo := (-2147483648)) (hi := 2147483647) hx hb hK hw h_vu_8 rfl 92 97 r_v_29 (by decide) (by decide +kernel) dX10_holds_288 (fun v_30 r_v_30 m_v_30 o_v_30 => ?_)
                      refine lv_goto (tgt := 312) hx hb dX10_holds_289 (by decide) ?_
                      exact B312 v_7 v_10 v_12 v_26 v_30 _ _ ls r_p1 r_p2 r_v_7 r_v_10 r_v_12 (r_v_26.to (by decide)) r_v_30 hw (lv_sub hl [4, 5, 6, 3, 2, 1, 0] rfl)
                  · have r_v_26 : RI v_26 24 24 := rc_eq1 r_v_26 rl_24 (ti_eq c_262) (by decide)
                    refine lv_aload_n hx hb dX10_holds_265 rfl (lv_at hl 4 rfl) ?_
                    refine lv_iload_n hx hb dX10_holds_266 rfl (lv_at hl 6 rfl) ?_
                    refine tk_ir (va_runV (As := [.int p2]) (rest := []) ⟨hx, hb, hml, hown, hts⟩ (c_X10_sizeOf l D cy z s.heap.size Ps w0 hw.1 p0 p2 h_p0 r_p2) (cwV 1 hts (gV tw_1453 tw_1455 ts_70 tw_15 tw_1456) rfl rfl rfl (by decide +kernel) ⟨Nat.le_of_ble_eq_true rfl, Nat.le_of_ble_eq_true rfl⟩) (tg_preV hw hK hSD hA (ci := 10) (q := (RX10, TX10, 49)) rfl h_p0 rfl) rfl rfl hl.1 rfl (lv_room (Nat.le_of_ble_eq_true rfl)) dX10_holds_267 ⟨Nat.le_of_ble_eq_true rfl, Nat.le_of_ble_eq_true rfl⟩) hw hA (fun v_31  H locs hp_v_31 hw => ?_)
                    have r_v_31 : RI v_31 (-2147483648) 2147483647 := hp_v_31.1
                    refine lv_goto (tgt := 312) hx hb dX10_holds_270 (by decide) ?_
                    exact B312 v_7 v_10 v_12 v_26 v_31 _ _ ls r_p1 r_p2 r_v_7 r_v_10 r_v_12 (r_v_26.to (by decide)) r_v_31 hw (lv_sub hl [4, 5, 6, 3, 2, 1, 0] rfl)
abbrev wr_X10_holds__30 : List (Nat × Nat) := []
abbrev wa_X10_holds__30 : List Nat := []
set_option maxHeartbeats 4000000 in
set_option maxRecDepth 100000 in
theorem c_X10_holds__30 (l : Launch) (D : va_G) (cy : Nat → ClassId) (z : Nat → Nat) (sz : Nat) (Ps : PSI) (w0 : va_W) (hT : HT cy GG Ps w0) (p0 : Nat) (p1 : Int32) (p2 : Int32) (h_p0 : (p0, 55) ∈ Ps) (r_p1 : RI p1 0 29) (r_p2 : RI p2 0 5) : Met l yX10_holds (Cond.code yX10_holds cX10_holds 8 (some .boolean) :: gT) ({ frames := 32, cells := 0, slots := 0, locals := 6400 } : Room) (va_Pc [.ref p0, .int p1, .int p2] (PRE D cy z w0 sz)) (va_Qi (fun (r : Int32) (u : Unit) => RI r 0 1 ∧ (r = 0 → True) ∧ (¬ r = 0 → True)) (BB D cy (va_A w0 sz) (fun (u : Unit) => w0)) (va_A w0 sz)) 0 0 (va_A w0 sz) := by
  refine Met.ofW (cc := cX10_holds) (maxL := 8) (ret := (some .boolean)) (by decide) rfl ?_
  intro p e s m args below meth c s₁ B hml hv
  obtain ⟨rfl, hsz, hP, hK, hD0, hSD⟩ := hv
  have hx := B.exec
  have hb := B.bytes
  have hr := B.returns
  have hlocks := B.notSynchronized
  have hts : ∀ w ∈ gT, w.before _ s = true := fun w h => atoms_spec (ws := Cond.code yX10_holds cX10_holds 8 (some .boolean) :: gT) B.pre w (List.mem_cons_of_mem _ h)
  have hown : s.vm.findClass RX10 = some m.cls := findClass_of_methodNamed B.named
  subst hsz
  have hD := hD0.self (sz := s.heap.size)
  generalize hAe : va_A w0 s.heap.size = A at hD hSD ⊢
  have hA : ∀ q : Nat, s.heap.size ≤ q → A q := fun q h => by rw [← hAe]; exact Or.inr h
  have hl := lv_entry ([.ref p0, .int p1, .int p2]) (n := 8) (Nat.le_of_ble_eq_true rfl)
  rw [lg_entry_eq]
  generalize (lg_sl ([.ref p0, .int p1, .int p2]) ++ List.replicate (8 - (lg_sl ([.ref p0, .int p1, .int p2])).length) Slot.unset).toArray = ls at hl ⊢
  have hl : lv_has ls 8 [(0, .ref p0), (1, .int p1), (2, .int p2)] := hl
  refine nameQ (fun Q hQ => ?_)
  have hw : WD D cy GG A s wr_X10_holds__30 wa_X10_holds__30 Ps w0 Ps w0 s.heap [] := ⟨hT, hP, hD, va_S.rf, FR.rf, hT.1, [], (List.append_nil _).symm⟩
  have B312 : ∀ (x3 : Int32) (x4 : Int32) (x5 : Int32) (x6 : Int32) (y0 : Int32) (H : Heap) (locs : List Loc) (ls : Array Slot), RI p1 0 29 → RI p2 0 5 → RI x3 174 290 → RI x4 (-2147483648) 2147483647 → RI x5 (-2147483648) 2147483647 → RI x6 (-2147483648) 2147483647 → RI y0 (-2147483648) 2147483647 → WD D cy GG A s wr_X10_holds__30 wa_X10_holds__30 Ps w0 Ps w0 H locs → lv_has ls 8 [(0, .ref p0), (1, .int p1), (2, .int p2), (3, .int x3), (4, .int x4), (5, .int x5), (6, .int x6)] → W p l e (headSpec (Cond.code yX10_holds cX10_holds 8 (some .boolean) :: gT) ({ frames := 32, cells := 0, slots := 0, locals := 6400 } : Room)).room s m ([.ref p0, .int p1, .int p2] : List Value).toArray below meth c H locs 0 0 Q (F0 m 312 ls [.int y0]) := by
    intro x3 x4 x5 x6 y0 H locs ls r_p1 r_p2 r_x3 r_x4 r_x5 r_x6 r_y0 hw hl
    refine lv_istore (lv' := [(7, .int y0), (0, .ref p0), (1, .int p1), (2, .int p2), (3, .int x3), (4, .int x4), (5, .int x5), (6, .int x6)]) hx hb dX10_holds_312 hl (by decide) rfl (fun ls hl => ?_)
    refine lv_aload_n hx hb dX10_holds_314 rfl (lv_at hl 1 rfl) ?_
    refine tg_get (ci := 10) (ts := ty_MODEL) (C := RX10) (T := TX10) (N := 49) hx hb hts inX10 hown hK hw h_p0 rfl rfl 14 (by decide) (hts _ tw_1151) (fun _ h9 => h9) (ft := vR 34) rfl dX10_holds_315 (fun u_1 hv_u_1 m_u_1 => ?_)
    obtain ⟨vu_1, rfl, h_vu_1⟩ := hv_u_1
    refine lv_iload_n hx hb dX10_holds_318 rfl (lv_at hl 4 rfl) ?_
    refine lv_iconst (v := 3) hx hb dX10_holds_319 (by decide) ?_
    refine lv_iadd hx hb dX10_holds_320 (lv_topi (fun v_2 e_v_2 => ?_))
    obtain ⟨t_v_2, r_v_2⟩ := tq_add (lo := 177) (hi := 293) r_x3 rl_3 (by decide +kernel) e_v_2
    have t_v_2 : v_2.toInt = x3.toInt + 3 := t_v_2
    refine tg_iald (lo := (-2147483648)) (hi := 2147483647) hx hb hK hw h_vu_1 rfl 177 293 r_v_2 (by decide) (by decide +kernel) dX10_holds_321 (fun v_3 r_v_3 m_v_3 o_v_3 => ?_)
    refine lv_bipush (v := 60) hx hb dX10_holds_322 (by decide) ?_
    refine lv_icmp_ne (tgt := 342) hx hb dX10_holds_324 (by decide) (fun c_324 => ?_) (fun c_324 => ?_)
    · refine lv_aload_n hx hb dX10_holds_342 rfl (lv_at hl 1 rfl) ?_
      refine tg_mem (ci := 10) (C := RX10) (T := TX10) (N := 49) hx hb hts inX10 hown hK hw 14 m_u_1 rfl (by decide) (hts _ tw_1151) (fun _ h9 => h9) dX10_holds_343 ?_
      refine lv_iload_n hx hb dX10_holds_346 rfl (lv_at hl 4 rfl) ?_
      refine lv_iconst (v := 3) hx hb dX10_holds_347 (by decide) ?_
      refine lv_iadd hx hb dX10_holds_348 (lv_topi (fun v_4 e_v_4 => ?_))
      obtain ⟨t_v_4, r_v_4⟩ := tq_add (lo := 177) (hi := 293) r_x3 rl_3 (by decide +kernel) e_v_4
      have t_v_4 : v_4.toInt = x3.toInt + 3 := t_v_4
      refine tg_iald (lo := (-2147483648)) (hi := 2147483647) hx hb hK hw h_vu_1 rfl 177 293 r_v_4 (by decide) (by decide +kernel) dX10_holds_349 (fun v_5 r_v_5 m_v_5 o_v_5 => ?_)
      refine lv_bipush (v := 61) hx hb dX10_holds_350 (by decide) ?_
      refine lv_icmp_ne (tgt := 370) hx hb dX10_holds_352 (by decide) (fun c_352 => ?_) (fun c_352 => ?_)
      · refine lv_iload hx hb dX10_holds_370 (lv_at hl 0 rfl) ?_
        refine lv_iload hx hb dX10_holds_372 (lv_at hl 6 rfl) ?_
        refine lv_icmp_le (tgt := 381) hx hb dX10_holds_374 (by decide) (fun c_374 => ?_) (fun c_374 => ?_)
        · refine lv_iconst (v := 0) hx hb dX10_holds_381 (by decide) ?_
          subst hQ
          exact W.zret (v := 0) hx hb hr (rfl) (fun t ht hW => ⟨⟨0, (), rfl, ⟨rl_0.to (by decide), (fun h0 => trivial), (fun _ => trivial)⟩, by rw [ht]; exact hw.2.1, va_K.moved hW.alike hK, hw.2.2.1⟩, hw.2.2.2.1.F ht⟩) hw.2.2.2.1.2.2 dX10_holds_382
        · have r_x5 : RI x5 (-2147483648) 2147483646 := rc_lt1 r_x5 r_y0 (ti_nle c_374) (by decide)
          have r_y0 : RI y0 (-2147483647) 2147483647 := rc_lt2 r_x5 r_y0 (ti_nle c_374) (by decide)
          refine lv_iconst (v := 1) hx hb dX10_holds_377 (by decide) ?_
          refine lv_goto (tgt := 382) hx hb dX10_holds_378 (by decide) ?_
          subst hQ
          exact W.zret (v := 1) hx hb hr (rfl) (fun t ht hW => ⟨⟨1, (), rfl, ⟨rl_1.to (by decide), (fun _ => trivial), (fun h0 => trivial)⟩, by rw [ht]; exact hw.2.1, va_K.moved hW.alike hK, hw.2.2.1⟩, hw.2.2.2.1.F ht⟩) hw.2.2.2.1.2.2 dX10_holds_382
      · have r_v_5 : RI v_5 61 61 := rc_eq1 r_v_5 rl_61 (ti_eq c_352) (by decide)
        refine lv_iload hx hb dX10_holds_355 (lv_at hl 0 rfl) ?_
        refine lv_iload hx hb dX10_holds_357 (lv_at hl 6 rfl) ?_
        refine lv_icmp_ne (tgt := 366) hx hb dX10_holds_359 (by decide) (fun c_359 => ?_) (fun c_359 => ?_)
        · refine lv_iconst (v := 0) hx hb dX10_holds_366 (by decide) ?_
          refine lv_goto (tgt := 382) hx hb dX10_holds_367 (by decide) ?_
          subst hQ
          exact W.zret (v := 0) hx hb hr (rfl) (fun t ht hW => ⟨⟨0, (), rfl, ⟨rl_0.to (by decide), (fun h0 => trivial), (fun _ => trivial)⟩, by rw [ht]; exact hw.2.1, va_K.moved hW.alike hK, hw.2.2.1⟩, hw.2.2.2.1.F ht⟩) hw.2.2.2.1.2.2 dX10_holds_382
        · refine lv_iconst (v := 1) hx hb dX10_holds_362 (by decide) ?_
          refine lv_goto (tgt := 382) hx hb dX10_holds_363 (by decide) ?_
          subst hQ
          exact W.zret (v := 1) hx hb hr (rfl) (fun t ht hW => ⟨⟨1, (), rfl, ⟨rl_1.to (by decide), (fun _ => trivial), (fun h0 => trivial)⟩, by rw [ht]; exact hw.2.1, va_K.moved hW.alike hK, hw.2.2.1⟩, hw.2.2.2.1.F ht⟩) hw.2.2.2.1.2.2 dX10_holds_382
    · have r_v_3 : RI v_3 60 60 := rc_eq1 r_v_3 rl_60 (ti_eq c_324) (by decide)
      refine lv_iload hx hb dX10_holds_327 (lv_at hl 0 rfl) ?_
      refine lv_iload hx hb dX10_holds_329 (lv_at hl 6 rfl) ?_
      refine lv_icmp_ge (tgt := 338) hx hb dX10_holds_331 (by decide) (fun c_331 => ?_) (fun c_331 => ?_)
      · refine lv_iconst (v := 0) hx hb dX10_holds_338 (by decide) ?_
        refine lv_goto (tgt := 382) hx hb dX10_holds_339 (by decide) ?_
        subst hQ
        exact W.zret (v := 0) hx hb hr (rfl) (fun t ht hW => ⟨⟨0, (), rfl, ⟨rl_0.to (by decide), (fun h0 => trivial), (fun _ => trivial)⟩, by rw [ht]; exact hw.2.1, va_K.moved hW.alike hK, hw.2.2.1⟩, hw.2.2.2.1.F ht⟩) hw.2.2.2.1.2.2 dX10_holds_382
      · have r_y0 : RI y0 (-2147483648) 2147483646 := rc_lt1 r_y0 r_x5 (ti_nle c_331) (by decide)
        have r_x5 : RI x5 (-2147483647) 2147483647 := rc_lt2 r_y0 r_x5 (ti_nle c_331) (by decide)
        refine lv_iconst (v := 1) hx hb dX10_holds_334 (by decide) ?_
        refine lv_goto (tgt := 382) hx hb dX10_holds_335 (by decide) ?_
        subst hQ
        exact W.zret (v := 1) hx hb hr (rfl) (fun t ht hW => ⟨⟨1, (), rfl, ⟨rl_1.to (by decide), (fun _ => trivial), (fun h0 => trivial)⟩, by rw [ht]; exact hw.2.1, va_K.moved hW.alike hK, hw.2.2.1⟩, hw.2.2.2.1.F ht⟩) hw.2.2.2.1.2.2 dX10_holds_382
  refine lv_sipush (v := 174) hx hb dX10_holds_0 (by decide) ?_
  refine lv_iconst (v := 4) hx hb dX10_holds_3 (by decide) ?_
  refine lv_iload_n hx hb dX10_holds_4 rfl (lv_at hl 1 rfl) ?_
  refine lv_imul hx hb dX10_holds_5 (lv_topi (fun v_6 e_v_6 => ?_))
  obtain ⟨t_v_6, r_v_6⟩ := tq_mul (lo := 0) (hi := 116) rl_4 r_p1 (by decide +kernel) e_v_6
  have t_v_6 : v_6.toInt = 4 * p1.toInt := t_v_6
  refine lv_iadd hx hb dX10_holds_6 (lv_topi (fun v_7 e_v_7 => ?_))
  obtain ⟨t_v_7, r_v_7⟩ := tq_add (lo := 174) (hi := 290) rl_174 r_v_6 (by decide +kernel) e_v_7
  have t_v_7 : v_7.toInt = 174 + v_6.toInt := t_v_7
  refine lv_istore_n (lv' := [(3, .int v_7), (0, .ref p0), (1, .int p1), (2, .int p2)]) hx hb dX10_holds_7 rfl hl (by decide) rfl (fun ls hl => ?_)
  refine lv_aload_n hx hb dX10_holds_8 rfl (lv_at hl 1 rfl) ?_
  refine tg_get (ci := 10) (ts := ty_MODEL) (C := RX10) (T := TX10) (N := 49) hx hb hts inX10 hown hK hw h_p0 rfl rfl 14 (by decide) (hts _ tw_1151) (fun _ h9 => h9) (ft := vR 34) rfl dX10_holds_9 (fun u_8 hv_u_8 m_u_8 => ?_)
  obtain ⟨vu_8, rfl, h_vu_8⟩ := hv_u_8
  refine lv_iload_n hx hb dX10_holds_12 rfl (lv_at hl 0 rfl) ?_
  refine lv_iconst (v := 1) hx hb dX10_holds_13 (by decide) ?_
  refine lv_iadd hx hb dX10_holds_14 (lv_topi (fun v_9 e_v_9 => ?_))
  obtain ⟨t_v_9, r_v_9⟩ := tq_add (lo := 175) (hi := 291) r_v_7 rl_1 (by decide +kernel) e_v_9
  have t_v_9 : v_9.toInt = v_7.toInt + 1 := t_v_9
  refine tg_iald (lo := (-2147483648)) (hi := 2147483647) hx hb hK hw h_vu_8 rfl 175 291 r_v_9 (by decide) (by decide +kernel) dX10_holds_15 (fun v_10 r_v_10 m_v_10 o_v_10 => ?_)
  refine lv_istore (lv' := [(4, .int v_10), (3, .int v_7), (0, .ref p0), (1, .int p1), (2, .int p2)]) hx hb dX10_holds_16 hl (by decide) rfl (fun ls hl => ?_)
  refine lv_aload_n hx hb dX10_holds_18 rfl (lv_at hl 2 rfl) ?_
  refine tg_mem (ci := 10) (C := RX10) (T := TX10) (N := 49) hx hb hts inX10 hown hK hw 14 m_u_8 rfl (by decide) (hts _ tw_1151) (fun _ h9 => h9) dX10_holds_19 ?_
  refine lv_iload_n hx hb dX10_holds_22 rfl (lv_at hl 1 rfl) ?_
  refine lv_iconst (v := 2) hx hb dX10_holds_23 (by decide) ?_
  refine lv_iadd hx hb dX10_holds_24 (lv_topi (fun v_11 e_v_11 => ?_))
  obtain ⟨t_v_11, r_v_11⟩ := tq_add (lo := 176) (hi := 292) r_v_7 rl_2 (by decide +kernel) e_v_11
  have t_v_11 : v_11.toInt = v_7.toInt + 2 := t_v_11
  refine tg_iald (lo := (-2147483648)) (hi := 2147483647) hx hb hK hw h_vu_8 rfl 176 292 r_v_11 (by decide) (by decide +kernel) dX10_holds_25 (fun v_12 r_v_12 m_v_12 o_v_12 => ?_)
  refine lv_istore (lv' := [(5, .int v_12), (4, .int v_10), (3, .int v_7), (0, .ref p0), (1, .int p1), (2, .int p2)]) hx hb dX10_holds_26 hl (by decide) rfl (fun ls hl => ?_)
  refine lv_aload_n hx hb dX10_holds_28 rfl (lv_at hl 3 rfl) ?_
  refine tg_mem (ci := 10) (C := RX10) (T := TX10) (N := 49) hx hb hts inX10 hown hK hw 14 m_u_8 rfl (by decide) (hts _ tw_1151) (fun _ h9 => h9) dX10_holds_29 ?_
  refine lv_iload_n hx hb dX10_holds_32 rfl (lv_at hl 2 rfl) ?_
  refine tg_iald (lo := (-2147483648)) (hi := 2147483647) hx hb hK hw h_vu_8 rfl 174 290 r_v_7 (by decide) (by decide +kernel) dX10_holds_33 (fun v_13 r_v_13 m_v_13 o_v_13 => ?_)
  by_cases k_34_1 : v_13 = 1
  · refine lv_lookup (tgt := 108) (off := 74) hx hb dX10_holds_34 (by decide) (by rw [k_34_1]; decide) (by decide) ?_
    have r_v_13 : RI v_13 1 1 := by rw [k_34_1]; exact rl_1
    have g_v_10 : 0 ≤ v_10.toInt ∧ v_10.toInt < p1.toInt := by obtain ⟨_, f9, e8, e7, q9, _⟩ := ax_of (k := 14) (t := 34) hw h_p0 rfl (fun _ => rfl); cases FLD.inj hw.2.2.1 e8 m_u_8; have t9 := ARR.ael hw.2.2.1 e7 m_v_13; have x9 := ARR.ael hw.2.2.1 e7 m_v_10; rw [show Int32.toNatClampNeg v_7 = 174 + 4 * Int32.toNatClampNeg p1 from (by have k1 := r_v_7.cl (by decide); have k2 := r_p1.cl (by decide); omega)] at t9; rw [show Int32.toNatClampNeg v_9 = 175 + 4 * Int32.toNatClampNeg p1 from (by have k1 := r_v_9.cl (by decide); have k2 := r_p1.cl (by decide); omega)] at x9; exact RN_child q9 (r_p1.to (by decide)) t9 x9 (r_v_13.to (by decide))
    have r_v_10 : RI v_10 0 28 := ⟨g_v_10.1, by have k1 := r_p1.2; omega⟩
    refine lv_aload_n hx hb dX10_holds_108 rfl (lv_at hl 3 rfl) ?_
    refine lv_iload hx hb dX10_holds_109 (lv_at hl 1 rfl) ?_
    refine lv_iload_n hx hb dX10_holds_111 rfl (lv_at hl 5 rfl) ?_
    refine tk_ir (va_runV (As := [.int v_10, .int p2]) (rest := []) ⟨hx, hb, hml, hown, hts⟩ (c_X10_holds__31 l D cy z s.heap.size Ps w0 hw.1 p0 v_10 p2 h_p0 r_v_10 r_p2) (cwV 2 hts (gV tw_1787 tw_1789 ts_119 tw_15 tw_1790) rfl rfl rfl (by decide +kernel) ⟨Nat.le_of_ble_eq_true rfl, Nat.le_of_ble_eq_true rfl⟩) (tg_preV hw hK hSD hA (ci := 10) (q := (RX10, TX10, 49)) rfl h_p0 rfl) rfl rfl hl.1 rfl (lv_room (Nat.le_of_ble_eq_true rfl)) dX10_holds_112 ⟨Nat.le_of_ble_eq_true rfl, Nat.le_of_ble_eq_true rfl⟩) hw hA (fun v_14  H locs hp_v_14 hw => ?_)
    have r_v_14 : RI v_14 0 1 := hp_v_14.1
    refine lv_if_ne (tgt := 122) hx hb dX10_holds_115 (by decide) (fun c_115 => ?_) (fun c_115 => ?_)
    · have r_v_14 : RI v_14 1 1 := rc_neL r_v_14 rl_0 (ti_ne c_115) (by decide)
      refine lv_iconst (v := 0) hx hb dX10_holds_122 (by decide) ?_
      subst hQ
      exact W.zret (v := 0) hx hb hr (rfl) (fun t ht hW => ⟨⟨0, (), rfl, ⟨rl_0.to (by decide), (fun h0 => trivial), (fun _ => trivial)⟩, by rw [ht]; exact hw.2.1, va_K.moved hW.alike hK, hw.2.2.1⟩, hw.2.2.2.1.F ht⟩) hw.2.2.2.1.2.2 dX10_holds_123
    · have r_v_14 : RI v_14 0 0 := rc_eq1 r_v_14 rl_0 (ti_eq c_115) (by decide)
      refine lv_iconst (v := 1) hx hb dX10_holds_118 (by decide) ?_
      refine lv_goto (tgt := 123) hx hb dX10_holds_119 (by decide) ?_
      subst hQ
      exact W.zret (v := 1) hx hb hr (rfl) (fun t ht hW => ⟨⟨1, (), rfl, ⟨rl_1.to (by decide), (fun _ => trivial), (fun h0 => trivial)⟩, by rw [ht]; exact hw.2.1, va_K.moved hW.alike hK, hw.2.2.1⟩, hw.2.2.2.1.F ht⟩) hw.2.2.2.1.2.2 dX10_holds_123
  · by_cases k_34_2 : v_13 = 2
    · refine lv_lookup (tgt := 124) (off := 90) hx hb dX10_holds_34 (by decide) (by rw [k_34_2]; decide) (by decide) ?_
      have r_v_13 : RI v_13 2 2 := by rw [k_34_2]; exact rl_2
      have g_v_10 : 0 ≤ v_10.toInt ∧ v_10.toInt < p1.toInt := by obtain ⟨_, f9, e8, e7, q9, _⟩ := ax_of (k := 14) (t := 34) hw h_p0 rfl (fun _ => rfl); cases FLD.inj hw.2.2.1 e8 m_u_8; have t9 := ARR.ael hw.2.2.1 e7 m_v_13; have x9 := ARR.ael hw.2.2.1 e7 m_v_10; rw [show Int32.toNatClampNeg v_7 = 174 + 4 * Int32.toNatClampNeg p1 from (by have k1 := r_v_7.cl (by decide); have k2 := r_p1.cl (by decide); omega)] at t9; rw [show Int32.toNatClampNeg v_9 = 175 + 4 * Int32.toNatClampNeg p1 from (by have k1 := r_v_9.cl (by decide); have k2 := r_p1.cl (by decide); omega)] at x9; exact RN_child q9 (r_p1.to (by decide)) t9 x9 (r_v_13.to (by decide))
      have r_v_10 : RI v_10 0 28 := ⟨g_v_10.1, by have k1 := r_p1.2; omega⟩
      have g_v_12 : 0 ≤ v_12.toInt ∧ v_12.toInt < p1.toInt := by obtain ⟨_, f9, e8, e7, q9, _⟩ := ax_of (k := 14) (t := 34) hw h_p0 rfl (fun _ => rfl); cases FLD.inj hw.2.2.1 e8 m_u_8; have t9 := ARR.ael hw.2.2.1 e7 m_v_13; have x9 := ARR.ael hw.2.2.1 e7 m_v_12; rw [show Int32.toNatClampNeg v_7 = 174 + 4 * Int32.toNatClampNeg p1 from (by have k1 := r_v_7.cl (by decide); have k2 := r_p1.cl (by decide); omega)] at t9; rw [show Int32.toNatClampNeg v_11 = 176 + 4 * Int32.toNatClampNeg p1 from (by have k1 := r_v_11.cl (by decide); have k2 := r_p1.cl (by decide); omega)] at x9; exact RN_child2 q9 (r_p1.to (by decide)) t9 x9 (r_v_13.to (by decide))
      have r_v_12 : RI v_12 0 28 := ⟨g_v_12.1, by have k1 := r_p1.2; omega⟩
      refine lv_aload_n hx hb dX10_holds_124 rfl (lv_at hl 3 rfl) ?_
      refine lv_iload hx hb dX10_holds_125 (lv_at hl 1 rfl) ?_
      refine lv_iload_n hx hb dX10_holds_127 rfl (lv_at hl 5 rfl) ?_
      refine tk_ir (va_runV (As := [.int v_10, .int p2]) (rest := []) ⟨hx, hb, hml, hown, hts⟩ (c_X10_holds__31 l D cy z s.heap.size Ps w0 hw.1 p0 v_10 p2 h_p0 r_v_10 r_p2) (cwV 2 hts (gV tw_1787 tw_1789 ts_119 tw_15 tw_1790) rfl rfl rfl (by decide +kernel) ⟨Nat.le_of_ble_eq_true rfl, Nat.le_of_ble_eq_true rfl⟩) (tg_preV hw hK hSD hA (ci := 10) (q := (RX10, TX10, 49)) rfl h_p0 rfl) rfl rfl hl.1 rfl (lv_room (Nat.le_of_ble_eq_true rfl)) dX10_holds_128 ⟨Nat.le_of_ble_eq_true rfl, Nat.le_of_ble_eq_true rfl⟩) hw hA (fun v_15  H locs hp_v_15 hw => ?_)
      have r_v_15 : RI v_15 0 1 := hp_v_15.1
      refine lv_if_eq (tgt := 148) hx hb dX10_holds_131 (by decide) (fun c_131 => ?_) (fun c_131 => ?_)
      · have r_v_15 : RI v_15 0 0 := rc_eq1 r_v_15 rl_0 (ti_eq c_131) (by decide)
        refine lv_iconst (v := 0) hx hb dX10_holds_148 (by decide) ?_
        subst hQ
        exact W.zret (v := 0) hx hb hr (rfl) (fun t ht hW => ⟨⟨0, (), rfl, ⟨rl_0.to (by decide), (fun h0 => trivial), (fun _ => trivial)⟩, by rw [ht]; exact hw.2.1, va_K.moved hW.alike hK, hw.2.2.1⟩, hw.2.2.2.1.F ht⟩) hw.2.2.2.1.2.2 dX10_holds_149
      · have r_v_15 : RI v_15 1 1 := rc_neL r_v_15 rl_0 (ti_ne c_131) (by decide)
        refine lv_aload_n hx hb dX10_holds_134 rfl (lv_at hl 3 rfl) ?_
        refine lv_iload hx hb dX10_holds_135 (lv_at hl 0 rfl) ?_
        refine lv_iload_n hx hb dX10_holds_137 rfl (lv_at hl 5 rfl) ?_
        refine tk_ir (va_runV (As := [.int v_12, .int p2]) (rest := []) ⟨hx, hb, hml, hown, hts⟩ (c_X10_holds__31 l D cy z H.size Ps w0 hw.1 p0 v_12 p2 h_p0 r_v_12 r_p2) (cwV 2 hts (gV tw_1787 tw_1789 ts_119 tw_15 tw_1790) rfl rfl rfl (by decide +kernel) ⟨Nat.le_of_ble_eq_true rfl, Nat.le_of_ble_eq_true rfl⟩) (tg_preV hw hK hSD hA (ci := 10) (q := (RX10, TX10, 49)) rfl h_p0 rfl) rfl rfl hl.1 rfl (lv_room (Nat.le_of_ble_eq_true rfl)) dX10_holds_138 ⟨Nat.le_of_ble_eq_true rfl, Nat.le_of_ble_eq_true rfl⟩) hw hA (fun v_16  H locs hp_v_16 hw => ?_)
        have r_v_16 : RI v_16 0 1 := hp_v_16.1
        refine lv_if_eq (tgt := 148) hx hb dX10_holds_141 (by decide) (fun c_141 => ?_) (fun c_141 => ?_)
        · have r_v_16 : RI v_16 0 0 := rc_eq1 r_v_16 rl_0 (ti_eq c_141) (by decide)
          refine lv_iconst (v := 0) hx hb dX10_holds_148 (by decide) ?_
          subst hQ
          exact W.zret (v := 0) hx hb hr (rfl) (fun t ht hW => ⟨⟨0, (), rfl, ⟨rl_0.to (by decide), (fun h0 => trivial), (fun _ => trivial)⟩, by rw [ht]; exact hw.2.1, va_K.moved hW.alike hK, hw.2.2.1⟩, hw.2.2.2.1.F ht⟩) hw.2.2.2.1.2.2 dX10_holds_149
        · have r_v_16 : RI v_16 1 1 := rc_neL r_v_16 rl_0 (ti_ne c_141) (by decide)
          refine lv_iconst (v := 1) hx hb dX10_holds_144 (by decide) ?_
          refine lv_goto (tgt := 149) hx hb dX10_holds_145 (by decide) ?_
          subst hQ
          exact W.zret (v := 1) hx hb hr (rfl) (fun t ht hW => ⟨⟨1, (), rfl, ⟨rl_1.to (by decide), (fun _ => trivial), (fun h0 => trivial)⟩, by rw [ht]; exact hw.2.1, va_K.moved hW.alike hK, hw.2.2.1⟩, hw.2.2.2.1.F ht⟩) hw.2.2.2.1.2.2 dX10_holds_149
    · by_cases k_34_3 : v_13 = 3
      · refine lv_lookup (tgt := 150) (off := 116) hx hb dX10_holds_34 (by decide) (by rw [k_34_3]; decide) (by decide) ?_
        have r_v_13 : RI v_13 3 3 := by rw [k_34_3]; exact rl_3
        have g_v_10 : 0 ≤ v_10.toInt ∧ v_10.toInt < p1.toInt := by obtain ⟨_, f9, e8, e7, q9, _⟩ := ax_of (k := 14) (t := 34) hw h_p0 rfl (fun _ => rfl); cases FLD.inj hw.2.2.1 e8 m_u_8; have t9 := ARR.ael hw.2.2.1 e7 m_v_13; have x9 := ARR.ael hw.2.2.1 e7 m_v_10; rw [show Int32.toNatClampNeg v_7 = 174 + 4 * Int32.toNatClampNeg p1 from (by have k1 := r_v_7.cl (by decide); have k2 := r_p1.cl (by decide); omega)] at t9; rw [show Int32.toNatClampNeg v_9 = 175 + 4 * Int32.toNatClampNeg p1 from (by have k1 := r_v_9.cl (by decide); have k2 := r_p1.cl (by decide); omega)] at x9; exact RN_child q9 (r_p1.to (by decide)) t9 x9 (r_v_13.to (by decide))
        have r_v_10 : RI v_10 0 28 := ⟨g_v_10.1, by have k1 := r_p1.2; omega⟩
        have g_v_12 : 0 ≤ v_12.toInt ∧ v_12.toInt < p1.toInt := by obtain ⟨_, f9, e8, e7, q9, _⟩ := ax_of (k := 14) (t := 34) hw h_p0 rfl (fun _ => rfl); cases FLD.inj hw.2.2.1 e8 m_u_8; have t9 := ARR.ael hw.2.2.1 e7 m_v_13; have x9 := ARR.ael hw.2.2.1 e7 m_v_12; rw [show Int32.toNatClampNeg v_7 = 174 + 4 * Int32.toNatClampNeg p1 from (by have k1 := r_v_7.cl (by decide); have k2 := r_p1.cl (by decide); omega)] at t9; rw [show Int32.toNatClampNeg v_11 = 176 + 4 * Int32.toNatClampNeg p1 from (by have k1 := r_v_11.cl (by decide); have k2 := r_p1.cl (by decide); omega)] at x9; exact RN_child2 q9 (r_p1.to (by decide)) t9 x9 (r_v_13.to (by decide))
        have r_v_12 : RI v_12 0 28 := ⟨g_v_12.1, by have k1 := r_p1.2; omega⟩
        refine lv_aload_n hx hb dX10_holds_150 rfl (lv_at hl 3 rfl) ?_
        refine lv_iload hx hb dX10_holds_151 (lv_at hl 1 rfl) ?_
        refine lv_iload_n hx hb dX10_holds_153 rfl (lv_at hl 5 rfl) ?_
        refine tk_ir (va_runV (As := [.int v_10, .int p2]) (rest := []) ⟨hx, hb, hml, hown, hts⟩ (c_X10_holds__31 l D cy z s.heap.size Ps w0 hw.1 p0 v_10 p2 h_p0 r_v_10 r_p2) (cwV 2 hts (gV tw_1787 tw_1789 ts_119 tw_15 tw_1790) rfl rfl rfl (by decide +kernel) ⟨Nat.le_of_ble_eq_true rfl, Nat.le_of_ble_eq_true rfl⟩) (tg_preV hw hK hSD hA (ci := 10) (q := (RX10, TX10, 49)) rfl h_p0 rfl) rfl rfl hl.1 rfl (lv_room (Nat.le_of_ble_eq_true rfl)) dX10_holds_154 ⟨Nat.le_of_ble_eq_true rfl, Nat.le_of_ble_eq_true rfl⟩) hw hA (fun v_17  H locs hp_v_17 hw => ?_)
        have r_v_17 : RI v_17 0 1 := hp_v_17.1
        refine lv_if_ne (tgt := 170) hx hb dX10_holds_157 (by decide) (fun c_157 => ?_) (fun c_157 => ?_)
        · have r_v_17 : RI v_17 1 1 := rc_neL r_v_17 rl_0 (ti_ne c_157) (by decide)
          refine lv_iconst (v := 1) hx hb dX10_holds_170 (by decide) ?_
          refine lv_goto (tgt := 175) hx hb dX10_holds_171 (by decide) ?_
          subst hQ
          exact W.zret (v := 1) hx hb hr (rfl) (fun t ht hW => ⟨⟨1, (), rfl, ⟨rl_1.to (by decide), (fun _ => trivial), (fun h0 => trivial)⟩, by rw [ht]; exact hw.2.1, va_K.moved hW.alike hK, hw.2.2.1⟩, hw.2.2.2.1.F ht⟩) hw.2.2.2.1.2.2 dX10_holds_175
        · have r_v_17 : RI v_17 0 0 := rc_eq1 r_v_17 rl_0 (ti_eq c_157) (by decide)
          refine lv_aload_n hx hb dX10_holds_160 rfl (lv_at hl 3 rfl) ?_
          refine lv_iload hx hb dX10_holds_161 (lv_at hl 0 rfl) ?_
          refine lv_iload_n hx hb dX10_holds_163 rfl (lv_at hl 5 rfl) ?_
          refine tk_ir (va_runV (As := [.int v_12, .int p2]) (rest := []) ⟨hx, hb, hml, hown, hts⟩ (c_X10_holds__31 l D cy z H.size Ps w0 hw.1 p0 v_12 p2 h_p0 r_v_12 r_p2) (cwV 2 hts (gV tw_1787 tw_1789 ts_119 tw_15 tw_1790) rfl rfl rfl (by decide +kernel) ⟨Nat.le_of_ble_eq_true rfl, Nat.le_of_ble_eq_true rfl⟩) (tg_preV hw hK hSD hA (ci := 10) (q := (RX10, TX10, 49)) rfl h_p0 rfl) rfl rfl hl.1 rfl (lv_room (Nat.le_of_ble_eq_true rfl)) dX10_holds_164 ⟨Nat.le_of_ble_eq_true rfl, Nat.le_of_ble_eq_true rfl⟩) hw hA (fun v_18  H locs hp_v_18 hw => ?_)
          have r_v_18 : RI v_18 0 1 := hp_v_18.1
          refine lv_if_eq (tgt := 174) hx hb dX10_holds_167 (by decide) (fun c_167 => ?_) (fun c_167 => ?_)
          · have r_v_18 : RI v_18 0 0 := rc_eq1 r_v_18 rl_0 (ti_eq c_167) (by decide)
            refine lv_iconst (v := 0) hx hb dX10_holds_174 (by decide) ?_
            subst hQ
            exact W.zret (v := 0) hx hb hr (rfl) (fun t ht hW => ⟨⟨0, (), rfl, ⟨rl_0.to (by decide), (fun h0 => trivial), (fun _ => trivial)⟩, by rw [ht]; exact hw.2.1, va_K.moved hW.alike hK, hw.2.2.1⟩, hw.2.2.2.1.F ht⟩) hw.2.2.2.1.2.2 dX10_holds_175
          · have r_v_18 : RI v_18 1 1 := rc_neL r_v_18 rl_0 (ti_ne c_167) (by decide)
            refine lv_iconst (v := 1) hx hb dX10_holds_170 (by decide) ?_
            refine lv_goto (tgt := 175) hx hb dX10_holds_171 (by decide) ?_
            subst hQ
            exact W.zret (v := 1) hx hb hr (rfl) (fun t ht hW => ⟨⟨1, (), rfl, ⟨rl_1.to (by decide), (fun _ => trivial), (fun h0 => trivial)⟩, by rw [ht]; exact hw.2.1, va_K.moved hW.alike hK, hw.2.2.1⟩, hw.2.2.2.1.F ht⟩) hw.2.2.2.1.2.2 dX10_holds_175
      · by_cases k_34_69 : v_13 = 69
        · refine lv_lookup (tgt := 176) (off := 142) hx hb dX10_holds_34 (by decide) (by rw [k_34_69]; decide) (by decide) ?_
          have r_v_13 : RI v_13 69 69 := by rw [k_34_69]; exact rl_69
          refine lv_aload_n hx hb dX10_holds_176 rfl (lv_at hl 3 rfl) ?_
          refine lv_iload_n hx hb dX10_holds_177 rfl (lv_at hl 5 rfl) ?_
          refine tk_ir (va_runV (As := [.int p2]) (rest := []) ⟨hx, hb, hml, hown, hts⟩ (c_X10_isOpen l D cy z s.heap.size Ps w0 hw.1 p0 p2 h_p0 (r_p2.to (by decide))) (cwV 1 hts (gV tw_1457 tw_1459 ts_71 tw_15 tw_1460) rfl rfl rfl (by decide +kernel) ⟨Nat.le_of_ble_eq_true rfl, Nat.le_of_ble_eq_true rfl⟩) (tg_preV hw hK hSD hA (ci := 10) (q := (RX10, TX10, 49)) rfl h_p0 rfl) rfl rfl hl.1 rfl (lv_room (Nat.le_of_ble_eq_true rfl)) dX10_holds_178 ⟨Nat.le_of_ble_eq_true rfl, Nat.le_of_ble_eq_true rfl⟩) hw hA (fun v_19  H locs hp_v_19 hw => ?_)
          have r_v_19 : RI v_19 0 1 := hp_v_19.1
          subst hQ
          exact W.zret (v := v_19) hx hb hr (tq_nz (r_v_19.to (by decide))) (fun t ht hW => ⟨⟨v_19, (), rfl, ⟨r_v_19.to (by decide), (fun h0 => trivial), (fun h0 => trivial)⟩, by rw [ht]; exact hw.2.1, va_K.moved hW.alike hK, hw.2.2.1⟩, hw.2.2.2.1.F ht⟩) hw.2.2.2.1.2.2 dX10_holds_181
        · by_cases k_34_70 : v_13 = 70
          · refine lv_lookup (tgt := 182) (off := 148) hx hb dX10_holds_34 (by decide) (by rw [k_34_70]; decide) (by decide) ?_
            have r_v_13 : RI v_13 70 70 := by rw [k_34_70]; exact rl_70
            refine lv_aload_n hx hb dX10_holds_182 rfl (lv_at hl 3 rfl) ?_
            refine lv_iload_n hx hb dX10_holds_183 rfl (lv_at hl 5 rfl) ?_
            refine tk_ir (va_runV (As := [.int p2]) (rest := []) ⟨hx, hb, hml, hown, hts⟩ (c_X10_whatIs l D cy z s.heap.size Ps w0 hw.1 p0 p2 h_p0 r_p2) (cwV 1 hts (gV tw_1449 tw_1451 ts_69 tw_15 tw_1452) rfl rfl rfl (by decide +kernel) ⟨Nat.le_of_ble_eq_true rfl, Nat.le_of_ble_eq_true rfl⟩) (tg_preV hw hK hSD hA (ci := 10) (q := (RX10, TX10, 49)) rfl h_p0 rfl) rfl rfl hl.1 rfl (lv_room (Nat.le_of_ble_eq_true rfl)) dX10_holds_184 ⟨Nat.le_of_ble_eq_true rfl, Nat.le_of_ble_eq_true rfl⟩) hw hA (fun v_20  H locs hp_v_20 hw => ?_)
            have r_v_20 : RI v_20 (-1) 5 := hp_v_20.1
            by_cases c9_v_20 : v_20.toInt < 0
            · have r_v_20 : RI v_20 (-1) (-1) := by unfold RI at r_v_20 ⊢; omega
              have x_NB_p0_p2 := (hp_v_20.2.2.2.2.1 (by omega)).1
              refine lv_iconst (v := (-1)) hx hb dX10_holds_187 (by decide) ?_
              refine lv_icmp_ne (tgt := 195) hx hb dX10_holds_188 (by decide) (fun c_188 => ?_) (fun c_188 => ?_)
              · exact absurd (r_v_20.eq.trans rl_m1.eq.symm) ((ti_ne c_188))
              · refine lv_iconst (v := 1) hx hb dX10_holds_191 (by decide) ?_
                refine lv_goto (tgt := 196) hx hb dX10_holds_192 (by decide) ?_
                subst hQ
                exact W.zret (v := 1) hx hb hr (rfl) (fun t ht hW => ⟨⟨1, (), rfl, ⟨rl_1.to (by decide), (fun _ => trivial), (fun h0 => trivial)⟩, by rw [ht]; exact hw.2.1, va_K.moved hW.alike hK, hw.2.2.1⟩, hw.2.2.2.1.F ht⟩) hw.2.2.2.1.2.2 dX10_holds_196
            · have r_v_20 : RI v_20 0 5 := by unfold RI at r_v_20 ⊢; omega
              have x_WB_p0_p2_v_20 := (hp_v_20.2.2.2.2.2 (by omega)).1
              refine lv_iconst (v := (-1)) hx hb dX10_holds_187 (by decide) ?_
              refine lv_icmp_ne (tgt := 195) hx hb dX10_holds_188 (by decide) (fun c_188 => ?_) (fun c_188 => ?_)
              · refine lv_iconst (v := 0) hx hb dX10_holds_195 (by decide) ?_
                subst hQ
                exact W.zret (v := 0) hx hb hr (rfl) (fun t ht hW => ⟨⟨0, (), rfl, ⟨rl_0.to (by decide), (fun h0 => trivial), (fun _ => trivial)⟩, by rw [ht]; exact hw.2.1, va_K.moved hW.alike hK, hw.2.2.1⟩, hw.2.2.2.1.F ht⟩) hw.2.2.2.1.2.2 dX10_holds_196
              · have r_v_20 : RI v_20 0 (-1) := rc_eq1 r_v_20 rl_m1 (ti_eq c_188) (by decide)
                exact (r_v_20.no (by decide)).elim
          · by_cases k_34_71 : v_13 = 71
            · refine lv_lookup (tgt := 197) (off := 163) hx hb dX10_holds_34 (by decide) (by rw [k_34_71]; decide) (by decide) ?_
              have r_v_13 : RI v_13 71 71 := by rw [k_34_71]; exact rl_71
              refine lv_aload_n hx hb dX10_holds_197 rfl (lv_at hl 3 rfl) ?_
              refine lv_iload_n hx hb dX10_holds_198 rfl (lv_at hl 5 rfl) ?_
              refine tk_ir (va_runV (As := [.int p2]) (rest := []) ⟨hx, hb, hml, hown, hts⟩ (c_X10_sittersOf l D cy z s.heap.size Ps w0 hw.1 p0 p2 h_p0 (r_p2.to (by decide))) (cwV 1 hts (gV tw_1461 tw_1463 ts_72 tw_15 tw_1464) rfl rfl rfl (by decide +kernel) ⟨Nat.le_of_ble_eq_true rfl, Nat.le_of_ble_eq_true rfl⟩) (tg_preV hw hK hSD hA (ci := 10) (q := (RX10, TX10, 49)) rfl h_p0 rfl) rfl rfl hl.1 rfl (lv_room (Nat.le_of_ble_eq_true rfl)) dX10_holds_199 ⟨Nat.le_of_ble_eq_true rfl, Nat.le_of_ble_eq_true rfl⟩) hw hA (fun v_21  H locs hp_v_21 hw => ?_)
              have r_v_21 : RI v_21 (-2147483648) 2147483647 := hp_v_21.1
              refine lv_if_eq (tgt := 209) hx hb dX10_holds_202 (by decide) (fun c_202 => ?_) (fun c_202 => ?_)
              · have r_v_21 : RI v_21 0 0 := rc_eq1 r_v_21 rl_0 (ti_eq c_202) (by decide)
                refine lv_iconst (v := 0) hx hb dX10_holds_209 (by decide) ?_
                subst hQ
                exact W.zret (v := 0) hx hb hr (rfl) (fun t ht hW => ⟨⟨0, (), rfl, ⟨rl_0.to (by decide), (fun h0 => trivial), (fun _ => trivial)⟩, by rw [ht]; exact hw.2.1, va_K.moved hW.alike hK, hw.2.2.1⟩, hw.2.2.2.1.F ht⟩) hw.2.2.2.1.2.2 dX10_holds_210
              · refine lv_iconst (v := 1) hx hb dX10_holds_205 (by decide) ?_
                refine lv_goto (tgt := 210) hx hb dX10_holds_206 (by decide) ?_
                subst hQ
                exact W.zret (v := 1) hx hb hr (rfl) (fun t ht hW => ⟨⟨1, (), rfl, ⟨rl_1.to (by decide), (fun _ => trivial), (fun h0 => trivial)⟩, by rw [ht]; exact hw.2.1, va_K.moved hW.alike hK, hw.2.2.1⟩, hw.2.2.2.1.F ht⟩) hw.2.2.2.1.2.2 dX10_holds_210
            · by_cases k_34_72 : v_13 = 72
              · refine lv_lookup (tgt := 211) (off := 177) hx hb dX10_holds_34 (by decide) (by rw [k_34_72]; decide) (by decide) ?_
                have r_v_13 : RI v_13 72 72 := by rw [k_34_72]; exact rl_72
                refine lv_aload_n hx hb dX10_holds_211 rfl (lv_at hl 3 rfl) ?_
                refine lv_iload_n hx hb dX10_holds_212 rfl (lv_at hl 5 rfl) ?_
                refine tk_ir (va_runV (As := [.int p2]) (rest := []) ⟨hx, hb, hml, hown, hts⟩ (c_X10_whatIs l D cy z s.heap.size Ps w0 hw.1 p0 p2 h_p0 r_p2) (cwV 1 hts (gV tw_1449 tw_1451 ts_69 tw_15 tw_1452) rfl rfl rfl (by decide +kernel) ⟨Nat.le_of_ble_eq_true rfl, Nat.le_of_ble_eq_true rfl⟩) (tg_preV hw hK hSD hA (ci := 10) (q := (RX10, TX10, 49)) rfl h_p0 rfl) rfl rfl hl.1 rfl (lv_room (Nat.le_of_ble_eq_true rfl)) dX10_holds_213 ⟨Nat.le_of_ble_eq_true rfl, Nat.le_of_ble_eq_true rfl⟩) hw hA (fun v_22  H locs hp_v_22 hw => ?_)
                have r_v_22 : RI v_22 (-1) 5 := hp_v_22.1
                by_cases c9_v_22 : v_22.toInt < 0
                · have r_v_22 : RI v_22 (-1) (-1) := by unfold RI at r_v_22 ⊢; omega
                  have x_NB_p0_p2 := (hp_v_22.2.2.2.2.1 (by omega)).1
                  refine lv_iload hx hb dX10_holds_216 (lv_at hl 1 rfl) ?_
                  refine lv_icmp_ne (tgt := 225) hx hb dX10_holds_218 (by decide) (fun c_218 => ?_) (fun c_218 => ?_)
                  · refine lv_iconst (v := 0) hx hb dX10_holds_225 (by decide) ?_
                    subst hQ
                    exact W.zret (v := 0) hx hb hr (rfl) (fun t ht hW => ⟨⟨0, (), rfl, ⟨rl_0.to (by decide), (fun h0 => trivial), (fun _ => trivial)⟩, by rw [ht]; exact hw.2.1, va_K.moved hW.alike hK, hw.2.2.1⟩, hw.2.2.2.1.F ht⟩) hw.2.2.2.1.2.2 dX10_holds_226
                  · have r_v_10 : RI v_10 (-1) (-1) := rc_eq2 r_v_22 r_v_10 (ti_eq c_218) (by decide)
                    refine lv_iconst (v := 1) hx hb dX10_holds_221 (by decide) ?_
                    refine lv_goto (tgt := 226) hx hb dX10_holds_222 (by decide) ?_
                    subst hQ
                    exact W.zret (v := 1) hx hb hr (rfl) (fun t ht hW => ⟨⟨1, (), rfl, ⟨rl_1.to (by decide), (fun _ => trivial), (fun h0 => trivial)⟩, by rw [ht]; exact hw.2.1, va_K.moved hW.alike hK, hw.2.2.1⟩, hw.2.2.2.1.F ht⟩) hw.2.2.2.1.2.2 dX10_holds_226
                · have r_v_22 : RI v_22 0 5 := by unfold RI at r_v_22 ⊢; omega
                  have x_WB_p0_p2_v_22 := (hp_v_22.2.2.2.2.2 (by omega)).1
                  refine lv_iload hx hb dX10_holds_216 (lv_at hl 1 rfl) ?_
                  refine lv_icmp_ne (tgt := 225) hx hb dX10_holds_218 (by decide) (fun c_218 => ?_) (fun c_218 => ?_)
                  · refine lv_iconst (v := 0) hx hb dX10_holds_225 (by decide) ?_
                    subst hQ
                    exact W.zret (v := 0) hx hb hr (rfl) (fun t ht hW => ⟨⟨0, (), rfl, ⟨rl_0.to (by decide), (fun h0 => trivial), (fun _ => trivial)⟩, by rw [ht]; exact hw.2.1, va_K.moved hW.alike hK, hw.2.2.1⟩, hw.2.2.2.1.F ht⟩) hw.2.2.2.1.2.2 dX10_holds_226
                  · have r_v_10 : RI v_10 0 5 := rc_eq2 r_v_22 r_v_10 (ti_eq c_218) (by decide)
                    refine lv_iconst (v := 1) hx hb dX10_holds_221 (by decide) ?_
                    refine lv_goto (tgt := 226) hx hb dX10_holds_222 (by decide) ?_
                    subst hQ
                    exact W.zret (v := 1) hx hb hr (rfl) (fun t ht hW => ⟨⟨1, (), rfl, ⟨rl_1.to (by decide), (fun _ => trivial), (fun h0 => trivial)⟩, by rw [ht]; exact hw.2.1, va_K.moved hW.alike hK, hw.2.2.1⟩, hw.2.2.2.1.F ht⟩) hw.2.2.2.1.2.2 dX10_holds_226
              · by_cases k_34_73 : v_13 = 73
                · refine lv_lookup (tgt := 227) (off := 193) hx hb dX10_holds_34 (by decide) (by rw [k_34_73]; decide) (by decide) ?_
                  have r_v_13 : RI v_13 73 73 := by rw [k_34_73]; exact rl_73
                  refine lv_aload_n hx hb dX10_holds_227 rfl (lv_at hl 3 rfl) ?_
                  refine tg_mem (ci := 10) (C := RX10) (T := TX10) (N := 49) hx hb hts inX10 hown hK hw 14 m_u_8 rfl (by decide) (hts _ tw_1151) (fun _ h9 => h9) dX10_holds_228 ?_
                  refine lv_bipush (v := 86) hx hb dX10_holds_231 (by decide) ?_
                  refine lv_iload_n hx hb dX10_holds_233 rfl (lv_at hl 5 rfl) ?_
                  refine lv_iadd hx hb dX10_holds_234 (lv_topi (fun v_23 e_v_23 => ?_))
                  obtain ⟨t_v_23, r_v_23⟩ := tq_add (lo := 86) (hi := 91) rl_86 r_p2 (by decide +kernel) e_v_23
                  have t_v_23 : v_23.toInt = 86 + p2.toInt := t_v_23
                  refine tg_iald (lo := (-2147483648)) (hi := 2147483647) hx hb hK hw h_vu_8 rfl 86 91 r_v_23 (by decide) (by decide +kernel) dX10_holds_235 (fun v_24 r_v_24 m_v_24 o_v_24 => ?_)
                  refine lv_iload hx hb dX10_holds_236 (lv_at hl 1 rfl) ?_
                  refine lv_icmp_ne (tgt := 245) hx hb dX10_holds_238 (by decide) (fun c_238 => ?_) (fun c_238 => ?_)
                  · refine lv_iconst (v := 0) hx hb dX10_holds_245 (by decide) ?_
                    subst hQ
                    exact W.zret (v := 0) hx hb hr (rfl) (fun t ht hW => ⟨⟨0, (), rfl, ⟨rl_0.to (by decide), (fun h0 => trivial), (fun _ => trivial)⟩, by rw [ht]; exact hw.2.1, va_K.moved hW.alike hK, hw.2.2.1⟩, hw.2.2.2.1.F ht⟩) hw.2.2.2.1.2.2 dX10_holds_246
                  · refine lv_iconst (v := 1) hx hb dX10_holds_241 (by decide) ?_
                    refine lv_goto (tgt := 246) hx hb dX10_holds_242 (by decide) ?_
                    subst hQ
                    exact W.zret (v := 1) hx hb hr (rfl) (fun t ht hW => ⟨⟨1, (), rfl, ⟨rl_1.to (by decide), (fun _ => trivial), (fun h0 => trivial)⟩, by rw [ht]; exact hw.2.1, va_K.moved hW.alike hK, hw.2.2.1⟩, hw.2.2.2.1.F ht⟩) hw.2.2.2.1.2.2 dX10_holds_246
                · refine lv_lookup (tgt := 247) (off := 213) hx hb dX10_holds_34 (by decide) ((lv_osw k_34_1 (by decide)).trans ((lv_osw k_34_2 (by decide)).trans ((lv_osw k_34_3 (by decide)).trans ((lv_osw k_34_69 (by decide)).trans ((lv_osw k_34_70 (by decide)).trans ((lv_osw k_34_71 (by decide)).trans ((lv_osw k_34_72 (by decide)).trans ((lv_osw k_34_73 (by decide)).trans (rfl))))))))) (by decide) ?_
                  refine lv_aload_n hx hb dX10_holds_247 rfl (lv_at hl 3 rfl) ?_
                  refine tg_mem (ci := 10) (C := RX10) (T := TX10) (N := 49) hx hb hts inX10 hown hK hw 14 m_u_8 rfl (by decide) (hts _ tw_1151) (fun _ h9 => h9) dX10_holds_248 ?_
                  refine lv_iload_n hx hb dX10_holds_251 rfl (lv_at hl 2 rfl) ?_
                  refine tg_imem hx hb hK hw h_vu_8 rfl r_v_7 (by decide) m_v_13 dX10_holds_252 ?_
                  refine lv_bipush (v := 50) hx hb dX10_holds_253 (by decide) ?_
                  refine lv_isub hx hb dX10_holds_255 (lv_topi (fun v_26 e_v_26 => ?_))
                  have r_v_26 := ri_any v_26
                  refine lv_istore (lv' := [(6, .int v_26), (5, .int v_12), (4, .int v_10), (3, .int v_7), (0, .ref p0), (1, .int p1), (2, .int p2)]) hx hb dX10_holds_256 hl (by decide) rfl (fun ls hl => ?_)
                  refine lv_iload hx hb dX10_holds_258 (lv_at hl 0 rfl) ?_
                  refine lv_bipush (v := 24) hx hb dX10_holds_260 (by decide) ?_
                  refine lv_icmp_ne (tgt := 273) hx hb dX10_holds_262 (by decide) (fun c_262 => ?_) (fun c_262 => ?_)
                  · refine lv_iload hx hb dX10_holds_273 (lv_at hl 0 rfl) ?_
                    refine lv_bipush (v := 25) hx hb dX10_holds_275 (by decide) ?_
                    refine lv_icmp_ne (tgt := 292) hx hb dX10_holds_277 (by decide) (fun c_277 => ?_) (fun c_277 => ?_)
                    · refine lv_iload hx hb dX10_holds_292 (lv_at hl 0 rfl) ?_
                      refine lv_bipush (v := 26) hx hb dX10_holds_294 (by decide) ?_
                      refine lv_icmp_ne (tgt := 311) hx hb dX10_holds_296 (by decide) (fun c_296 => ?_) (fun c_296 => ?_)
                      · refine lv_iload_n hx hb dX10_holds_311 rfl (lv_at hl 6 rfl) ?_
                        exact B312 v_7 v_10 v_12 v_26 p2 _ _ ls r_p1 r_p2 r_v_7 r_v_10 r_v_12 r_v_26 (r_p2.to (by decide)) hw (lv_sub hl [4, 5, 6, 3, 2, 1, 0] rfl)
                      · have r_v_26 : RI v_26 26 26 := rc_eq1 r_v_26 rl_26 (ti_eq c_296) (by decide)
                        refine lv_aload_n hx hb dX10_holds_299 rfl (lv_at hl 4 rfl) ?_
                        refine tg_mem (ci := 10) (C := RX10) (T := TX10) (N := 49) hx hb hts inX10 hown hK hw 14 m_u_8 rfl (by decide) (hts _ tw_1151) (fun _ h9 => h9) dX10_holds_300 ?_
                        refine lv_bipush (v := 98) hx hb dX10_holds_303 (by decide) ?_
                        refine lv_iload_n hx hb dX10_holds_305 rfl (lv_at hl 6 rfl) ?_
                        refine lv_iadd hx hb dX10_holds_306 (lv_topi (fun v_27 e_v_27 => ?_))
                        obtain ⟨t_v_27, r_v_27⟩ := tq_add (lo := 98) (hi := 103) rl_98 r_p2 (by decide +kernel) e_v_27
                        have t_v_27 : v_27.toInt = 98 + p2.toInt := t_v_27
                        refine tg_iald (lo := (-2147483648)) (hi := 2147483647) hx hb hK hw h_vu_8 rfl 98 103 r_v_27 (by decide) (by decide +kernel) dX10_holds_307 (fun v_28 r_v_28 m_v_28 o_v_28 => ?_)
                        refine lv_goto (tgt := 312) hx hb dX10_holds_308 (by decide) ?_
                        exact B312 v_7 v_10 v_12 v_26 v_28 _ _ ls r_p1 r_p2 r_v_7 r_v_10 r_v_12 (r_v_26.to (by decide)) r_v_28 hw (lv_sub hl [4, 5, 6, 3, 2, 1, 0] rfl)
                    · have r_v_26 : RI v_26 25 25 := rc_eq1 r_v_26 rl_25 (ti_eq c_277) (by decide)
                      refine lv_aload_n hx hb dX10_holds_280 rfl (lv_at hl 4 rfl) ?_
                      refine tg_mem (ci := 10) (C := RX10) (T := TX10) (N := 49) hx hb hts inX10 hown hK hw 14 m_u_8 rfl (by decide) (hts _ tw_1151) (fun _ h9 => h9) dX10_holds_281 ?_
                      refine lv_bipush (v := 92) hx hb dX10_holds_284 (by decide) ?_
                      refine lv_iload_n hx hb dX10_holds_286 rfl (lv_at hl 6 rfl) ?_
                      refine lv_iadd hx hb dX10_holds_287 (lv_topi (fun v_29 e_v_29 => ?_))
                      obtain ⟨t_v_29, r_v_29⟩ := tq_add (lo := 92) (hi := 97) rl_92 r_p2 (by decide +kernel) e_v_29
                      have t_v_29 : v_29.toInt = 92 + p2.toInt := t_v_29
                      refine tg_iald (lo := (-2147483648)) (hi := 2147483647) hx hb hK hw h_vu_8 rfl 92 97 r_v_29 (by decide) (by decide +kernel) dX10_holds_288 (fun v_30 r_v_30 m_v_30 o_v_30 => ?_)
                      refine lv_goto (tgt := 312) hx hb dX10_holds_289 (by decide) ?_
                      exact B312 v_7 v_10 v_12 v_26 v_30 _ _ ls r_p1 r_p2 r_v_7 r_v_10 r_v_12 (r_v_26.to (by decide)) r_v_30 hw (lv_sub hl [4, 5, 6, 3, 2, 1, 0] rfl)
                  · have r_v_26 : RI v_26 24 24 := rc_eq1 r_v_26 rl_24 (ti_eq c_262) (by decide)
                    refine lv_aload_n hx hb dX10_holds_265 rfl (lv_at hl 4 rfl) ?_
                    refine lv_iload_n hx hb dX10_holds_266 rfl (lv_at hl 6 rfl) ?_
                    refine tk_ir (va_runV (As := [.int p2]) (rest := []) ⟨hx, hb, hml, hown, hts⟩ (c_X10_sizeOf l D cy z s.heap.size Ps w0 hw.1 p0 p2 h_p0 r_p2) (cwV 1 hts (gV tw_1453 tw_1455 ts_70 tw_15 tw_1456) rfl rfl rfl (by decide +kernel) ⟨Nat.le_of_ble_eq_true rfl, Nat.le_of_ble_eq_true rfl⟩) (tg_preV hw hK hSD hA (ci := 10) (q := (RX10, TX10, 49)) rfl h_p0 rfl) rfl rfl hl.1 rfl (lv_room (Nat.le_of_ble_eq_true rfl)) dX10_holds_267 ⟨Nat.le_of_ble_eq_true rfl, Nat.le_of_ble_eq_true rfl⟩) hw hA (fun v_31  H locs hp_v_31 hw => ?_)
                    have r_v_31 : RI v_31 (-2147483648) 2147483647 := hp_v_31.1
                    refine lv_goto (tgt := 312) hx hb dX10_holds_270 (by decide) ?_
                    exact B312 v_7 v_10 v_12 v_26 v_31 _ _ ls r_p1 r_p2 r_v_7 r_v_10 r_v_12 (r_v_26.to (by decide)) r_v_31 hw (lv_sub hl [4, 5, 6, 3, 2, 1, 0] rfl)
abbrev wr_X10_holds__29 : List (Nat × Nat) := []
abbrev wa_X10_holds__29 : List Nat := []
set_option maxHeartbeats 4000000 in
set_option maxRecDepth 100000 in
theorem c_X10_holds__29 (l : Launch) (D : va_G) (cy : Nat → ClassId) (z : Nat → Nat) (sz : Nat) (Ps : PSI) (w0 : va_W) (hT : HT cy GG Ps w0) (p0 : Nat) (p1 : Int32) (p2 : Int32) (h_p0 : (p0, 55) ∈ Ps) (r_p1 : RI p1 0 30) (r_p2 : RI p2 0 5) : Met l yX10_holds (Cond.code yX10_holds cX10_holds 8 (some .boolean) :: gT) ({ frames := 33, cells := 0, slots := 0, locals := 6600 } : Room) (va_Pc [.ref p0, .int p1, .int p2] (PRE D cy z w0 sz)) (va_Qi (fun (r : Int32) (u : Unit) => RI r 0 1 ∧ (r = 0 → True) ∧ (¬ r = 0 → True)) (BB D cy (va_A w0 sz) (fun (u : Unit) => w0)) (va_A w0 sz)) 0 0 (va_A w0 sz) := by
  refine Met.ofW (cc := cX10_holds) (maxL := 8) (ret := (some .boolean)) (by decide) rfl ?_
  intro p e s m args below meth c s₁ B hml hv
  obtain ⟨rfl, hsz, hP, hK, hD0, hSD⟩ := hv
  have hx := B.exec
  have hb := B.bytes
  have hr := B.returns
  have hlocks := B.notSynchronized
  have hts : ∀ w ∈ gT, w.before _ s = true := fun w h => atoms_spec (ws := Cond.code yX10_holds cX10_holds 8 (some .boolean) :: gT) B.pre w (List.mem_cons_of_mem _ h)
  have hown : s.vm.findClass RX10 = some m.cls := findClass_of_methodNamed B.named
  subst hsz
  have hD := hD0.self (sz := s.heap.size)
  generalize hAe : va_A w0 s.heap.size = A at hD hSD ⊢
  have hA : ∀ q : Nat, s.heap.size ≤ q → A q := fun q h => by rw [← hAe]; exact Or.inr h
  have hl := lv_entry ([.ref p0, .int p1, .int p2]) (n := 8) (Nat.le_of_ble_eq_true rfl)
  rw [lg_entry_eq]
  generalize (lg_sl ([.ref p0, .int p1, .int p2]) ++ List.replicate (8 - (lg_sl ([.ref p0, .int p1, .int p2])).length) Slot.unset).toArray = ls at hl ⊢
  have hl : lv_has ls 8 [(0, .ref p0), (1, .int p1), (2, .int p2)] := hl
  refine nameQ (fun Q hQ => ?_)
  have hw : WD D cy GG A s wr_X10_holds__29 wa_X10_holds__29 Ps w0 Ps w0 s.heap [] := ⟨hT, hP, hD, va_S.rf, FR.rf, hT.1, [], (List.append_nil _).symm⟩
  have B312 : ∀ (x3 : Int32) (x4 : Int32) (x5 : Int32) (x6 : Int32) (y0 : Int32) (H : Heap) (locs : List Loc) (ls : Array Slot), RI p1 0 30 → RI p2 0 5 → RI x3 174 294 → RI x4 (-2147483648) 2147483647 → RI x5 (-2147483648) 2147483647 → RI x6 (-2147483648) 2147483647 → RI y0 (-2147483648) 2147483647 → WD D cy GG A s wr_X10_holds__29 wa_X10_holds__29 Ps w0 Ps w0 H locs → lv_has ls 8 [(0, .ref p0), (1, .int p1), (2, .int p2), (3, .int x3), (4, .int x4), (5, .int x5), (6, .int x6)] → W p l e (headSpec (Cond.code yX10_holds cX10_holds 8 (some .boolean) :: gT) ({ frames := 33, cells := 0, slots := 0, locals := 6600 } : Room)).room s m ([.ref p0, .int p1, .int p2] : List Value).toArray below meth c H locs 0 0 Q (F0 m 312 ls [.int y0]) := by
    intro x3 x4 x5 x6 y0 H locs ls r_p1 r_p2 r_x3 r_x4 r_x5 r_x6 r_y0 hw hl
    refine lv_istore (lv' := [(7, .int y0), (0, .ref p0), (1, .int p1), (2, .int p2), (3, .int x3), (4, .int x4), (5, .int x5), (6, .int x6)]) hx hb dX10_holds_312 hl (by decide) rfl (fun ls hl => ?_)
    refine lv_aload_n hx hb dX10_holds_314 rfl (lv_at hl 1 rfl) ?_
    refine tg_get (ci := 10) (ts := ty_MODEL) (C := RX10) (T := TX10) (N := 49) hx hb hts inX10 hown hK hw h_p0 rfl rfl 14 (by decide) (hts _ tw_1151) (fun _ h9 => h9) (ft := vR 34) rfl dX10_holds_315 (fun u_1 hv_u_1 m_u_1 => ?_)
    obtain ⟨vu_1, rfl, h_vu_1⟩ := hv_u_1
    refine lv_iload_n hx hb dX10_holds_318 rfl (lv_at hl 4 rfl) ?_
    refine lv_iconst (v := 3) hx hb dX10_holds_319 (by decide) ?_
    refine lv_iadd hx hb dX10_holds_320 (lv_topi (fun v_2 e_v_2 => ?_))
    obtain ⟨t_v_2, r_v_2⟩ := tq_add (lo := 177) (hi := 297) r_x3 rl_3 (by decide +kernel) e_v_2
    have t_v_2 : v_2.toInt = x3.toInt + 3 := t_v_2
    refine tg_iald (lo := (-2147483648)) (hi := 2147483647) hx hb hK hw h_vu_1 rfl 177 297 r_v_2 (by decide) (by decide +kernel) dX10_holds_321 (fun v_3 r_v_3 m_v_3 o_v_3 => ?_)
    refine lv_bipush (v := 60) hx hb dX10_holds_322 (by decide) ?_
    refine lv_icmp_ne (tgt := 342) hx hb dX10_holds_324 (by decide) (fun c_324 => ?_) (fun c_324 => ?_)
    · refine lv_aload_n hx hb dX10_holds_342 rfl (lv_at hl 1 rfl) ?_
      refine tg_mem (ci := 10) (C := RX10) (T := TX10) (N := 49) hx hb hts inX10 hown hK hw 14 m_u_1 rfl (by decide) (hts _ tw_1151) (fun _ h9 => h9) dX10_holds_343 ?_
      refine lv_iload_n hx hb dX10_holds_346 rfl (lv_at hl 4 rfl) ?_
      refine lv_iconst (v := 3) hx hb dX10_holds_347 (by decide) ?_
      refine lv_iadd hx hb dX10_holds_348 (lv_topi (fun v_4 e_v_4 => ?_))
      obtain ⟨t_v_4, r_v_4⟩ := tq_add (lo := 177) (hi := 297) r_x3 rl_3 (by decide +kernel) e_v_4
      have t_v_4 : v_4.toInt = x3.toInt + 3 := t_v_4
      refine tg_iald (lo := (-2147483648)) (hi := 2147483647) hx hb hK hw h_vu_1 rfl 177 297 r_v_4 (by decide) (by decide +kernel) dX10_holds_349 (fun v_5 r_v_5 m_v_5 o_v_5 => ?_)
      refine lv_bipush (v := 61) hx hb dX10_holds_350 (by decide) ?_
      refine lv_icmp_ne (tgt := 370) hx hb dX10_holds_352 (by decide) (fun c_352 => ?_) (fun c_352 => ?_)
      · refine lv_iload hx hb dX10_holds_370 (lv_at hl 0 rfl) ?_
        refine lv_iload hx hb dX10_holds_372 (lv_at hl 6 rfl) ?_
        refine lv_icmp_le (tgt := 381) hx hb dX10_holds_374 (by decide) (fun c_374 => ?_) (fun c_374 => ?_)
        · refine lv_iconst (v := 0) hx hb dX10_holds_381 (by decide) ?_
          subst hQ
          exact W.zret (v := 0) hx hb hr (rfl) (fun t ht hW => ⟨⟨0, (), rfl, ⟨rl_0.to (by decide), (fun h0 => trivial), (fun _ => trivial)⟩, by rw [ht]; exact hw.2.1, va_K.moved hW.alike hK, hw.2.2.1⟩, hw.2.2.2.1.F ht⟩) hw.2.2.2.1.2.2 dX10_holds_382
        · have r_x5 : RI x5 (-2147483648) 2147483646 := rc_lt1 r_x5 r_y0 (ti_nle c_374) (by decide)
          have r_y0 : RI y0 (-2147483647) 2147483647 := rc_lt2 r_x5 r_y0 (ti_nle c_374) (by decide)
          refine lv_iconst (v := 1) hx hb dX10_holds_377 (by decide) ?_
          refine lv_goto (tgt := 382) hx hb dX10_holds_378 (by decide) ?_
          subst hQ
          exact W.zret (v := 1) hx hb hr (rfl) (fun t ht hW => ⟨⟨1, (), rfl, ⟨rl_1.to (by decide), (fun _ => trivial), (fun h0 => trivial)⟩, by rw [ht]; exact hw.2.1, va_K.moved hW.alike hK, hw.2.2.1⟩, hw.2.2.2.1.F ht⟩) hw.2.2.2.1.2.2 dX10_holds_382
      · have r_v_5 : RI v_5 61 61 := rc_eq1 r_v_5 rl_61 (ti_eq c_352) (by decide)
        refine lv_iload hx hb dX10_holds_355 (lv_at hl 0 rfl) ?_
        refine lv_iload hx hb dX10_holds_357 (lv_at hl 6 rfl) ?_
        refine lv_icmp_ne (tgt := 366) hx hb dX10_holds_359 (by decide) (fun c_359 => ?_) (fun c_359 => ?_)
        · refine lv_iconst (v := 0) hx hb dX10_holds_366 (by decide) ?_
          refine lv_goto (tgt := 382) hx hb dX10_holds_367 (by decide) ?_
          subst hQ
          exact W.zret (v := 0) hx hb hr (rfl) (fun t ht hW => ⟨⟨0, (), rfl, ⟨rl_0.to (by decide), (fun h0 => trivial), (fun _ => trivial)⟩, by rw [ht]; exact hw.2.1, va_K.moved hW.alike hK, hw.2.2.1⟩, hw.2.2.2.1.F ht⟩) hw.2.2.2.1.2.2 dX10_holds_382
        · refine lv_iconst (v := 1) hx hb dX10_holds_362 (by decide) ?_
          refine lv_goto (tgt := 382) hx hb dX10_holds_363 (by decide) ?_
          subst hQ
          exact W.zret (v := 1) hx hb hr (rfl) (fun t ht hW => ⟨⟨1, (), rfl, ⟨rl_1.to (by decide), (fun _ => trivial), (fun h0 => trivial)⟩, by rw [ht]; exact hw.2.1, va_K.moved hW.alike hK, hw.2.2.1⟩, hw.2.2.2.1.F ht⟩) hw.2.2.2.1.2.2 dX10_holds_382
    · have r_v_3 : RI v_3 60 60 := rc_eq1 r_v_3 rl_60 (ti_eq c_324) (by decide)
      refine lv_iload hx hb dX10_holds_327 (lv_at hl 0 rfl) ?_
      refine lv_iload hx hb dX10_holds_329 (lv_at hl 6 rfl) ?_
      refine lv_icmp_ge (tgt := 338) hx hb dX10_holds_331 (by decide) (fun c_331 => ?_) (fun c_331 => ?_)
      · refine lv_iconst (v := 0) hx hb dX10_holds_338 (by decide) ?_
        refine lv_goto (tgt := 382) hx hb dX10_holds_339 (by decide) ?_
        subst hQ
        exact W.zret (v := 0) hx hb hr (rfl) (fun t ht hW => ⟨⟨0, (), rfl, ⟨rl_0.to (by decide), (fun h0 => trivial), (fun _ => trivial)⟩, by rw [ht]; exact hw.2.1, va_K.moved hW.alike hK, hw.2.2.1⟩, hw.2.2.2.1.F ht⟩) hw.2.2.2.1.2.2 dX10_holds_382
      · have r_y0 : RI y0 (-2147483648) 2147483646 := rc_lt1 r_y0 r_x5 (ti_nle c_331) (by decide)
        have r_x5 : RI x5 (-2147483647) 2147483647 := rc_lt2 r_y0 r_x5 (ti_nle c_331) (by decide)
        refine lv_iconst (v := 1) hx hb dX10_holds_334 (by decide) ?_
        refine lv_goto (tgt := 382) hx hb dX10_holds_335 (by decide) ?_
        subst hQ
        exact W.zret (v := 1) hx hb hr (rfl) (fun t ht hW => ⟨⟨1, (), rfl, ⟨rl_1.to (by decide), (fun _ => trivial), (fun h0 => trivial)⟩, by rw [ht]; exact hw.2.1, va_K.moved hW.alike hK, hw.2.2.1⟩, hw.2.2.2.1.F ht⟩) hw.2.2.2.1.2.2 dX10_holds_382
  refine lv_sipush (v := 174) hx hb dX10_holds_0 (by decide) ?_
  refine lv_iconst (v := 4) hx hb dX10_holds_3 (by decide) ?_
  refine lv_iload_n hx hb dX10_holds_4 rfl (lv_at hl 1 rfl) ?_
  refine lv_imul hx hb dX10_holds_5 (lv_topi (fun v_6 e_v_6 => ?_))
  obtain ⟨t_v_6, r_v_6⟩ := tq_mul (lo := 0) (hi := 120) rl_4 r_p1 (by decide +kernel) e_v_6
  have t_v_6 : v_6.toInt = 4 * p1.toInt := t_v_6
  refine lv_iadd hx hb dX10_holds_6 (lv_topi (fun v_7 e_v_7 => ?_))
  obtain ⟨t_v_7, r_v_7⟩ := tq_add (lo := 174) (hi := 294) rl_174 r_v_6 (by decide +kernel) e_v_7
  have t_v_7 : v_7.toInt = 174 + v_6.toInt := t_v_7
  refine lv_istore_n (lv' := [(3, .int v_7), (0, .ref p0), (1, .int p1), (2, .int p2)]) hx hb dX10_holds_7 rfl hl (by decide) rfl (fun ls hl => ?_)
  refine lv_aload_n hx hb dX10_holds_8 rfl (lv_at hl 1 rfl) ?_
  refine tg_get (ci := 10) (ts := ty_MODEL) (C := RX10) (T := TX10) (N := 49) hx hb hts inX10 hown hK hw h_p0 rfl rfl 14 (by decide) (hts _ tw_1151) (fun _ h9 => h9) (ft := vR 34) rfl dX10_holds_9 (fun u_8 hv_u_8 m_u_8 => ?_)
  obtain ⟨vu_8, rfl, h_vu_8⟩ := hv_u_8
  refine lv_iload_n hx hb dX10_holds_12 rfl (lv_at hl 0 rfl) ?_
  refine lv_iconst (v := 1) hx hb dX10_holds_13 (by decide) ?_
  refine lv_iadd hx hb dX10_holds_14 (lv_topi (fun v_9 e_v_9 => ?_))
  obtain ⟨t_v_9, r_v_9⟩ := tq_add (lo := 175) (hi := 295) r_v_7 rl_1 (by decide +kernel) e_v_9
  have t_v_9 : v_9.toInt = v_7.toInt + 1 := t_v_9
  refine tg_iald (lo := (-2147483648)) (hi := 2147483647) hx hb hK hw h_vu_8 rfl 175 295 r_v_9 (by decide) (by decide +kernel) dX10_holds_15 (fun v_10 r_v_10 m_v_10 o_v_10 => ?_)
  refine lv_istore (lv' := [(4, .int v_10), (3, .int v_7), (0, .ref p0), (1, .int p1), (2, .int p2)]) hx hb dX10_holds_16 hl (by decide) rfl (fun ls hl => ?_)
  refine lv_aload_n hx hb dX10_holds_18 rfl (lv_at hl 2 rfl) ?_
  refine tg_mem (ci := 10) (C := RX10) (T := TX10) (N := 49) hx hb hts inX10 hown hK hw 14 m_u_8 rfl (by decide) (hts _ tw_1151) (fun _ h9 => h9) dX10_holds_19 ?_
  refine lv_iload_n hx hb dX10_holds_22 rfl (lv_at hl 1 rfl) ?_
  refine lv_iconst (v := 2) hx hb dX10_holds_23 (by decide) ?_
  refine lv_iadd hx hb dX10_holds_24 (lv_topi (fun v_11 e_v_11 => ?_))
  obtain ⟨t_v_11, r_v_11⟩ := tq_add (lo := 176) (hi := 296) r_v_7 rl_2 (by decide +kernel) e_v_11
  have t_v_11 : v_11.toInt = v_7.toInt + 2 := t_v_11
  refine tg_iald (lo := (-2147483648)) (hi := 2147483647) hx hb hK hw h_vu_8 rfl 176 296 r_v_11 (by decide) (by decide +kernel) dX10_holds_25 (fun v_12 r_v_12 m_v_12 o_v_12 => ?_)
  refine lv_istore (lv' := [(5, .int v_12), (4, .int v_10), (3, .int v_7), (0, .ref p0), (1, .int p1), (2, .int p2)]) hx hb dX10_holds_26 hl (by decide) rfl (fun ls hl => ?_)
  refine lv_aload_n hx hb dX10_holds_28 rfl (lv_at hl 3 rfl) ?_
  refine tg_mem (ci := 10) (C := RX10) (T := TX10) (N := 49) hx hb hts inX10 hown hK hw 14 m_u_8 rfl (by decide) (hts _ tw_1151) (fun _ h9 => h9) dX10_holds_29 ?_
  refine lv_iload_n hx hb dX10_holds_32 rfl (lv_at hl 2 rfl) ?_
  refine tg_iald (lo := (-2147483648)) (hi := 2147483647) hx hb hK hw h_vu_8 rfl 174 294 r_v_7 (by decide) (by decide +kernel) dX10_holds_33 (fun v_13 r_v_13 m_v_13 o_v_13 => ?_)
  by_cases k_34_1 : v_13 = 1
  · refine lv_lookup (tgt := 108) (off := 74) hx hb dX10_holds_34 (by decide) (by rw [k_34_1]; decide) (by decide) ?_
    have r_v_13 : RI v_13 1 1 := by rw [k_34_1]; exact rl_1
    have g_v_10 : 0 ≤ v_10.toInt ∧ v_10.toInt < p1.toInt := by obtain ⟨_, f9, e8, e7, q9, _⟩ := ax_of (k := 14) (t := 34) hw h_p0 rfl (fun _ => rfl); cases FLD.inj hw.2.2.1 e8 m_u_8; have t9 := ARR.ael hw.2.2.1 e7 m_v_13; have x9 := ARR.ael hw.2.2.1 e7 m_v_10; rw [show Int32.toNatClampNeg v_7 = 174 + 4 * Int32.toNatClampNeg p1 from (by have k1 := r_v_7.cl (by decide); have k2 := r_p1.cl (by decide); omega)] at t9; rw [show Int32.toNatClampNeg v_9 = 175 + 4 * Int32.toNatClampNeg p1 from (by have k1 := r_v_9.cl (by decide); have k2 := r_p1.cl (by decide); omega)] at x9; exact RN_child q9 (r_p1.to (by decide)) t9 x9 (r_v_13.to (by decide))
    have r_v_10 : RI v_10 0 29 := ⟨g_v_10.1, by have k1 := r_p1.2; omega⟩
    refine lv_aload_n hx hb dX10_holds_108 rfl (lv_at hl 3 rfl) ?_
    refine lv_iload hx hb dX10_holds_109 (lv_at hl 1 rfl) ?_
    refine lv_iload_n hx hb dX10_holds_111 rfl (lv_at hl 5 rfl) ?_
    refine tk_ir (va_runV (As := [.int v_10, .int p2]) (rest := []) ⟨hx, hb, hml, hown, hts⟩ (c_X10_holds__30 l D cy z s.heap.size Ps w0 hw.1 p0 v_10 p2 h_p0 r_v_10 r_p2) (cwV 2 hts (gV tw_1787 tw_1789 ts_119 tw_15 tw_1790) rfl rfl rfl (by decide +kernel) ⟨Nat.le_of_ble_eq_true rfl, Nat.le_of_ble_eq_true rfl⟩) (tg_preV hw hK hSD hA (ci := 10) (q := (RX10, TX10, 49)) rfl h_p0 rfl) rfl rfl hl.1 rfl (lv_room (Nat.le_of_ble_eq_true rfl)) dX10_holds_112 ⟨Nat.le_of_ble_eq_true rfl, Nat.le_of_ble_eq_true rfl⟩) hw hA (fun v_14  H locs hp_v_14 hw => ?_)
    have r_v_14 : RI v_14 0 1 := hp_v_14.1
    refine lv_if_ne (tgt := 122) hx hb dX10_holds_115 (by decide) (fun c_115 => ?_) (fun c_115 => ?_)
    · have r_v_14 : RI v_14 1 1 := rc_neL r_v_14 rl_0 (ti_ne c_115) (by decide)
      refine lv_iconst (v := 0) hx hb dX10_holds_122 (by decide) ?_
      subst hQ
      exact W.zret (v := 0) hx hb hr (rfl) (fun t ht hW => ⟨⟨0, (), rfl, ⟨rl_0.to (by decide), (fun h0 => trivial), (fun _ => trivial)⟩, by rw [ht]; exact hw.2.1, va_K.moved hW.alike hK, hw.2.2.1⟩, hw.2.2.2.1.F ht⟩) hw.2.2.2.1.2.2 dX10_holds_123
    · have r_v_14 : RI v_14 0 0 := rc_eq1 r_v_14 rl_0 (ti_eq c_115) (by decide)
      refine lv_iconst (v := 1) hx hb dX10_holds_118 (by decide) ?_
      refine lv_goto (tgt := 123) hx hb dX10_holds_119 (by decide) ?_
      subst hQ
      exact W.zret (v := 1) hx hb hr (rfl) (fun t ht hW => ⟨⟨1, (), rfl, ⟨rl_1.to (by decide), (fun _ => trivial), (fun h0 => trivial)⟩, by rw [ht]; exact hw.2.1, va_K.moved hW.alike hK, hw.2.2.1⟩, hw.2.2.2.1.F ht⟩) hw.2.2.2.1.2.2 dX10_holds_123
  · by_cases k_34_2 : v_13 = 2
    · refine lv_lookup (tgt := 124) (off := 90) hx hb dX10_holds_34 (by decide) (by rw [k_34_2]; decide) (by decide) ?_
      have r_v_13 : RI v_13 2 2 := by rw [k_34_2]; exact rl_2
      have g_v_10 : 0 ≤ v_10.toInt ∧ v_10.toInt < p1.toInt := by obtain ⟨_, f9, e8, e7, q9, _⟩ := ax_of (k := 14) (t := 34) hw h_p0 rfl (fun _ => rfl); cases FLD.inj hw.2.2.1 e8 m_u_8; have t9 := ARR.ael hw.2.2.1 e7 m_v_13; have x9 := ARR.ael hw.2.2.1 e7 m_v_10; rw [show Int32.toNatClampNeg v_7 = 174 + 4 * Int32.toNatClampNeg p1 from (by have k1 := r_v_7.cl (by decide); have k2 := r_p1.cl (by decide); omega)] at t9; rw [show Int32.toNatClampNeg v_9 = 175 + 4 * Int32.toNatClampNeg p1 from (by have k1 := r_v_9.cl (by decide); have k2 := r_p1.cl (by decide); omega)] at x9; exact RN_child q9 (r_p1.to (by decide)) t9 x9 (r_v_13.to (by decide))
      have r_v_10 : RI v_10 0 29 := ⟨g_v_10.1, by have k1 := r_p1.2; omega⟩
      have g_v_12 : 0 ≤ v_12.toInt ∧ v_12.toInt < p1.toInt := by obtain ⟨_, f9, e8, e7, q9, _⟩ := ax_of (k := 14) (t := 34) hw h_p0 rfl (fun _ => rfl); cases FLD.inj hw.2.2.1 e8 m_u_8; have t9 := ARR.ael hw.2.2.1 e7 m_v_13; have x9 := ARR.ael hw.2.2.1 e7 m_v_12; rw [show Int32.toNatClampNeg v_7 = 174 + 4 * Int32.toNatClampNeg p1 from (by have k1 := r_v_7.cl (by decide); have k2 := r_p1.cl (by decide); omega)] at t9; rw [show Int32.toNatClampNeg v_11 = 176 + 4 * Int32.toNatClampNeg p1 from (by have k1 := r_v_11.cl (by decide); have k2 := r_p1.cl (by decide); omega)] at x9; exact RN_child2 q9 (r_p1.to (by decide)) t9 x9 (r_v_13.to (by decide))
      have r_v_12 : RI v_12 0 29 := ⟨g_v_12.1, by have k1 := r_p1.2; omega⟩
      refine lv_aload_n hx hb dX10_holds_124 rfl (lv_at hl 3 rfl) ?_
      refine lv_iload hx hb dX10_holds_125 (lv_at hl 1 rfl) ?_
      refine lv_iload_n hx hb dX10_holds_127 rfl (lv_at hl 5 rfl) ?_
      refine tk_ir (va_runV (As := [.int v_10, .int p2]) (rest := []) ⟨hx, hb, hml, hown, hts⟩ (c_X10_holds__30 l D cy z s.heap.size Ps w0 hw.1 p0 v_10 p2 h_p0 r_v_10 r_p2) (cwV 2 hts (gV tw_1787 tw_1789 ts_119 tw_15 tw_1790) rfl rfl rfl (by decide +kernel) ⟨Nat.le_of_ble_eq_true rfl, Nat.le_of_ble_eq_true rfl⟩) (tg_preV hw hK hSD hA (ci := 10) (q := (RX10, TX10, 49)) rfl h_p0 rfl) rfl rfl hl.1 rfl (lv_room (Nat.le_of_ble_eq_true rfl)) dX10_holds_128 ⟨Nat.le_of_ble_eq_true rfl, Nat.le_of_ble_eq_true rfl⟩) hw hA (fun v_15  H locs hp_v_15 hw => ?_)
      have r_v_15 : RI v_15 0 1 := hp_v_15.1
      refine lv_if_eq (tgt := 148) hx hb dX10_holds_131 (by decide) (fun c_131 => ?_) (fun c_131 => ?_)
      · have r_v_15 : RI v_15 0 0 := rc_eq1 r_v_15 rl_0 (ti_eq c_131) (by decide)
        refine lv_iconst (v := 0) hx hb dX10_holds_148 (by decide) ?_
        subst hQ
        exact W.zret (v := 0) hx hb hr (rfl) (fun t ht hW => ⟨⟨0, (), rfl, ⟨rl_0.to (by decide), (fun h0 => trivial), (fun _ => trivial)⟩, by rw [ht]; exact hw.2.1, va_K.moved hW.alike hK, hw.2.2.1⟩, hw.2.2.2.1.F ht⟩) hw.2.2.2.1.2.2 dX10_holds_149
      · have r_v_15 : RI v_15 1 1 := rc_neL r_v_15 rl_0 (ti_ne c_131) (by decide)
        refine lv_aload_n hx hb dX10_holds_134 rfl (lv_at hl 3 rfl) ?_
        refine lv_iload hx hb dX10_holds_135 (lv_at hl 0 rfl) ?_
        refine lv_iload_n hx hb dX10_holds_137 rfl (lv_at hl 5 rfl) ?_
        refine tk_ir (va_runV (As := [.int v_12, .int p2]) (rest := []) ⟨hx, hb, hml, hown, hts⟩ (c_X10_holds__30 l D cy z H.size Ps w0 hw.1 p0 v_12 p2 h_p0 r_v_12 r_p2) (cwV 2 hts (gV tw_1787 tw_1789 ts_119 tw_15 tw_1790) rfl rfl rfl (by decide +kernel) ⟨Nat.le_of_ble_eq_true rfl, Nat.le_of_ble_eq_true rfl⟩) (tg_preV hw hK hSD hA (ci := 10) (q := (RX10, TX10, 49)) rfl h_p0 rfl) rfl rfl hl.1 rfl (lv_room (Nat.le_of_ble_eq_true rfl)) dX10_holds_138 ⟨Nat.le_of_ble_eq_true rfl, Nat.le_of_ble_eq_true rfl⟩) hw hA (fun v_16  H locs hp_v_16 hw => ?_)
        have r_v_16 : RI v_16 0 1 := hp_v_16.1
        refine lv_if_eq (tgt := 148) hx hb dX10_holds_141 (by decide) (fun c_141 => ?_) (fun c_141 => ?_)
        · have r_v_16 : RI v_16 0 0 := rc_eq1 r_v_16 rl_0 (ti_eq c_141) (by decide)
          refine lv_iconst (v := 0) hx hb dX10_holds_148 (by decide) ?_
          subst hQ
          exact W.zret (v := 0) hx hb hr (rfl) (fun t ht hW => ⟨⟨0, (), rfl, ⟨rl_0.to (by decide), (fun h0 => trivial), (fun _ => trivial)⟩, by rw [ht]; exact hw.2.1, va_K.moved hW.alike hK, hw.2.2.1⟩, hw.2.2.2.1.F ht⟩) hw.2.2.2.1.2.2 dX10_holds_149
        · have r_v_16 : RI v_16 1 1 := rc_neL r_v_16 rl_0 (ti_ne c_141) (by decide)
          refine lv_iconst (v := 1) hx hb dX10_holds_144 (by decide) ?_
          refine lv_goto (tgt := 149) hx hb dX10_holds_145 (by decide) ?_
          subst hQ
          exact W.zret (v := 1) hx hb hr (rfl) (fun t ht hW => ⟨⟨1, (), rfl, ⟨rl_1.to (by decide), (fun _ => trivial), (fun h0 => trivial)⟩, by rw [ht]; exact hw.2.1, va_K.moved hW.alike hK, hw.2.2.1⟩, hw.2.2.2.1.F ht⟩) hw.2.2.2.1.2.2 dX10_holds_149
    · by_cases k_34_3 : v_13 = 3
      · refine lv_lookup (tgt := 150) (off := 116) hx hb dX10_holds_34 (by decide) (by rw [k_34_3]; decide) (by decide) ?_
        have r_v_13 : RI v_13 3 3 := by rw [k_34_3]; exact rl_3
        have g_v_10 : 0 ≤ v_10.toInt ∧ v_10.toInt < p1.toInt := by obtain ⟨_, f9, e8, e7, q9, _⟩ := ax_of (k := 14) (t := 34) hw h_p0 rfl (fun _ => rfl); cases FLD.inj hw.2.2.1 e8 m_u_8; have t9 := ARR.ael hw.2.2.1 e7 m_v_13; have x9 := ARR.ael hw.2.2.1 e7 m_v_10; rw [show Int32.toNatClampNeg v_7 = 174 + 4 * Int32.toNatClampNeg p1 from (by have k1 := r_v_7.cl (by decide); have k2 := r_p1.cl (by decide); omega)] at t9; rw [show Int32.toNatClampNeg v_9 = 175 + 4 * Int32.toNatClampNeg p1 from (by have k1 := r_v_9.cl (by decide); have k2 := r_p1.cl (by decide); omega)] at x9; exact RN_child q9 (r_p1.to (by decide)) t9 x9 (r_v_13.to (by decide))
        have r_v_10 : RI v_10 0 29 := ⟨g_v_10.1, by have k1 := r_p1.2; omega⟩
        have g_v_12 : 0 ≤ v_12.toInt ∧ v_12.toInt < p1.toInt := by obtain ⟨_, f9, e8, e7, q9, _⟩ := ax_of (k := 14) (t := 34) hw h_p0 rfl (fun _ => rfl); cases FLD.inj hw.2.2.1 e8 m_u_8; have t9 := ARR.ael hw.2.2.1 e7 m_v_13; have x9 := ARR.ael hw.2.2.1 e7 m_v_12; rw [show Int32.toNatClampNeg v_7 = 174 + 4 * Int32.toNatClampNeg p1 from (by have k1 := r_v_7.cl (by decide); have k2 := r_p1.cl (by decide); omega)] at t9; rw [show Int32.toNatClampNeg v_11 = 176 + 4 * Int32.toNatClampNeg p1 from (by have k1 := r_v_11.cl (by decide); have k2 := r_p1.cl (by decide); omega)] at x9; exact RN_child2 q9 (r_p1.to (by decide)) t9 x9 (r_v_13.to (by decide))
        have r_v_12 : RI v_12 0 29 := ⟨g_v_12.1, by have k1 := r_p1.2; omega⟩
        refine lv_aload_n hx hb dX10_holds_150 rfl (lv_at hl 3 rfl) ?_
        refine lv_iload hx hb dX10_holds_151 (lv_at hl 1 rfl) ?_
        refine lv_iload_n hx hb dX10_holds_153 rfl (lv_at hl 5 rfl) ?_
        refine tk_ir (va_runV (As := [.int v_10, .int p2]) (rest := []) ⟨hx, hb, hml, hown, hts⟩ (c_X10_holds__30 l D cy z s.heap.size Ps w0 hw.1 p0 v_10 p2 h_p0 r_v_10 r_p2) (cwV 2 hts (gV tw_1787 tw_1789 ts_119 tw_15 tw_1790) rfl rfl rfl (by decide +kernel) ⟨Nat.le_of_ble_eq_true rfl, Nat.le_of_ble_eq_true rfl⟩) (tg_preV hw hK hSD hA (ci := 10) (q := (RX10, TX10, 49)) rfl h_p0 rfl) rfl rfl hl.1 rfl (lv_room (Nat.le_of_ble_eq_true rfl)) dX10_holds_154 ⟨Nat.le_of_ble_eq_true rfl, Nat.le_of_ble_eq_true rfl⟩) hw hA (fun v_17  H locs hp_v_17 hw => ?_)
        have r_v_17 : RI v_17 0 1 := hp_v_17.1
        refine lv_if_ne (tgt := 170) hx hb dX10_holds_157 (by decide) (fun c_157 => ?_) (fun c_157 => ?_)
        · have r_v_17 : RI v_17 1 1 := rc_neL r_v_17 rl_0 (ti_ne c_157) (by decide)
          refine lv_iconst (v := 1) hx hb dX10_holds_170 (by decide) ?_
          refine lv_goto (tgt := 175) hx hb dX10_holds_171 (by decide) ?_
          subst hQ
          exact W.zret (v := 1) hx hb hr (rfl) (fun t ht hW => ⟨⟨1, (), rfl, ⟨rl_1.to (by decide), (fun _ => trivial), (fun h0 => trivial)⟩, by rw [ht]; exact hw.2.1, va_K.moved hW.alike hK, hw.2.2.1⟩, hw.2.2.2.1.F ht⟩) hw.2.2.2.1.2.2 dX10_holds_175
        · have r_v_17 : RI v_17 0 0 := rc_eq1 r_v_17 rl_0 (ti_eq c_157) (by decide)
          refine lv_aload_n hx hb dX10_holds_160 rfl (lv_at hl 3 rfl) ?_
          refine lv_iload hx hb dX10_holds_161 (lv_at hl 0 rfl) ?_
          refine lv_iload_n hx hb dX10_holds_163 rfl (lv_at hl 5 rfl) ?_
          refine tk_ir (va_runV (As := [.int v_12, .int p2]) (rest := []) ⟨hx, hb, hml, hown, hts⟩ (c_X10_holds__30 l D cy z H.size Ps w0 hw.1 p0 v_12 p2 h_p0 r_v_12 r_p2) (cwV 2 hts (gV tw_1787 tw_1789 ts_119 tw_15 tw_1790) rfl rfl rfl (by decide +kernel) ⟨Nat.le_of_ble_eq_true rfl, Nat.le_of_ble_eq_true rfl⟩) (tg_preV hw hK hSD hA (ci := 10) (q := (RX10, TX10, 49)) rfl h_p0 rfl) rfl rfl hl.1 rfl (lv_room (Nat.le_of_ble_eq_true rfl)) dX10_holds_164 ⟨Nat.le_of_ble_eq_true rfl, Nat.le_of_ble_eq_true rfl⟩) hw hA (fun v_18  H locs hp_v_18 hw => ?_)
          have r_v_18 : RI v_18 0 1 := hp_v_18.1
          refine lv_if_eq (tgt := 174) hx hb dX10_holds_167 (by decide) (fun c_167 => ?_) (fun c_167 => ?_)
          · have r_v_18 : RI v_18 0 0 := rc_eq1 r_v_18 rl_0 (ti_eq c_167) (by decide)
            refine lv_iconst (v := 0) hx hb dX10_holds_174 (by decide) ?_
            subst hQ
            exact W.zret (v := 0) hx hb hr (rfl) (fun t ht hW => ⟨⟨0, (), rfl, ⟨rl_0.to (by decide), (fun h0 => trivial), (fun _ => trivial)⟩, by rw [ht]; exact hw.2.1, va_K.moved hW.alike hK, hw.2.2.1⟩, hw.2.2.2.1.F ht⟩) hw.2.2.2.1.2.2 dX10_holds_175
          · have r_v_18 : RI v_18 1 1 := rc_neL r_v_18 rl_0 (ti_ne c_167) (by decide)
            refine lv_iconst (v := 1) hx hb dX10_holds_170 (by decide) ?_
            refine lv_goto (tgt := 175) hx hb dX10_holds_171 (by decide) ?_
            subst hQ
            exact W.zret (v := 1) hx hb hr (rfl) (fun t ht hW => ⟨⟨1, (), rfl, ⟨rl_1.to (by decide), (fun _ => trivial), (fun h0 => trivial)⟩, by rw [ht]; exact hw.2.1, va_K.moved hW.alike hK, hw.2.2.1⟩, hw.2.2.2.1.F ht⟩) hw.2.2.2.1.2.2 dX10_holds_175
      · by_cases k_34_69 : v_13 = 69
        · refine lv_lookup (tgt := 176) (off := 142) hx hb dX10_holds_34 (by decide) (by rw [k_34_69]; decide) (by decide) ?_
          have r_v_13 : RI v_13 69 69 := by rw [k_34_69]; exact rl_69
          refine lv_aload_n hx hb dX10_holds_176 rfl (lv_at hl 3 rfl) ?_
          refine lv_iload_n hx hb dX10_holds_177 rfl (lv_at hl 5 rfl) ?_
          refine tk_ir (va_runV (As := [.int p2]) (rest := []) ⟨hx, hb, hml, hown, hts⟩ (c_X10_isOpen l D cy z s.heap.size Ps w0 hw.1 p0 p2 h_p0 (r_p2.to (by decide))) (cwV 1 hts (gV tw_1457 tw_1459 ts_71 tw_15 tw_1460) rfl rfl rfl (by decide +kernel) ⟨Nat.le_of_ble_eq_true rfl, Nat.le_of_ble_eq_true rfl⟩) (tg_preV hw hK hSD hA (ci := 10) (q := (RX10, TX10, 49)) rfl h_p0 rfl) rfl rfl hl.1 rfl (lv_room (Nat.le_of_ble_eq_true rfl)) dX10_holds_178 ⟨Nat.le_of_ble_eq_true rfl, Nat.le_of_ble_eq_true rfl⟩) hw hA (fun v_19  H locs hp_v_19 hw => ?_)
          have r_v_19 : RI v_19 0 1 := hp_v_19.1
          subst hQ
          exact W.zret (v := v_19) hx hb hr (tq_nz (r_v_19.to (by decide))) (fun t ht hW => ⟨⟨v_19, (), rfl, ⟨r_v_19.to (by decide), (fun h0 => trivial), (fun h0 => trivial)⟩, by rw [ht]; exact hw.2.1, va_K.moved hW.alike hK, hw.2.2.1⟩, hw.2.2.2.1.F ht⟩) hw.2.2.2.1.2.2 dX10_holds_181
        · by_cases k_34_70 : v_13 = 70
          · refine lv_lookup (tgt := 182) (off := 148) hx hb dX10_holds_34 (by decide) (by rw [k_34_70]; decide) (by decide) ?_
            have r_v_13 : RI v_13 70 70 := by rw [k_34_70]; exact rl_70
            refine lv_aload_n hx hb dX10_holds_182 rfl (lv_at hl 3 rfl) ?_
            refine lv_iload_n hx hb dX10_holds_183 rfl (lv_at hl 5 rfl) ?_
            refine tk_ir (va_runV (As := [.int p2]) (rest := []) ⟨hx, hb, hml, hown, hts⟩ (c_X10_whatIs l D cy z s.heap.size Ps w0 hw.1 p0 p2 h_p0 r_p2) (cwV 1 hts (gV tw_1449 tw_1451 ts_69 tw_15 tw_1452) rfl rfl rfl (by decide +kernel) ⟨Nat.le_of_ble_eq_true rfl, Nat.le_of_ble_eq_true rfl⟩) (tg_preV hw hK hSD hA (ci := 10) (q := (RX10, TX10, 49)) rfl h_p0 rfl) rfl rfl hl.1 rfl (lv_room (Nat.le_of_ble_eq_true rfl)) dX10_holds_184 ⟨Nat.le_of_ble_eq_true rfl, Nat.le_of_ble_eq_true rfl⟩) hw hA (fun v_20  H locs hp_v_20 hw => ?_)
            have r_v_20 : RI v_20 (-1) 5 := hp_v_20.1
            by_cases c9_v_20 : v_20.toInt < 0
            · have r_v_20 : RI v_20 (-1) (-1) := by unfold RI at r_v_20 ⊢; omega
              have x_NB_p0_p2 := (hp_v_20.2.2.2.2.1 (by omega)).1
              refine lv_iconst (v := (-1)) hx hb dX10_holds_187 (by decide) ?_
              refine lv_icmp_ne (tgt := 195) hx hb dX10_holds_188 (by decide) (fun c_188 => ?_) (fun c_188 => ?_)
              · exact absurd (r_v_20.eq.trans rl_m1.eq.symm) ((ti_ne c_188))
              · refine lv_iconst (v := 1) hx hb dX10_holds_191 (by decide) ?_
                refine lv_goto (tgt := 196) hx hb dX10_holds_192 (by decide) ?_
                subst hQ
                exact W.zret (v := 1) hx hb hr (rfl) (fun t ht hW => ⟨⟨1, (), rfl, ⟨rl_1.to (by decide), (fun _ => trivial), (fun h0 => trivial)⟩, by rw [ht]; exact hw.2.1, va_K.moved hW.alike hK, hw.2.2.1⟩, hw.2.2.2.1.F ht⟩) hw.2.2.2.1.2.2 dX10_holds_196
            · have r_v_20 : RI v_20 0 5 := by unfold RI at r_v_20 ⊢; omega
              have x_WB_p0_p2_v_20 := (hp_v_20.2.2.2.2.2 (by omega)).1
              refine lv_iconst (v := (-1)) hx hb dX10_holds_187 (by decide) ?_
              refine lv_icmp_ne (tgt := 195) hx hb dX10_holds_188 (by decide) (fun c_188 => ?_) (fun c_188 => ?_)
              · refine lv_iconst (v := 0) hx hb dX10_holds_195 (by decide) ?_
                subst hQ
                exact W.zret (v := 0) hx hb hr (rfl) (fun t ht hW => ⟨⟨0, (), rfl, ⟨rl_0.to (by decide), (fun h0 => trivial), (fun _ => trivial)⟩, by rw [ht]; exact hw.2.1, va_K.moved hW.alike hK, hw.2.2.1⟩, hw.2.2.2.1.F ht⟩) hw.2.2.2.1.2.2 dX10_holds_196
              · have r_v_20 : RI v_20 0 (-1) := rc_eq1 r_v_20 rl_m1 (ti_eq c_188) (by decide)
                exact (r_v_20.no (by decide)).elim
          · by_cases k_34_71 : v_13 = 71
            · refine lv_lookup (tgt := 197) (off := 163) hx hb dX10_holds_34 (by decide) (by rw [k_34_71]; decide) (by decide) ?_
              have r_v_13 : RI v_13 71 71 := by rw [k_34_71]; exact rl_71
              refine lv_aload_n hx hb dX10_holds_197 rfl (lv_at hl 3 rfl) ?_
              refine lv_iload_n hx hb dX10_holds_198 rfl (lv_at hl 5 rfl) ?_
              refine tk_ir (va_runV (As := [.int p2]) (rest := []) ⟨hx, hb, hml, hown, hts⟩ (c_X10_sittersOf l D cy z s.heap.size Ps w0 hw.1 p0 p2 h_p0 (r_p2.to (by decide))) (cwV 1 hts (gV tw_1461 tw_1463 ts_72 tw_15 tw_1464) rfl rfl rfl (by decide +kernel) ⟨Nat.le_of_ble_eq_true rfl, Nat.le_of_ble_eq_true rfl⟩) (tg_preV hw hK hSD hA (ci := 10) (q := (RX10, TX10, 49)) rfl h_p0 rfl) rfl rfl hl.1 rfl (lv_room (Nat.le_of_ble_eq_true rfl)) dX10_holds_199 ⟨Nat.le_of_ble_eq_true rfl, Nat.le_of_ble_eq_true rfl⟩) hw hA (fun v_21  H locs hp_v_21 hw => ?_)
              have r_v_21 : RI v_21 (-2147483648) 2147483647 := hp_v_21.1
              refine lv_if_eq (tgt := 209) hx hb dX10_holds_202 (by decide) (fun c_202 => ?_) (fun c_202 => ?_)
              · have r_v_21 : RI v_21 0 0 := rc_eq1 r_v_21 rl_0 (ti_eq c_202) (by decide)
                refine lv_iconst (v := 0) hx hb dX10_holds_209 (by decide) ?_
                subst hQ
                exact W.zret (v := 0) hx hb hr (rfl) (fun t ht hW => ⟨⟨0, (), rfl, ⟨rl_0.to (by decide), (fun h0 => trivial), (fun _ => trivial)⟩, by rw [ht]; exact hw.2.1, va_K.moved hW.alike hK, hw.2.2.1⟩, hw.2.2.2.1.F ht⟩) hw.2.2.2.1.2.2 dX10_holds_210
              · refine lv_iconst (v := 1) hx hb dX10_holds_205 (by decide) ?_
                refine lv_goto (tgt := 210) hx hb dX10_holds_206 (by decide) ?_
                subst hQ
                exact W.zret (v := 1) hx hb hr (rfl) (fun t ht hW => ⟨⟨1, (), rfl, ⟨rl_1.to (by decide), (fun _ => trivial), (fun h0 => trivial)⟩, by rw [ht]; exact hw.2.1, va_K.moved hW.alike hK, hw.2.2.1⟩, hw.2.2.2.1.F ht⟩) hw.2.2.2.1.2.2 dX10_holds_210
            · by_cases k_34_72 : v_13 = 72
              · refine lv_lookup (tgt := 211) (off := 177) hx hb dX10_holds_34 (by decide) (by rw [k_34_72]; decide) (by decide) ?_
                have r_v_13 : RI v_13 72 72 := by rw [k_34_72]; exact rl_72
                refine lv_aload_n hx hb dX10_holds_211 rfl (lv_at hl 3 rfl) ?_
                refine lv_iload_n hx hb dX10_holds_212 rfl (lv_at hl 5 rfl) ?_
                refine tk_ir (va_runV (As := [.int p2]) (rest := []) ⟨hx, hb, hml, hown, hts⟩ (c_X10_whatIs l D cy z s.heap.size Ps w0 hw.1 p0 p2 h_p0 r_p2) (cwV 1 hts (gV tw_1449 tw_1451 ts_69 tw_15 tw_1452) rfl rfl rfl (by decide +kernel) ⟨Nat.le_of_ble_eq_true rfl, Nat.le_of_ble_eq_true rfl⟩) (tg_preV hw hK hSD hA (ci := 10) (q := (RX10, TX10, 49)) rfl h_p0 rfl) rfl rfl hl.1 rfl (lv_room (Nat.le_of_ble_eq_true rfl)) dX10_holds_213 ⟨Nat.le_of_ble_eq_true rfl, Nat.le_of_ble_eq_true rfl⟩) hw hA (fun v_22  H locs hp_v_22 hw => ?_)
                have r_v_22 : RI v_22 (-1) 5 := hp_v_22.1
                by_cases c9_v_22 : v_22.toInt < 0
                · have r_v_22 : RI v_22 (-1) (-1) := by unfold RI at r_v_22 ⊢; omega
                  have x_NB_p0_p2 := (hp_v_22.2.2.2.2.1 (by omega)).1
                  refine lv_iload hx hb dX10_holds_216 (lv_at hl 1 rfl) ?_
                  refine lv_icmp_ne (tgt := 225) hx hb dX10_holds_218 (by decide) (fun c_218 => ?_) (fun c_218 => ?_)
                  · refine lv_iconst (v := 0) hx hb dX10_holds_225 (by decide) ?_
                    subst hQ
                    exact W.zret (v := 0) hx hb hr (rfl) (fun t ht hW => ⟨⟨0, (), rfl, ⟨rl_0.to (by decide), (fun h0 => trivial), (fun _ => trivial)⟩, by rw [ht]; exact hw.2.1, va_K.moved hW.alike hK, hw.2.2.1⟩, hw.2.2.2.1.F ht⟩) hw.2.2.2.1.2.2 dX10_holds_226
                  · have r_v_10 : RI v_10 (-1) (-1) := rc_eq2 r_v_22 r_v_10 (ti_eq c_218) (by decide)
                    refine lv_iconst (v := 1) hx hb dX10_holds_221 (by decide) ?_
                    refine lv_goto (tgt := 226) hx hb dX10_holds_222 (by decide) ?_
                    subst hQ
                    exact W.zret (v := 1) hx hb hr (rfl) (fun t ht hW => ⟨⟨1, (), rfl, ⟨rl_1.to (by decide), (fun _ => trivial), (fun h0 => trivial)⟩, by rw [ht]; exact hw.2.1, va_K.moved hW.alike hK, hw.2.2.1⟩, hw.2.2.2.1.F ht⟩) hw.2.2.2.1.2.2 dX10_holds_226
                · have r_v_22 : RI v_22 0 5 := by unfold RI at r_v_22 ⊢; omega
                  have x_WB_p0_p2_v_22 := (hp_v_22.2.2.2.2.2 (by omega)).1
                  refine lv_iload hx hb dX10_holds_216 (lv_at hl 1 rfl) ?_
                  refine lv_icmp_ne (tgt := 225) hx hb dX10_holds_218 (by decide) (fun c_218 => ?_) (fun c_218 => ?_)
                  · refine lv_iconst (v := 0) hx hb dX10_holds_225 (by decide) ?_
                    subst hQ
                    exact W.zret (v := 0) hx hb hr (rfl) (fun t ht hW => ⟨⟨0, (), rfl, ⟨rl_0.to (by decide), (fun h0 => trivial), (fun _ => trivial)⟩, by rw [ht]; exact hw.2.1, va_K.moved hW.alike hK, hw.2.2.1⟩, hw.2.2.2.1.F ht⟩) hw.2.2.2.1.2.2 dX10_holds_226
                  · have r_v_10 : RI v_10 0 5 := rc_eq2 r_v_22 r_v_10 (ti_eq c_218) (by decide)
                    refine lv_iconst (v := 1) hx hb dX10_holds_221 (by decide) ?_
                    refine lv_goto (tgt := 226) hx hb dX10_holds_222 (by decide) ?_
                    subst hQ
                    exact W.zret (v := 1) hx hb hr (rfl) (fun t ht hW => ⟨⟨1, (), rfl, ⟨rl_1.to (by decide), (fun _ => trivial), (fun h0 => trivial)⟩, by rw [ht]; exact hw.2.1, va_K.moved hW.alike hK, hw.2.2.1⟩, hw.2.2.2.1.F ht⟩) hw.2.2.2.1.2.2 dX10_holds_226
              · by_cases k_34_73 : v_13 = 73
                · refine lv_lookup (tgt := 227) (off := 193) hx hb dX10_holds_34 (by decide) (by rw [k_34_73]; decide) (by decide) ?_
                  have r_v_13 : RI v_13 73 73 := by rw [k_34_73]; exact rl_73
                  refine lv_aload_n hx hb dX10_holds_227 rfl (lv_at hl 3 rfl) ?_
                  refine tg_mem (ci := 10) (C := RX10) (T := TX10) (N := 49) hx hb hts inX10 hown hK hw 14 m_u_8 rfl (by decide) (hts _ tw_1151) (fun _ h9 => h9) dX10_holds_228 ?_
                  refine lv_bipush (v := 86) hx hb dX10_holds_231 (by decide) ?_
                  refine lv_iload_n hx hb dX10_holds_233 rfl (lv_at hl 5 rfl) ?_
                  refine lv_iadd hx hb dX10_holds_234 (lv_topi (fun v_23 e_v_23 => ?_))
                  obtain ⟨t_v_23, r_v_23⟩ := tq_add (lo := 86) (hi := 91) rl_86 r_p2 (by decide +kernel) e_v_23
                  have t_v_23 : v_23.toInt = 86 + p2.toInt := t_v_23
                  refine tg_iald (lo := (-2147483648)) (hi := 2147483647) hx hb hK hw h_vu_8 rfl 86 91 r_v_23 (by decide) (by decide +kernel) dX10_holds_235 (fun v_24 r_v_24 m_v_24 o_v_24 => ?_)
                  refine lv_iload hx hb dX10_holds_236 (lv_at hl 1 rfl) ?_
                  refine lv_icmp_ne (tgt := 245) hx hb dX10_holds_238 (by decide) (fun c_238 => ?_) (fun c_238 => ?_)
                  · refine lv_iconst (v := 0) hx hb dX10_holds_245 (by decide) ?_
                    subst hQ
                    exact W.zret (v := 0) hx hb hr (rfl) (fun t ht hW => ⟨⟨0, (), rfl, ⟨rl_0.to (by decide), (fun h0 => trivial), (fun _ => trivial)⟩, by rw [ht]; exact hw.2.1, va_K.moved hW.alike hK, hw.2.2.1⟩, hw.2.2.2.1.F ht⟩) hw.2.2.2.1.2.2 dX10_holds_246
                  · refine lv_iconst (v := 1) hx hb dX10_holds_241 (by decide) ?_
                    refine lv_goto (tgt := 246) hx hb dX10_holds_242 (by decide) ?_
                    subst hQ
                    exact W.zret (v := 1) hx hb hr (rfl) (fun t ht hW => ⟨⟨1, (), rfl, ⟨rl_1.to (by decide), (fun _ => trivial), (fun h0 => trivial)⟩, by rw [ht]; exact hw.2.1, va_K.moved hW.alike hK, hw.2.2.1⟩, hw.2.2.2.1.F ht⟩) hw.2.2.2.1.2.2 dX10_holds_246
                · refine lv_lookup (tgt := 247) (off := 213) hx hb dX10_holds_34 (by decide) ((lv_osw k_34_1 (by decide)).trans ((lv_osw k_34_2 (by decide)).trans ((lv_osw k_34_3 (by decide)).trans ((lv_osw k_34_69 (by decide)).trans ((lv_osw k_34_70 (by decide)).trans ((lv_osw k_34_71 (by decide)).trans ((lv_osw k_34_72 (by decide)).trans ((lv_osw k_34_73 (by decide)).trans (rfl))))))))) (by decide) ?_
                  refine lv_aload_n hx hb dX10_holds_247 rfl (lv_at hl 3 rfl) ?_
                  refine tg_mem (ci := 10) (C := RX10) (T := TX10) (N := 49) hx hb hts inX10 hown hK hw 14 m_u_8 rfl (by decide) (hts _ tw_1151) (fun _ h9 => h9) dX10_holds_248 ?_
                  refine lv_iload_n hx hb dX10_holds_251 rfl (lv_at hl 2 rfl) ?_
                  refine tg_imem hx hb hK hw h_vu_8 rfl r_v_7 (by decide) m_v_13 dX10_holds_252 ?_
                  refine lv_bipush (v := 50) hx hb dX10_holds_253 (by decide) ?_
                  refine lv_isub hx hb dX10_holds_255 (lv_topi (fun v_26 e_v_26 => ?_))
                  have r_v_26 := ri_any v_26
                  refine lv_istore (lv' := [(6, .int v_26), (5, .int v_12), (4, .int v_10), (3, .int v_7), (0, .ref p0), (1, .int p1), (2, .int p2)]) hx hb dX10_holds_256 hl (by decide) rfl (fun ls hl => ?_)
                  refine lv_iload hx hb dX10_holds_258 (lv_at hl 0 rfl) ?_
                  refine lv_bipush (v := 24) hx hb dX10_holds_260 (by decide) ?_
                  refine lv_icmp_ne (tgt := 273) hx hb dX10_holds_262 (by decide) (fun c_262 => ?_) (fun c_262 => ?_)
                  · refine lv_iload hx hb dX10_holds_273 (lv_at hl 0 rfl) ?_
                    refine lv_bipush (v := 25) hx hb dX10_holds_275 (by decide) ?_
                    refine lv_icmp_ne (tgt := 292) hx hb dX10_holds_277 (by decide) (fun c_277 => ?_) (fun c_277 => ?_)
                    · refine lv_iload hx hb dX10_holds_292 (lv_at hl 0 rfl) ?_
                      refine lv_bipush (v := 26) hx hb dX10_holds_294 (by decide) ?_
                      refine lv_icmp_ne (tgt := 311) hx hb dX10_holds_296 (by decide) (fun c_296 => ?_) (fun c_296 => ?_)
                      · refine lv_iload_n hx hb dX10_holds_311 rfl (lv_at hl 6 rfl) ?_
                        exact B312 v_7 v_10 v_12 v_26 p2 _ _ ls r_p1 r_p2 r_v_7 r_v_10 r_v_12 r_v_26 (r_p2.to (by decide)) hw (lv_sub hl [4, 5, 6, 3, 2, 1, 0] rfl)
                      · have r_v_26 : RI v_26 26 26 := rc_eq1 r_v_26 rl_26 (ti_eq c_296) (by decide)
                        refine lv_aload_n hx hb dX10_holds_299 rfl (lv_at hl 4 rfl) ?_
                        refine tg_mem (ci := 10) (C := RX10) (T := TX10) (N := 49) hx hb hts inX10 hown hK hw 14 m_u_8 rfl (by decide) (hts _ tw_1151) (fun _ h9 => h9) dX10_holds_300 ?_
                        refine lv_bipush (v := 98) hx hb dX10_holds_303 (by decide) ?_
                        refine lv_iload_n hx hb dX10_holds_305 rfl (lv_at hl 6 rfl) ?_
                        refine lv_iadd hx hb dX10_holds_306 (lv_topi (fun v_27 e_v_27 => ?_))
                        obtain ⟨t_v_27, r_v_27⟩ := tq_add (lo := 98) (hi := 103) rl_98 r_p2 (by decide +kernel) e_v_27
                        have t_v_27 : v_27.toInt = 98 + p2.toInt := t_v_27
                        refine tg_iald (lo := (-2147483648)) (hi := 2147483647) hx hb hK hw h_vu_8 rfl 98 103 r_v_27 (by decide) (by decide +kernel) dX10_holds_307 (fun v_28 r_v_28 m_v_28 o_v_28 => ?_)
                        refine lv_goto (tgt := 312) hx hb dX10_holds_308 (by decide) ?_
                        exact B312 v_7 v_10 v_12 v_26 v_28 _ _ ls r_p1 r_p2 r_v_7 r_v_10 r_v_12 (r_v_26.to (by decide)) r_v_28 hw (lv_sub hl [4, 5, 6, 3, 2, 1, 0] rfl)
                    · have r_v_26 : RI v_26 25 25 := rc_eq1 r_v_26 rl_25 (ti_eq c_277) (by decide)
                      refine lv_aload_n hx hb dX10_holds_280 rfl (lv_at hl 4 rfl) ?_
                      refine tg_mem (ci := 10) (C := RX10) (T := TX10) (N := 49) hx hb hts inX10 hown hK hw 14 m_u_8 rfl (by decide) (hts _ tw_1151) (fun _ h9 => h9) dX10_holds_281 ?_
                      refine lv_bipush (v := 92) hx hb dX10_holds_284 (by decide) ?_
                      refine lv_iload_n hx hb dX10_holds_286 rfl (lv_at hl 6 rfl) ?_
                      refine lv_iadd hx hb dX10_holds_287 (lv_topi (fun v_29 e_v_29 => ?_))
                      obtain ⟨t_v_29, r_v_29⟩ := tq_add (lo := 92) (hi := 97) rl_92 r_p2 (by decide +kernel) e_v_29
                      have t_v_29 : v_29.toInt = 92 + p2.toInt := t_v_29
                      refine tg_iald (lo := (-2147483648)) (hi := 2147483647) hx hb hK hw h_vu_8 rfl 92 97 r_v_29 (by decide) (by decide +kernel) dX10_holds_288 (fun v_30 r_v_30 m_v_30 o_v_30 => ?_)
                      refine lv_goto (tgt := 312) hx hb dX10_holds_289 (by decide) ?_
                      exact B312 v_7 v_10 v_12 v_26 v_30 _ _ ls r_p1 r_p2 r_v_7 r_v_10 r_v_12 (r_v_26.to (by decide)) r_v_30 hw (lv_sub hl [4, 5, 6, 3, 2, 1, 0] rfl)
                  · have r_v_26 : RI v_26 24 24 := rc_eq1 r_v_26 rl_24 (ti_eq c_262) (by decide)
                    refine lv_aload_n hx hb dX10_holds_265 rfl (lv_at hl 4 rfl) ?_
                    refine lv_iload_n hx hb dX10_holds_266 rfl (lv_at hl 6 rfl) ?_
                    refine tk_ir (va_runV (As := [.int p2]) (rest := []) ⟨hx, hb, hml, hown, hts⟩ (c_X10_sizeOf l D cy z s.heap.size Ps w0 hw.1 p0 p2 h_p0 r_p2) (cwV 1 hts (gV tw_1453 tw_1455 ts_70 tw_15 tw_1456) rfl rfl rfl (by decide +kernel) ⟨Nat.le_of_ble_eq_true rfl, Nat.le_of_ble_eq_true rfl⟩) (tg_preV hw hK hSD hA (ci := 10) (q := (RX10, TX10, 49)) rfl h_p0 rfl) rfl rfl hl.1 rfl (lv_room (Nat.le_of_ble_eq_true rfl)) dX10_holds_267 ⟨Nat.le_of_ble_eq_true rfl, Nat.le_of_ble_eq_true rfl⟩) hw hA (fun v_31  H locs hp_v_31 hw => ?_)
                    have r_v_31 : RI v_31 (-2147483648) 2147483647 := hp_v_31.1
                    refine lv_goto (tgt := 312) hx hb dX10_holds_270 (by decide) ?_
                    exact B312 v_7 v_10 v_12 v_26 v_31 _ _ ls r_p1 r_p2 r_v_7 r_v_10 r_v_12 (r_v_26.to (by decide)) r_v_31 hw (lv_sub hl [4, 5, 6, 3, 2, 1, 0] rfl)
abbrev wr_X10_holds__28 : List (Nat × Nat) := []
abbrev wa_X10_holds__28 : List Nat := []
set_option maxHeartbeats 4000000 in
set_option maxRecDepth 100000 in
theorem c_X10_holds__28 (l : Launch) (D : va_G) (cy : Nat → ClassId) (z : Nat → Nat) (sz : Nat) (Ps : PSI) (w0 : va_W) (hT : HT cy GG Ps w0) (p0 : Nat) (p1 : Int32) (p2 : Int32) (h_p0 : (p0, 55) ∈ Ps) (r_p1 : RI p1 0 31) (r_p2 : RI p2 0 5) : Met l yX10_holds (Cond.code yX10_holds cX10_holds 8 (some .boolean) :: gT) ({ frames := 34, cells := 0, slots := 0, locals := 6800 } : Room) (va_Pc [.ref p0, .int p1, .int p2] (PRE D cy z w0 sz)) (va_Qi (fun (r : Int32) (u : Unit) => RI r 0 1 ∧ (r = 0 → True) ∧ (¬ r = 0 → True)) (BB D cy (va_A w0 sz) (fun (u : Unit) => w0)) (va_A w0 sz)) 0 0 (va_A w0 sz) := by
  refine Met.ofW (cc := cX10_holds) (maxL := 8) (ret := (some .boolean)) (by decide) rfl ?_
  intro p e s m args below meth c s₁ B hml hv
  obtain ⟨rfl, hsz, hP, hK, hD0, hSD⟩ := hv
  have hx := B.exec
  have hb := B.bytes
  have hr := B.returns
  have hlocks := B.notSynchronized
  have hts : ∀ w ∈ gT, w.before _ s = true := fun w h => atoms_spec (ws := Cond.code yX10_holds cX10_holds 8 (some .boolean) :: gT) B.pre w (List.mem_cons_of_mem _ h)
  have hown : s.vm.findClass RX10 = some m.cls := findClass_of_methodNamed B.named
  subst hsz
  have hD := hD0.self (sz := s.heap.size)
  generalize hAe : va_A w0 s.heap.size = A at hD hSD ⊢
  have hA : ∀ q : Nat, s.heap.size ≤ q → A q := fun q h => by rw [← hAe]; exact Or.inr h
  have hl := lv_entry ([.ref p0, .int p1, .int p2]) (n := 8) (Nat.le_of_ble_eq_true rfl)
  rw [lg_entry_eq]
  generalize (lg_sl ([.ref p0, .int p1, .int p2]) ++ List.replicate (8 - (lg_sl ([.ref p0, .int p1, .int p2])).length) Slot.unset).toArray = ls at hl ⊢
  have hl : lv_has ls 8 [(0, .ref p0), (1, .int p1), (2, .int p2)] := hl
  refine nameQ (fun Q hQ => ?_)
  have hw : WD D cy GG A s wr_X10_holds__28 wa_X10_holds__28 Ps w0 Ps w0 s.heap [] := ⟨hT, hP, hD, va_S.rf, FR.rf, hT.1, [], (List.append_nil _).symm⟩
  have B312 : ∀ (x3 : Int32) (x4 : Int32) (x5 : Int32) (x6 : Int32) (y0 : Int32) (H : Heap) (locs : List Loc) (ls : Array Slot), RI p1 0 31 → RI p2 0 5 → RI x3 174 298 → RI x4 (-2147483648) 2147483647 → RI x5 (-2147483648) 2147483647 → RI x6 (-2147483648) 2147483647 → RI y0 (-2147483648) 2147483647 → WD D cy GG A s wr_X10_holds__28 wa_X10_holds__28 Ps w0 Ps w0 H locs → lv_has ls 8 [(0, .ref p0), (1, .int p1), (2, .int p2), (3, .int x3), (4, .int x4), (5, .int x5), (6, .int x6)] → W p l e (headSpec (Cond.code yX10_holds cX10_holds 8 (some .boolean) :: gT) ({ frames := 34, cells := 0, slots := 0, locals := 6800 } : Room)).room s m ([.ref p0, .int p1, .int p2] : List Value).toArray below meth c H locs 0 0 Q (F0 m 312 ls [.int y0]) := by
    intro x3 x4 x5 x6 y0 H locs ls r_p1 r_p2 r_x3 r_x4 r_x5 r_x6 r_y0 hw hl
    refine lv_istore (lv' := [(7, .int y0), (0, .ref p0), (1, .int p1), (2, .int p2), (3, .int x3), (4, .int x4), (5, .int x5), (6, .int x6)]) hx hb dX10_holds_312 hl (by decide) rfl (fun ls hl => ?_)
    refine lv_aload_n hx hb dX10_holds_314 rfl (lv_at hl 1 rfl) ?_
    refine tg_get (ci := 10) (ts := ty_MODEL) (C := RX10) (T := TX10) (N := 49) hx hb hts inX10 hown hK hw h_p0 rfl rfl 14 (by decide) (hts _ tw_1151) (fun _ h9 => h9) (ft := vR 34) rfl dX10_holds_315 (fun u_1 hv_u_1 m_u_1 => ?_)
    obtain ⟨vu_1, rfl, h_vu_1⟩ := hv_u_1
    refine lv_iload_n hx hb dX10_holds_318 rfl (lv_at hl 4 rfl) ?_
    refine lv_iconst (v := 3) hx hb dX10_holds_319 (by decide) ?_
    refine lv_iadd hx hb dX10_holds_320 (lv_topi (fun v_2 e_v_2 => ?_))
    obtain ⟨t_v_2, r_v_2⟩ := tq_add (lo := 177) (hi := 301) r_x3 rl_3 (by decide +kernel) e_v_2
    have t_v_2 : v_2.toInt = x3.toInt + 3 := t_v_2
    refine tg_iald (lo := (-2147483648)) (hi := 2147483647) hx hb hK hw h_vu_1 rfl 177 301 r_v_2 (by decide) (by decide +kernel) dX10_holds_321 (fun v_3 r_v_3 m_v_3 o_v_3 => ?_)
    refine lv_bipush (v := 60) hx hb dX10_holds_322 (by decide) ?_
    refine lv_icmp_ne (tgt := 342) hx hb dX10_holds_324 (by decide) (fun c_324 => ?_) (fun c_324 => ?_)
    · refine lv_aload_n hx hb dX10_holds_342 rfl (lv_at hl 1 rfl) ?_
      refine tg_mem (ci := 10) (C := RX10) (T := TX10) (N := 49) hx hb hts inX10 hown hK hw 14 m_u_1 rfl (by decide) (hts _ tw_1151) (fun _ h9 => h9) dX10_holds_343 ?_
      refine lv_iload_n hx hb dX10_holds_346 rfl (lv_at hl 4 rfl) ?_
      refine lv_iconst (v := 3) hx hb dX10_holds_347 (by decide) ?_
      refine lv_iadd hx hb dX10_holds_348 (lv_topi (fun v_4 e_v_4 => ?_))
      obtain ⟨t_v_4, r_v_4⟩ := tq_add (lo := 177) (hi := 301) r_x3 rl_3 (by decide +kernel) e_v_4
      have t_v_4 : v_4.toInt = x3.toInt + 3 := t_v_4
      refine tg_iald (lo := (-2147483648)) (hi := 2147483647) hx hb hK hw h_vu_1 rfl 177 301 r_v_4 (by decide) (by decide +kernel) dX10_holds_349 (fun v_5 r_v_5 m_v_5 o_v_5 => ?_)
      refine lv_bipush (v := 61) hx hb dX10_holds_350 (by decide) ?_
      refine lv_icmp_ne (tgt := 370) hx hb dX10_holds_352 (by decide) (fun c_352 => ?_) (fun c_352 => ?_)
      · refine lv_iload hx hb dX10_holds_370 (lv_at hl 0 rfl) ?_
        refine lv_iload hx hb dX10_holds_372 (lv_at hl 6 rfl) ?_
        refine lv_icmp_le (tgt := 381) hx hb dX10_holds_374 (by decide) (fun c_374 => ?_) (fun c_374 => ?_)
        · refine lv_iconst (v := 0) hx hb dX10_holds_381 (by decide) ?_
          subst hQ
          exact W.zret (v := 0) hx hb hr (rfl) (fun t ht hW => ⟨⟨0, (), rfl, ⟨rl_0.to (by decide), (fun h0 => trivial), (fun _ => trivial)⟩, by rw [ht]; exact hw.2.1, va_K.moved hW.alike hK, hw.2.2.1⟩, hw.2.2.2.1.F ht⟩) hw.2.2.2.1.2.2 dX10_holds_382
        · have r_x5 : RI x5 (-2147483648) 2147483646 := rc_lt1 r_x5 r_y0 (ti_nle c_374) (by decide)
          have r_y0 : RI y0 (-2147483647) 2147483647 := rc_lt2 r_x5 r_y0 (ti_nle c_374) (by decide)
          refine lv_iconst (v := 1) hx hb dX10_holds_377 (by decide) ?_
          refine lv_goto (tgt := 382) hx hb dX10_holds_378 (by decide) ?_
          subst hQ
          exact W.zret (v := 1) hx hb hr (rfl) (fun t ht hW => ⟨⟨1, (), rfl, ⟨rl_1.to (by decide), (fun _ => trivial), (fun h0 => trivial)⟩, by rw [ht]; exact hw.2.1, va_K.moved hW.alike hK, hw.2.2.1⟩, hw.2.2.2.1.F ht⟩) hw.2.2.2.1.2.2 dX10_holds_382
      · have r_v_5 : RI v_5 61 61 := rc_eq1 r_v_5 rl_61 (ti_eq c_352) (by decide)
        refine lv_iload hx hb dX10_holds_355 (lv_at hl 0 rfl) ?_
        refine lv_iload hx hb dX10_holds_357 (lv_at hl 6 rfl) ?_
        refine lv_icmp_ne (tgt := 366) hx hb dX10_holds_359 (by decide) (fun c_359 => ?_) (fun c_359 => ?_)
        · refine lv_iconst (v := 0) hx hb dX10_holds_366 (by decide) ?_
          refine lv_goto (tgt := 382) hx hb dX10_holds_367 (by decide) ?_
          subst hQ
          exact W.zret (v := 0) hx hb hr (rfl) (fun t ht hW => ⟨⟨0, (), rfl, ⟨rl_0.to (by decide), (fun h0 => trivial), (fun _ => trivial)⟩, by rw [ht]; exact hw.2.1, va_K.moved hW.alike hK, hw.2.2.1⟩, hw.2.2.2.1.F ht⟩) hw.2.2.2.1.2.2 dX10_holds_382
        · refine lv_iconst (v := 1) hx hb dX10_holds_362 (by decide) ?_
          refine lv_goto (tgt := 382) hx hb dX10_holds_363 (by decide) ?_
          subst hQ
          exact W.zret (v := 1) hx hb hr (rfl) (fun t ht hW => ⟨⟨1, (), rfl, ⟨rl_1.to (by decide), (fun _ => trivial), (fun h0 => trivial)⟩, by rw [ht]; exact hw.2.1, va_K.moved hW.alike hK, hw.2.2.1⟩, hw.2.2.2.1.F ht⟩) hw.2.2.2.1.2.2 dX10_holds_382
    · have r_v_3 : RI v_3 60 60 := rc_eq1 r_v_3 rl_60 (ti_eq c_324) (by decide)
      refine lv_iload hx hb dX10_holds_327 (lv_at hl 0 rfl) ?_
      refine lv_iload hx hb dX10_holds_329 (lv_at hl 6 rfl) ?_
      refine lv_icmp_ge (tgt := 338) hx hb dX10_holds_331 (by decide) (fun c_331 => ?_) (fun c_331 => ?_)
      · refine lv_iconst (v := 0) hx hb dX10_holds_338 (by decide) ?_
        refine lv_goto (tgt := 382) hx hb dX10_holds_339 (by decide) ?_
        subst hQ
        exact W.zret (v := 0) hx hb hr (rfl) (fun t ht hW => ⟨⟨0, (), rfl, ⟨rl_0.to (by decide), (fun h0 => trivial), (fun _ => trivial)⟩, by rw [ht]; exact hw.2.1, va_K.moved hW.alike hK, hw.2.2.1⟩, hw.2.2.2.1.F ht⟩) hw.2.2.2.1.2.2 dX10_holds_382
      · have r_y0 : RI y0 (-2147483648) 2147483646 := rc_lt1 r_y0 r_x5 (ti_nle c_331) (by decide)
        have r_x5 : RI x5 (-2147483647) 2147483647 := rc_lt2 r_y0 r_x5 (ti_nle c_331) (by decide)
        refine lv_iconst (v := 1) hx hb dX10_holds_334 (by decide) ?_
        refine lv_goto (tgt := 382) hx hb dX10_holds_335 (by decide) ?_
        subst hQ
        exact W.zret (v := 1) hx hb hr (rfl) (fun t ht hW => ⟨⟨1, (), rfl, ⟨rl_1.to (by decide), (fun _ => trivial), (fun h0 => trivial)⟩, by rw [ht]; exact hw.2.1, va_K.moved hW.alike hK, hw.2.2.1⟩, hw.2.2.2.1.F ht⟩) hw.2.2.2.1.2.2 dX10_holds_382
  refine lv_sipush (v := 174) hx hb dX10_holds_0 (by decide) ?_
  refine lv_iconst (v := 4) hx hb dX10_holds_3 (by decide) ?_
  refine lv_iload_n hx hb dX10_holds_4 rfl (lv_at hl 1 rfl) ?_
  refine lv_imul hx hb dX10_holds_5 (lv_topi (fun v_6 e_v_6 => ?_))
  obtain ⟨t_v_6, r_v_6⟩ := tq_mul (lo := 0) (hi := 124) rl_4 r_p1 (by decide +kernel) e_v_6
  have t_v_6 : v_6.toInt = 4 * p1.toInt := t_v_6
  refine lv_iadd hx hb dX10_holds_6 (lv_topi (fun v_7 e_v_7 => ?_))
  obtain ⟨t_v_7, r_v_7⟩ := tq_add (lo := 174) (hi := 298) rl_174 r_v_6 (by decide +kernel) e_v_7
  have t_v_7 : v_7.toInt = 174 + v_6.toInt := t_v_7
  refine lv_istore_n (lv' := [(3, .int v_7), (0, .ref p0), (1, .int p1), (2, .int p2)]) hx hb dX10_holds_7 rfl hl (by decide) rfl (fun ls hl => ?_)
  refine lv_aload_n hx hb dX10_holds_8 rfl (lv_at hl 1 rfl) ?_
  refine tg_get (ci := 10) (ts := ty_MODEL) (C := RX10) (T := TX10) (N := 49) hx hb hts inX10 hown hK hw h_p0 rfl rfl 14 (by decide) (hts _ tw_1151) (fun _ h9 => h9) (ft := vR 34) rfl dX10_holds_9 (fun u_8 hv_u_8 m_u_8 => ?_)
  obtain ⟨vu_8, rfl, h_vu_8⟩ := hv_u_8
  refine lv_iload_n hx hb dX10_holds_12 rfl (lv_at hl 0 rfl) ?_
  refine lv_iconst (v := 1) hx hb dX10_holds_13 (by decide) ?_
  refine lv_iadd hx hb dX10_holds_14 (lv_topi (fun v_9 e_v_9 => ?_))
  obtain ⟨t_v_9, r_v_9⟩ := tq_add (lo := 175) (hi := 299) r_v_7 rl_1 (by decide +kernel) e_v_9
  have t_v_9 : v_9.toInt = v_7.toInt + 1 := t_v_9
  refine tg_iald (lo := (-2147483648)) (hi := 2147483647) hx hb hK hw h_vu_8 rfl 175 299 r_v_9 (by decide) (by decide +kernel) dX10_holds_15 (fun v_10 r_v_10 m_v_10 o_v_10 => ?_)
  refine lv_istore (lv' := [(4, .int v_10), (3, .int v_7), (0, .ref p0), (1, .int p1), (2, .int p2)]) hx hb dX10_holds_16 hl (by decide) rfl (fun ls hl => ?_)
  refine lv_aload_n hx hb dX10_holds_18 rfl (lv_at hl 2 rfl) ?_
  refine tg_mem (ci := 10) (C := RX10) (T := TX10) (N := 49) hx hb hts inX10 hown hK hw 14 m_u_8 rfl (by decide) (hts _ tw_1151) (fun _ h9 => h9) dX10_holds_19 ?_
  refine lv_iload_n hx hb dX10_holds_22 rfl (lv_at hl 1 rfl) ?_
  refine lv_iconst (v := 2) hx hb dX10_holds_23 (by decide) ?_
  refine lv_iadd hx hb dX10_holds_24 (lv_topi (fun v_11 e_v_11 => ?_))
  obtain ⟨t_v_11, r_v_11⟩ := tq_add (lo := 176) (hi := 300) r_v_7 rl_2 (by decide +kernel) e_v_11
  have t_v_11 : v_11.toInt = v_7.toInt + 2 := t_v_11
  refine tg_iald (lo := (-2147483648)) (hi := 2147483647) hx hb hK hw h_vu_8 rfl 176 300 r_v_11 (by decide) (by decide +kernel) dX10_holds_25 (fun v_12 r_v_12 m_v_12 o_v_12 => ?_)
  refine lv_istore (lv' := [(5, .int v_12), (4, .int v_10), (3, .int v_7), (0, .ref p0), (1, .int p1), (2, .int p2)]) hx hb dX10_holds_26 hl (by decide) rfl (fun ls hl => ?_)
  refine lv_aload_n hx hb dX10_holds_28 rfl (lv_at hl 3 rfl) ?_
  refine tg_mem (ci := 10) (C := RX10) (T := TX10) (N := 49) hx hb hts inX10 hown hK hw 14 m_u_8 rfl (by decide) (hts _ tw_1151) (fun _ h9 => h9) dX10_holds_29 ?_
  refine lv_iload_n hx hb dX10_holds_32 rfl (lv_at hl 2 rfl) ?_
  refine tg_iald (lo := (-2147483648)) (hi := 2147483647) hx hb hK hw h_vu_8 rfl 174 298 r_v_7 (by decide) (by decide +kernel) dX10_holds_33 (fun v_13 r_v_13 m_v_13 o_v_13 => ?_)
  by_cases k_34_1 : v_13 = 1
  · refine lv_lookup (tgt := 108) (off := 74) hx hb dX10_holds_34 (by decide) (by rw [k_34_1]; decide) (by decide) ?_
    have r_v_13 : RI v_13 1 1 := by rw [k_34_1]; exact rl_1
    have g_v_10 : 0 ≤ v_10.toInt ∧ v_10.toInt < p1.toInt := by obtain ⟨_, f9, e8, e7, q9, _⟩ := ax_of (k := 14) (t := 34) hw h_p0 rfl (fun _ => rfl); cases FLD.inj hw.2.2.1 e8 m_u_8; have t9 := ARR.ael hw.2.2.1 e7 m_v_13; have x9 := ARR.ael hw.2.2.1 e7 m_v_10; rw [show Int32.toNatClampNeg v_7 = 174 + 4 * Int32.toNatClampNeg p1 from (by have k1 := r_v_7.cl (by decide); have k2 := r_p1.cl (by decide); omega)] at t9; rw [show Int32.toNatClampNeg v_9 = 175 + 4 * Int32.toNatClampNeg p1 from (by have k1 := r_v_9.cl (by decide); have k2 := r_p1.cl (by decide); omega)] at x9; exact RN_child q9 (r_p1.to (by decide)) t9 x9 (r_v_13.to (by decide))
    have r_v_10 : RI v_10 0 30 := ⟨g_v_10.1, by have k1 := r_p1.2; omega⟩
    refine lv_aload_n hx hb dX10_holds_108 rfl (lv_at hl 3 rfl) ?_
    refine lv_iload hx hb dX10_holds_109 (lv_at hl 1 rfl) ?_
    refine lv_iload_n hx hb dX10_holds_111 rfl (lv_at hl 5 rfl) ?_
    refine tk_ir (va_runV (As := [.int v_10, .int p2]) (rest := []) ⟨hx, hb, hml, hown, hts⟩ (c_X10_holds__29 l D cy z s.heap.size Ps w0 hw.1 p0 v_10 p2 h_p0 r_v_10 r_p2) (cwV 2 hts (gV tw_1787 tw_1789 ts_119 tw_15 tw_1790) rfl rfl rfl (by decide +kernel) ⟨Nat.le_of_ble_eq_true rfl, Nat.le_of_ble_eq_true rfl⟩) (tg_preV hw hK hSD hA (ci := 10) (q := (RX10, TX10, 49)) rfl h_p0 rfl) rfl rfl hl.1 rfl (lv_room (Nat.le_of_ble_eq_true rfl)) dX10_holds_112 ⟨Nat.le_of_ble_eq_true rfl, Nat.le_of_ble_eq_true rfl⟩) hw hA (fun v_14  H locs hp_v_14 hw => ?_)
    have r_v_14 : RI v_14 0 1 := hp_v_14.1
    refine lv_if_ne (tgt := 122) hx hb dX10_holds_115 (by decide) (fun c_115 => ?_) (fun c_115 => ?_)
    · have r_v_14 : RI v_14 1 1 := rc_neL r_v_14 rl_0 (ti_ne c_115) (by decide)
      refine lv_iconst (v := 0) hx hb dX10_holds_122 (by decide) ?_
      subst hQ
      exact W.zret (v := 0) hx hb hr (rfl) (fun t ht hW => ⟨⟨0, (), rfl, ⟨rl_0.to (by decide), (fun h0 => trivial), (fun _ => trivial)⟩, by rw [ht]; exact hw.2.1, va_K.moved hW.alike hK, hw.2.2.1⟩, hw.2.2.2.1.F ht⟩) hw.2.2.2.1.2.2 dX10_holds_123
    · have r_v_14 : RI v_14 0 0 := rc_eq1 r_v_14 rl_0 (ti_eq c_115) (by decide)
      refine lv_iconst (v := 1) hx hb dX10_holds_118 (by decide) ?_
      refine lv_goto (tgt := 123) hx hb dX10_holds_119 (by decide) ?_
      subst hQ
      exact W.zret (v := 1) hx hb hr (rfl) (fun t ht hW => ⟨⟨1, (), rfl, ⟨rl_1.to (by decide), (fun _ => trivial), (fun h0 => trivial)⟩, by rw [ht]; exact hw.2.1, va_K.moved hW.alike hK, hw.2.2.1⟩, hw.2.2.2.1.F ht⟩) hw.2.2.2.1.2.2 dX10_holds_123
  · by_cases k_34_2 : v_13 = 2
    · refine lv_lookup (tgt := 124) (off := 90) hx hb dX10_holds_34 (by decide) (by rw [k_34_2]; decide) (by decide) ?_
      have r_v_13 : RI v_13 2 2 := by rw [k_34_2]; exact rl_2
      have g_v_10 : 0 ≤ v_10.toInt ∧ v_10.toInt < p1.toInt := by obtain ⟨_, f9, e8, e7, q9, _⟩ := ax_of (k := 14) (t := 34) hw h_p0 rfl (fun _ => rfl); cases FLD.inj hw.2.2.1 e8 m_u_8; have t9 := ARR.ael hw.2.2.1 e7 m_v_13; have x9 := ARR.ael hw.2.2.1 e7 m_v_10; rw [show Int32.toNatClampNeg v_7 = 174 + 4 * Int32.toNatClampNeg p1 from (by have k1 := r_v_7.cl (by decide); have k2 := r_p1.cl (by decide); omega)] at t9; rw [show Int32.toNatClampNeg v_9 = 175 + 4 * Int32.toNatClampNeg p1 from (by have k1 := r_v_9.cl (by decide); have k2 := r_p1.cl (by decide); omega)] at x9; exact RN_child q9 (r_p1.to (by decide)) t9 x9 (r_v_13.to (by decide))
      have r_v_10 : RI v_10 0 30 := ⟨g_v_10.1, by have k1 := r_p1.2; omega⟩
      have g_v_12 : 0 ≤ v_12.toInt ∧ v_12.toInt < p1.toInt := by obtain ⟨_, f9, e8, e7, q9, _⟩ := ax_of (k := 14) (t := 34) hw h_p0 rfl (fun _ => rfl); cases FLD.inj hw.2.2.1 e8 m_u_8; have t9 := ARR.ael hw.2.2.1 e7 m_v_13; have x9 := ARR.ael hw.2.2.1 e7 m_v_12; rw [show Int32.toNatClampNeg v_7 = 174 + 4 * Int32.toNatClampNeg p1 from (by have k1 := r_v_7.cl (by decide); have k2 := r_p1.cl (by decide); omega)] at t9; rw [show Int32.toNatClampNeg v_11 = 176 + 4 * Int32.toNatClampNeg p1 from (by have k1 := r_v_11.cl (by decide); have k2 := r_p1.cl (by decide); omega)] at x9; exact RN_child2 q9 (r_p1.to (by decide)) t9 x9 (r_v_13.to (by decide))
      have r_v_12 : RI v_12 0 30 := ⟨g_v_12.1, by have k1 := r_p1.2; omega⟩
      refine lv_aload_n hx hb dX10_holds_124 rfl (lv_at hl 3 rfl) ?_
      refine lv_iload hx hb dX10_holds_125 (lv_at hl 1 rfl) ?_
      refine lv_iload_n hx hb dX10_holds_127 rfl (lv_at hl 5 rfl) ?_
      refine tk_ir (va_runV (As := [.int v_10, .int p2]) (rest := []) ⟨hx, hb, hml, hown, hts⟩ (c_X10_holds__29 l D cy z s.heap.size Ps w0 hw.1 p0 v_10 p2 h_p0 r_v_10 r_p2) (cwV 2 hts (gV tw_1787 tw_1789 ts_119 tw_15 tw_1790) rfl rfl rfl (by decide +kernel) ⟨Nat.le_of_ble_eq_true rfl, Nat.le_of_ble_eq_true rfl⟩) (tg_preV hw hK hSD hA (ci := 10) (q := (RX10, TX10, 49)) rfl h_p0 rfl) rfl rfl hl.1 rfl (lv_room (Nat.le_of_ble_eq_true rfl)) dX10_holds_128 ⟨Nat.le_of_ble_eq_true rfl, Nat.le_of_ble_eq_true rfl⟩) hw hA (fun v_15  H locs hp_v_15 hw => ?_)
      have r_v_15 : RI v_15 0 1 := hp_v_15.1
      refine lv_if_eq (tgt := 148) hx hb dX10_holds_131 (by decide) (fun c_131 => ?_) (fun c_131 => ?_)
      · have r_v_15 : RI v_15 0 0 := rc_eq1 r_v_15 rl_0 (ti_eq c_131) (by decide)
        refine lv_iconst (v := 0) hx hb dX10_holds_148 (by decide) ?_
        subst hQ
        exact W.zret (v := 0) hx hb hr (rfl) (fun t ht hW => ⟨⟨0, (), rfl, ⟨rl_0.to (by decide), (fun h0 => trivial), (fun _ => trivial)⟩, by rw [ht]; exact hw.2.1, va_K.moved hW.alike hK, hw.2.2.1⟩, hw.2.2.2.1.F ht⟩) hw.2.2.2.1.2.2 dX10_holds_149
      · have r_v_15 : RI v_15 1 1 := rc_neL r_v_15 rl_0 (ti_ne c_131) (by decide)
        refine lv_aload_n hx hb dX10_holds_134 rfl (lv_at hl 3 rfl) ?_
        refine lv_iload hx hb dX10_holds_135 (lv_at hl 0 rfl) ?_
        refine lv_iload_n hx hb dX10_holds_137 rfl (lv_at hl 5 rfl) ?_
        refine tk_ir (va_runV (As := [.int v_12, .int p2]) (rest := []) ⟨hx, hb, hml, hown, hts⟩ (c_X10_holds__29 l D cy z H.size Ps w0 hw.1 p0 v_12 p2 h_p0 r_v_12 r_p2) (cwV 2 hts (gV tw_1787 tw_1789 ts_119 tw_15 tw_1790) rfl rfl rfl (by decide +kernel) ⟨Nat.le_of_ble_eq_true rfl, Nat.le_of_ble_eq_true rfl⟩) (tg_preV hw hK hSD hA (ci := 10) (q := (RX10, TX10, 49)) rfl h_p0 rfl) rfl rfl hl.1 rfl (lv_room (Nat.le_of_ble_eq_true rfl)) dX10_holds_138 ⟨Nat.le_of_ble_eq_true rfl, Nat.le_of_ble_eq_true rfl⟩) hw hA (fun v_16  H locs hp_v_16 hw => ?_)
        have r_v_16 : RI v_16 0 1 := hp_v_16.1
        refine lv_if_eq (tgt := 148) hx hb dX10_holds_141 (by decide) (fun c_141 => ?_) (fun c_141 => ?_)
        · have r_v_16 : RI v_16 0 0 := rc_eq1 r_v_16 rl_0 (ti_eq c_141) (by decide)
          refine lv_iconst (v := 0) hx hb dX10_holds_148 (by decide) ?_
          subst hQ
          exact W.zret (v := 0) hx hb hr (rfl) (fun t ht hW => ⟨⟨0, (), rfl, ⟨rl_0.to (by decide), (fun h0 => trivial), (fun _ => trivial)⟩, by rw [ht]; exact hw.2.1, va_K.moved hW.alike hK, hw.2.2.1⟩, hw.2.2.2.1.F ht⟩) hw.2.2.2.1.2.2 dX10_holds_149
        · have r_v_16 : RI v_16 1 1 := rc_neL r_v_16 rl_0 (ti_ne c_141) (by decide)
          refine lv_iconst (v := 1) hx hb dX10_holds_144 (by decide) ?_
          refine lv_goto (tgt := 149) hx hb dX10_holds_145 (by decide) ?_
          subst hQ
          exact W.zret (v := 1) hx hb hr (rfl) (fun t ht hW => ⟨⟨1, (), rfl, ⟨rl_1.to (by decide), (fun _ => trivial), (fun h0 => trivial)⟩, by rw [ht]; exact hw.2.1, va_K.moved hW.alike hK, hw.2.2.1⟩, hw.2.2.2.1.F ht⟩) hw.2.2.2.1.2.2 dX10_holds_149
    · by_cases k_34_3 : v_13 = 3
      · refine lv_lookup (tgt := 150) (off := 116) hx hb dX10_holds_34 (by decide) (by rw [k_34_3]; decide) (by decide) ?_
        have r_v_13 : RI v_13 3 3 := by rw [k_34_3]; exact rl_3
        have g_v_10 : 0 ≤ v_10.toInt ∧ v_10.toInt < p1.toInt := by obtain ⟨_, f9, e8, e7, q9, _⟩ := ax_of (k := 14) (t := 34) hw h_p0 rfl (fun _ => rfl); cases FLD.inj hw.2.2.1 e8 m_u_8; have t9 := ARR.ael hw.2.2.1 e7 m_v_13; have x9 := ARR.ael hw.2.2.1 e7 m_v_10; rw [show Int32.toNatClampNeg v_7 = 174 + 4 * Int32.toNatClampNeg p1 from (by have k1 := r_v_7.cl (by decide); have k2 := r_p1.cl (by decide); omega)] at t9; rw [show Int32.toNatClampNeg v_9 = 175 + 4 * Int32.toNatClampNeg p1 from (by have k1 := r_v_9.cl (by decide); have k2 := r_p1.cl (by decide); omega)] at x9; exact RN_child q9 (r_p1.to (by decide)) t9 x9 (r_v_13.to (by decide))
        have r_v_10 : RI v_10 0 30 := ⟨g_v_10.1, by have k1 := r_p1.2; omega⟩
        have g_v_12 : 0 ≤ v_12.toInt ∧ v_12.toInt < p1.toInt := by obtain ⟨_, f9, e8, e7, q9, _⟩ := ax_of (k := 14) (t := 34) hw h_p0 rfl (fun _ => rfl); cases FLD.inj hw.2.2.1 e8 m_u_8; have t9 := ARR.ael hw.2.2.1 e7 m_v_13; have x9 := ARR.ael hw.2.2.1 e7 m_v_12; rw [show Int32.toNatClampNeg v_7 = 174 + 4 * Int32.toNatClampNeg p1 from (by have k1 := r_v_7.cl (by decide); have k2 := r_p1.cl (by decide); omega)] at t9; rw [show Int32.toNatClampNeg v_11 = 176 + 4 * Int32.toNatClampNeg p1 from (by have k1 := r_v_11.cl (by decide); have k2 := r_p1.cl (by decide); omega)] at x9; exact RN_child2 q9 (r_p1.to (by decide)) t9 x9 (r_v_13.to (by decide))
        have r_v_12 : RI v_12 0 30 := ⟨g_v_12.1, by have k1 := r_p1.2; omega⟩
        refine lv_aload_n hx hb dX10_holds_150 rfl (lv_at hl 3 rfl) ?_
        refine lv_iload hx hb dX10_holds_151 (lv_at hl 1 rfl) ?_
        refine lv_iload_n hx hb dX10_holds_153 rfl (lv_at hl 5 rfl) ?_
        refine tk_ir (va_runV (As := [.int v_10, .int p2]) (rest := []) ⟨hx, hb, hml, hown, hts⟩ (c_X10_holds__29 l D cy z s.heap.size Ps w0 hw.1 p0 v_10 p2 h_p0 r_v_10 r_p2) (cwV 2 hts (gV tw_1787 tw_1789 ts_119 tw_15 tw_1790) rfl rfl rfl (by decide +kernel) ⟨Nat.le_of_ble_eq_true rfl, Nat.le_of_ble_eq_true rfl⟩) (tg_preV hw hK hSD hA (ci := 10) (q := (RX10, TX10, 49)) rfl h_p0 rfl) rfl rfl hl.1 rfl (lv_room (Nat.le_of_ble_eq_true rfl)) dX10_holds_154 ⟨Nat.le_of_ble_eq_true rfl, Nat.le_of_ble_eq_true rfl⟩) hw hA (fun v_17  H locs hp_v_17 hw => ?_)
        have r_v_17 : RI v_17 0 1 := hp_v_17.1
        refine lv_if_ne (tgt := 170) hx hb dX10_holds_157 (by decide) (fun c_157 => ?_) (fun c_157 => ?_)
        · have r_v_17 : RI v_17 1 1 := rc_neL r_v_17 rl_0 (ti_ne c_157) (by decide)
          refine lv_iconst (v := 1) hx hb dX10_holds_170 (by decide) ?_
          refine lv_goto (tgt := 175) hx hb dX10_holds_171 (by decide) ?_
          subst hQ
          exact W.zret (v := 1) hx hb hr (rfl) (fun t ht hW => ⟨⟨1, (), rfl, ⟨rl_1.to (by decide), (fun _ => trivial), (fun h0 => trivial)⟩, by rw [ht]; exact hw.2.1, va_K.moved hW.alike hK, hw.2.2.1⟩, hw.2.2.2.1.F ht⟩) hw.2.2.2.1.2.2 dX10_holds_175
        · have r_v_17 : RI v_17 0 0 := rc_eq1 r_v_17 rl_0 (ti_eq c_157) (by decide)
          refine lv_aload_n hx hb dX10_holds_160 rfl (lv_at hl 3 rfl) ?_
          refine lv_iload hx hb dX10_holds_161 (lv_at hl 0 rfl) ?_
          refine lv_iload_n hx hb dX10_holds_163 rfl (lv_at hl 5 rfl) ?_
          refine tk_ir (va_runV (As := [.int v_12, .int p2]) (rest := []) ⟨hx, hb, hml, hown, hts⟩ (c_X10_holds__29 l D cy z H.size Ps w0 hw.1 p0 v_12 p2 h_p0 r_v_12 r_p2) (cwV 2 hts (gV tw_1787 tw_1789 ts_119 tw_15 tw_1790) rfl rfl rfl (by decide +kernel) ⟨Nat.le_of_ble_eq_true rfl, Nat.le_of_ble_eq_true rfl⟩) (tg_preV hw hK hSD hA (ci := 10) (q := (RX10, TX10, 49)) rfl h_p0 rfl) rfl rfl hl.1 rfl (lv_room (Nat.le_of_ble_eq_true rfl)) dX10_holds_164 ⟨Nat.le_of_ble_eq_true rfl, Nat.le_of_ble_eq_true rfl⟩) hw hA (fun v_18  H locs hp_v_18 hw => ?_)
          have r_v_18 : RI v_18 0 1 := hp_v_18.1
          refine lv_if_eq (tgt := 174) hx hb dX10_holds_167 (by decide) (fun c_167 => ?_) (fun c_167 => ?_)
          · have r_v_18 : RI v_18 0 0 := rc_eq1 r_v_18 rl_0 (ti_eq c_167) (by decide)
            refine lv_iconst (v := 0) hx hb dX10_holds_174 (by decide) ?_
            subst hQ
            exact W.zret (v := 0) hx hb hr (rfl) (fun t ht hW => ⟨⟨0, (), rfl, ⟨rl_0.to (by decide), (fun h0 => trivial), (fun _ => trivial)⟩, by rw [ht]; exact hw.2.1, va_K.moved hW.alike hK, hw.2.2.1⟩, hw.2.2.2.1.F ht⟩) hw.2.2.2.1.2.2 dX10_holds_175
          · have r_v_18 : RI v_18 1 1 := rc_neL r_v_18 rl_0 (ti_ne c_167) (by decide)
            refine lv_iconst (v := 1) hx hb dX10_holds_170 (by decide) ?_
            refine lv_goto (tgt := 175) hx hb dX10_holds_171 (by decide) ?_
            subst hQ
            exact W.zret (v := 1) hx hb hr (rfl) (fun t ht hW => ⟨⟨1, (), rfl, ⟨rl_1.to (by decide), (fun _ => trivial), (fun h0 => trivial)⟩, by rw [ht]; exact hw.2.1, va_K.moved hW.alike hK, hw.2.2.1⟩, hw.2.2.2.1.F ht⟩) hw.2.2.2.1.2.2 dX10_holds_175
      · by_cases k_34_69 : v_13 = 69
        · refine lv_lookup (tgt := 176) (off := 142) hx hb dX10_holds_34 (by decide) (by rw [k_34_69]; decide) (by decide) ?_
          have r_v_13 : RI v_13 69 69 := by rw [k_34_69]; exact rl_69
          refine lv_aload_n hx hb dX10_holds_176 rfl (lv_at hl 3 rfl) ?_
          refine lv_iload_n hx hb dX10_holds_177 rfl (lv_at hl 5 rfl) ?_
          refine tk_ir (va_runV (As := [.int p2]) (rest := []) ⟨hx, hb, hml, hown, hts⟩ (c_X10_isOpen l D cy z s.heap.size Ps w0 hw.1 p0 p2 h_p0 (r_p2.to (by decide))) (cwV 1 hts (gV tw_1457 tw_1459 ts_71 tw_15 tw_1460) rfl rfl rfl (by decide +kernel) ⟨Nat.le_of_ble_eq_true rfl, Nat.le_of_ble_eq_true rfl⟩) (tg_preV hw hK hSD hA (ci := 10) (q := (RX10, TX10, 49)) rfl h_p0 rfl) rfl rfl hl.1 rfl (lv_room (Nat.le_of_ble_eq_true rfl)) dX10_holds_178 ⟨Nat.le_of_ble_eq_true rfl, Nat.le_of_ble_eq_true rfl⟩) hw hA (fun v_19  H locs hp_v_19 hw => ?_)
          have r_v_19 : RI v_19 0 1 := hp_v_19.1
          subst hQ
          exact W.zret (v := v_19) hx hb hr (tq_nz (r_v_19.to (by decide))) (fun t ht hW => ⟨⟨v_19, (), rfl, ⟨r_v_19.to (by decide), (fun h0 => trivial), (fun h0 => trivial)⟩, by rw [ht]; exact hw.2.1, va_K.moved hW.alike hK, hw.2.2.1⟩, hw.2.2.2.1.F ht⟩) hw.2.2.2.1.2.2 dX10_holds_181
        · by_cases k_34_70 : v_13 = 70
          · refine lv_lookup (tgt := 182) (off := 148) hx hb dX10_holds_34 (by decide) (by rw [k_34_70]; decide) (by decide) ?_
            have r_v_13 : RI v_13 70 70 := by rw [k_34_70]; exact rl_70
            refine lv_aload_n hx hb dX10_holds_182 rfl (lv_at hl 3 rfl) ?_
            refine lv_iload_n hx hb dX10_holds_183 rfl (lv_at hl 5 rfl) ?_
            refine tk_ir (va_runV (As := [.int p2]) (rest := []) ⟨hx, hb, hml, hown, hts⟩ (c_X10_whatIs l D cy z s.heap.size Ps w0 hw.1 p0 p2 h_p0 r_p2) (cwV 1 hts (gV tw_1449 tw_1451 ts_69 tw_15 tw_1452) rfl rfl rfl (by decide +kernel) ⟨Nat.le_of_ble_eq_true rfl, Nat.le_of_ble_eq_true rfl⟩) (tg_preV hw hK hSD hA (ci := 10) (q := (RX10, TX10, 49)) rfl h_p0 rfl) rfl rfl hl.1 rfl (lv_room (Nat.le_of_ble_eq_true rfl)) dX10_holds_184 ⟨Nat.le_of_ble_eq_true rfl, Nat.le_of_ble_eq_true rfl⟩) hw hA (fun v_20  H locs hp_v_20 hw => ?_)
            have r_v_20 : RI v_20 (-1) 5 := hp_v_20.1
            by_cases c9_v_20 : v_20.toInt < 0
            · have r_v_20 : RI v_20 (-1) (-1) := by unfold RI at r_v_20 ⊢; omega
              have x_NB_p0_p2 := (hp_v_20.2.2.2.2.1 (by omega)).1
              refine lv_iconst (v := (-1)) hx hb dX10_holds_187 (by decide) ?_
              refine lv_icmp_ne (tgt := 195) hx hb dX10_holds_188 (by decide) (fun c_188 => ?_) (fun c_188 => ?_)
              · exact absurd (r_v_20.eq.trans rl_m1.eq.symm) ((ti_ne c_188))
              · refine lv_iconst (v := 1) hx hb dX10_holds_191 (by decide) ?_
                refine lv_goto (tgt := 196) hx hb dX10_holds_192 (by decide) ?_
                subst hQ
                exact W.zret (v := 1) hx hb hr (rfl) (fun t ht hW => ⟨⟨1, (), rfl, ⟨rl_1.to (by decide), (fun _ => trivial), (fun h0 => trivial)⟩, by rw [ht]; exact hw.2.1, va_K.moved hW.alike hK, hw.2.2.1⟩, hw.2.2.2.1.F ht⟩) hw.2.2.2.1.2.2 dX10_holds_196
            · have r_v_20 : RI v_20 0 5 := by unfold RI at r_v_20 ⊢; omega
              have x_WB_p0_p2_v_20 := (hp_v_20.2.2.2.2.2 (by omega)).1
              refine lv_iconst (v := (-1)) hx hb dX10_holds_187 (by decide) ?_
              refine lv_icmp_ne (tgt := 195) hx hb dX10_holds_188 (by decide) (fun c_188 => ?_) (fun c_188 => ?_)
              · refine lv_iconst (v := 0) hx hb dX10_holds_195 (by decide) ?_
                subst hQ
                exact W.zret (v := 0) hx hb hr (rfl) (fun t ht hW => ⟨⟨0, (), rfl, ⟨rl_0.to (by decide), (fun h0 => trivial), (fun _ => trivial)⟩, by rw [ht]; exact hw.2.1, va_K.moved hW.alike hK, hw.2.2.1⟩, hw.2.2.2.1.F ht⟩) hw.2.2.2.1.2.2 dX10_holds_196
              · have r_v_20 : RI v_20 0 (-1) := rc_eq1 r_v_20 rl_m1 (ti_eq c_188) (by decide)
                exact (r_v_20.no (by decide)).elim
          · by_cases k_34_71 : v_13 = 71
            · refine lv_lookup (tgt := 197) (off := 163) hx hb dX10_holds_34 (by decide) (by rw [k_34_71]; decide) (by decide) ?_
              have r_v_13 : RI v_13 71 71 := by rw [k_34_71]; exact rl_71
              refine lv_aload_n hx hb dX10_holds_197 rfl (lv_at hl 3 rfl) ?_
              refine lv_iload_n hx hb dX10_holds_198 rfl (lv_at hl 5 rfl) ?_
              refine tk_ir (va_runV (As := [.int p2]) (rest := []) ⟨hx, hb, hml, hown, hts⟩ (c_X10_sittersOf l D cy z s.heap.size Ps w0 hw.1 p0 p2 h_p0 (r_p2.to (by decide))) (cwV 1 hts (gV tw_1461 tw_1463 ts_72 tw_15 tw_1464) rfl rfl rfl (by decide +kernel) ⟨Nat.le_of_ble_eq_true rfl, Nat.le_of_ble_eq_true rfl⟩) (tg_preV hw hK hSD hA (ci := 10) (q := (RX10, TX10, 49)) rfl h_p0 rfl) rfl rfl hl.1 rfl (lv_room (Nat.le_of_ble_eq_true rfl)) dX10_holds_199 ⟨Nat.le_of_ble_eq_true rfl, Nat.le_of_ble_eq_true rfl⟩) hw hA (fun v_21  H locs hp_v_21 hw => ?_)
              have r_v_21 : RI v_21 (-2147483648) 2147483647 := hp_v_21.1
              refine lv_if_eq (tgt := 209) hx hb dX10_holds_202 (by decide) (fun c_202 => ?_) (fun c_202 => ?_)
              · have r_v_21 : RI v_21 0 0 := rc_eq1 r_v_21 rl_0 (ti_eq c_202) (by decide)
                refine lv_iconst (v := 0) hx hb dX10_holds_209 (by decide) ?_
                subst hQ
                exact W.zret (v := 0) hx hb hr (rfl) (fun t ht hW => ⟨⟨0, (), rfl, ⟨rl_0.to (by decide), (fun h0 => trivial), (fun _ => trivial)⟩, by rw [ht]; exact hw.2.1, va_K.moved hW.alike hK, hw.2.2.1⟩, hw.2.2.2.1.F ht⟩) hw.2.2.2.1.2.2 dX10_holds_210
              · refine lv_iconst (v := 1) hx hb dX10_holds_205 (by decide) ?_
                refine lv_goto (tgt := 210) hx hb dX10_holds_206 (by decide) ?_
                subst hQ
                exact W.zret (v := 1) hx hb hr (rfl) (fun t ht hW => ⟨⟨1, (), rfl, ⟨rl_1.to (by decide), (fun _ => trivial), (fun h0 => trivial)⟩, by rw [ht]; exact hw.2.1, va_K.moved hW.alike hK, hw.2.2.1⟩, hw.2.2.2.1.F ht⟩) hw.2.2.2.1.2.2 dX10_holds_210
            · by_cases k_34_72 : v_13 = 72
              · refine lv_lookup (tgt := 211) (off := 177) hx hb dX10_holds_34 (by decide) (by rw [k_34_72]; decide) (by decide) ?_
                have r_v_13 : RI v_13 72 72 := by rw [k_34_72]; exact rl_72
                refine lv_aload_n hx hb dX10_holds_211 rfl (lv_at hl 3 rfl) ?_
                refine lv_iload_n hx hb dX10_holds_212 rfl (lv_at hl 5 rfl) ?_
                refine tk_ir (va_runV (As := [.int p2]) (rest := []) ⟨hx, hb, hml, hown, hts⟩ (c_X10_whatIs l D cy z s.heap.size Ps w0 hw.1 p0 p2 h_p0 r_p2) (cwV 1 hts (gV tw_1449 tw_1451 ts_69 tw_15 tw_1452) rfl rfl rfl (by decide +kernel) ⟨Nat.le_of_ble_eq_true rfl, Nat.le_of_ble_eq_true rfl⟩) (tg_preV hw hK hSD hA (ci := 10) (q := (RX10, TX10, 49)) rfl h_p0 rfl) rfl rfl hl.1 rfl (lv_room (Nat.le_of_ble_eq_true rfl)) dX10_holds_213 ⟨Nat.le_of_ble_eq_true rfl, Nat.le_of_ble_eq_true rfl⟩) hw hA (fun v_22  H locs hp_v_22 hw => ?_)
                have r_v_22 : RI v_22 (-1) 5 := hp_v_22.1
                by_cases c9_v_22 : v_22.toInt < 0
                · have r_v_22 : RI v_22 (-1) (-1) := by unfold RI at r_v_22 ⊢; omega
                  have x_NB_p0_p2 := (hp_v_22.2.2.2.2.1 (by omega)).1
                  refine lv_iload hx hb dX10_holds_216 (lv_at hl 1 rfl) ?_
                  refine lv_icmp_ne (tgt := 225) hx hb dX10_holds_218 (by decide) (fun c_218 => ?_) (fun c_218 => ?_)
                  · refine lv_iconst (v := 0) hx hb dX10_holds_225 (by decide) ?_
                    subst hQ
                    exact W.zret (v := 0) hx hb hr (rfl) (fun t ht hW => ⟨⟨0, (), rfl, ⟨rl_0.to (by decide), (fun h0 => trivial), (fun _ => trivial)⟩, by rw [ht]; exact hw.2.1, va_K.moved hW.alike hK, hw.2.2.1⟩, hw.2.2.2.1.F ht⟩) hw.2.2.2.1.2.2 dX10_holds_226
                  · have r_v_10 : RI v_10 (-1) (-1) := rc_eq2 r_v_22 r_v_10 (ti_eq c_218) (by decide)
                    refine lv_iconst (v := 1) hx hb dX10_holds_221 (by decide) ?_
                    refine lv_goto (tgt := 226) hx hb dX10_holds_222 (by decide) ?_
                    subst hQ
                    exact W.zret (v := 1) hx hb hr (rfl) (fun t ht hW => ⟨⟨1, (), rfl, ⟨rl_1.to (by decide), (fun _ => trivial), (fun h0 => trivial)⟩, by rw [ht]; exact hw.2.1, va_K.moved hW.alike hK, hw.2.2.1⟩, hw.2.2.2.1.F ht⟩) hw.2.2.2.1.2.2 dX10_holds_226
                · have r_v_22 : RI v_22 0 5 := by unfold RI at r_v_22 ⊢; omega
                  have x_WB_p0_p2_v_22 := (hp_v_22.2.2.2.2.2 (by omega)).1
                  refine lv_iload hx hb dX10_holds_216 (lv_at hl 1 rfl) ?_
                  refine lv_icmp_ne (tgt := 225) hx hb dX10_holds_218 (by decide) (fun c_218 => ?_) (fun c_218 => ?_)
                  · refine lv_iconst (v := 0) hx hb dX10_holds_225 (by decide) ?_
                    subst hQ
                    exact W.zret (v := 0) hx hb hr (rfl) (fun t ht hW => ⟨⟨0, (), rfl, ⟨rl_0.to (by decide), (fun h0 => trivial), (fun _ => trivial)⟩, by rw [ht]; exact hw.2.1, va_K.moved hW.alike hK, hw.2.2.1⟩, hw.2.2.2.1.F ht⟩) hw.2.2.2.1.2.2 dX10_holds_226
                  · have r_v_10 : RI v_10 0 5 := rc_eq2 r_v_22 r_v_10 (ti_eq c_218) (by decide)
                    refine lv_iconst (v := 1) hx hb dX10_holds_221 (by decide) ?_
                    refine lv_goto (tgt := 226) hx hb dX10_holds_222 (by decide) ?_
                    subst hQ
                    exact W.zret (v := 1) hx hb hr (rfl) (fun t ht hW => ⟨⟨1, (), rfl, ⟨rl_1.to (by decide), (fun _ => trivial), (fun h0 => trivial)⟩, by rw [ht]; exact hw.2.1, va_K.moved hW.alike hK, hw.2.2.1⟩, hw.2.2.2.1.F ht⟩) hw.2.2.2.1.2.2 dX10_holds_226
              · by_cases k_34_73 : v_13 = 73
                · refine lv_lookup (tgt := 227) (off := 193) hx hb dX10_holds_34 (by decide) (by rw [k_34_73]; decide) (by decide) ?_
                  have r_v_13 : RI v_13 73 73 := by rw [k_34_73]; exact rl_73
                  refine lv_aload_n hx hb dX10_holds_227 rfl (lv_at hl 3 rfl) ?_
                  refine tg_mem (ci := 10) (C := RX10) (T := TX10) (N := 49) hx hb hts inX10 hown hK hw 14 m_u_8 rfl (by decide) (hts _ tw_1151) (fun _ h9 => h9) dX10_holds_228 ?_
                  refine lv_bipush (v := 86) hx hb dX10_holds_231 (by decide) ?_
                  refine lv_iload_n hx hb dX10_holds_233 rfl (lv_at hl 5 rfl) ?_
                  refine lv_iadd hx hb dX10_holds_234 (lv_topi (fun v_23 e_v_23 => ?_))
                  obtain ⟨t_v_23, r_v_23⟩ := tq_add (lo := 86) (hi := 91) rl_86 r_p2 (by decide +kernel) e_v_23
                  have t_v_23 : v_23.toInt = 86 + p2.toInt := t_v_23
                  refine tg_iald (lo := (-2147483648)) (hi := 2147483647) hx hb hK hw h_vu_8 rfl 86 91 r_v_23 (by decide) (by decide +kernel) dX10_holds_235 (fun v_24 r_v_24 m_v_24 o_v_24 => ?_)
                  refine lv_iload hx hb dX10_holds_236 (lv_at hl 1 rfl) ?_
                  refine lv_icmp_ne (tgt := 245) hx hb dX10_holds_238 (by decide) (fun c_238 => ?_) (fun c_238 => ?_)
                  · refine lv_iconst (v := 0) hx hb dX10_holds_245 (by decide) ?_
                    subst hQ
                    exact W.zret (v := 0) hx hb hr (rfl) (fun t ht hW => ⟨⟨0, (), rfl, ⟨rl_0.to (by decide), (fun h0 => trivial), (fun _ => trivial)⟩, by rw [ht]; exact hw.2.1, va_K.moved hW.alike hK, hw.2.2.1⟩, hw.2.2.2.1.F ht⟩) hw.2.2.2.1.2.2 dX10_holds_246
                  · refine lv_iconst (v := 1) hx hb dX10_holds_241 (by decide) ?_
                    refine lv_goto (tgt := 246) hx hb dX10_holds_242 (by decide) ?_
                    subst hQ
                    exact W.zret (v := 1) hx hb hr (rfl) (fun t ht hW => ⟨⟨1, (), rfl, ⟨rl_1.to (by decide), (fun _ => trivial), (fun h0 => trivial)⟩, by rw [ht]; exact hw.2.1, va_K.moved hW.alike hK, hw.2.2.1⟩, hw.2.2.2.1.F ht⟩) hw.2.2.2.1.2.2 dX10_holds_246
                · refine lv_lookup (tgt := 247) (off := 213) hx hb dX10_holds_34 (by decide) ((lv_osw k_34_1 (by decide)).trans ((lv_osw k_34_2 (by decide)).trans ((lv_osw k_34_3 (by decide)).trans ((lv_osw k_34_69 (by decide)).trans ((lv_osw k_34_70 (by decide)).trans ((lv_osw k_34_71 (by decide)).trans ((lv_osw k_34_72 (by decide)).trans ((lv_osw k_34_73 (by decide)).trans (rfl))))))))) (by decide) ?_
                  refine lv_aload_n hx hb dX10_holds_247 rfl (lv_at hl 3 rfl) ?_
                  refine tg_mem (ci := 10) (C := RX10) (T := TX10) (N := 49) hx hb hts inX10 hown hK hw 14 m_u_8 rfl (by decide) (hts _ tw_1151) (fun _ h9 => h9) dX10_holds_248 ?_
                  refine lv_iload_n hx hb dX10_holds_251 rfl (lv_at hl 2 rfl) ?_
                  refine tg_imem hx hb hK hw h_vu_8 rfl r_v_7 (by decide) m_v_13 dX10_holds_252 ?_
                  refine lv_bipush (v := 50) hx hb dX10_holds_253 (by decide) ?_
                  refine lv_isub hx hb dX10_holds_255 (lv_topi (fun v_26 e_v_26 => ?_))
                  have r_v_26 := ri_any v_26
                  refine lv_istore (lv' := [(6, .int v_26), (5, .int v_12), (4, .int v_10), (3, .int v_7), (0, .ref p0), (1, .int p1), (2, .int p2)]) hx hb dX10_holds_256 hl (by decide) rfl (fun ls hl => ?_)
                  refine lv_iload hx hb dX10_holds_258 (lv_at hl 0 rfl) ?_
                  refine lv_bipush (v := 24) hx hb dX10_holds_260 (by decide) ?_
                  refine lv_icmp_ne (tgt := 273) hx hb dX10_holds_262 (by decide) (fun c_262 => ?_) (fun c_262 => ?_)
                  · refine lv_iload hx hb dX10_holds_273 (lv_at hl 0 rfl) ?_
                    refine lv_bipush (v := 25) hx hb dX10_holds_275 (by decide) ?_
                    refine lv_icmp_ne (tgt := 292) hx hb dX10_holds_277 (by decide) (fun c_277 => ?_) (fun c_277 => ?_)
                    · refine lv_iload hx hb dX10_holds_292 (lv_at hl 0 rfl) ?_
                      refine lv_bipush (v := 26) hx hb dX10_holds_294 (by decide) ?_
                      refine lv_icmp_ne (tgt := 311) hx hb dX10_holds_296 (by decide) (fun c_296 => ?_) (fun c_296 => ?_)
                      · refine lv_iload_n hx hb dX10_holds_311 rfl (lv_at hl 6 rfl) ?_
                        exact B312 v_7 v_10 v_12 v_26 p2 _ _ ls r_p1 r_p2 r_v_7 r_v_10 r_v_12 r_v_26 (r_p2.to (by decide)) hw (lv_sub hl [4, 5, 6, 3, 2, 1, 0] rfl)
                      · have r_v_26 : RI v_26 26 26 := rc_eq1 r_v_26 rl_26 (ti_eq c_296) (by decide)
                        refine lv_aload_n hx hb dX10_holds_299 rfl (lv_at hl 4 rfl) ?_
                        refine tg_mem (ci := 10) (C := RX10) (T := TX10) (N := 49) hx hb hts inX10 hown hK hw 14 m_u_8 rfl (by decide) (hts _ tw_1151) (fun _ h9 => h9) dX10_holds_300 ?_
                        refine lv_bipush (v := 98) hx hb dX10_holds_303 (by decide) ?_
                        refine lv_iload_n hx hb dX10_holds_305 rfl (lv_at hl 6 rfl) ?_
                        refine lv_iadd hx hb dX10_holds_306 (lv_topi (fun v_27 e_v_27 => ?_))
                        obtain ⟨t_v_27, r_v_27⟩ := tq_add (lo := 98) (hi := 103) rl_98 r_p2 (by decide +kernel) e_v_27
                        have t_v_27 : v_27.toInt = 98 + p2.toInt := t_v_27
                        refine tg_iald (lo := (-2147483648)) (hi := 2147483647) hx hb hK hw h_vu_8 rfl 98 103 r_v_27 (by decide) (by decide +kernel) dX10_holds_307 (fun v_28 r_v_28 m_v_28 o_v_28 => ?_)
                        refine lv_goto (tgt := 312) hx hb dX10_holds_308 (by decide) ?_
                        exact B312 v_7 v_10 v_12 v_26 v_28 _ _ ls r_p1 r_p2 r_v_7 r_v_10 r_v_12 (r_v_26.to (by decide)) r_v_28 hw (lv_sub hl [4, 5, 6, 3, 2, 1, 0] rfl)
                    · have r_v_26 : RI v_26 25 25 := rc_eq1 r_v_26 rl_25 (ti_eq c_277) (by decide)
                      refine lv_aload_n hx hb dX10_holds_280 rfl (lv_at hl 4 rfl) ?_
                      refine tg_mem (ci := 10) (C := RX10) (T := TX10) (N := 49) hx hb hts inX10 hown hK hw 14 m_u_8 rfl (by decide) (hts _ tw_1151) (fun _ h9 => h9) dX10_holds_281 ?_
                      refine lv_bipush (v := 92) hx hb dX10_holds_284 (by decide) ?_
                      refine lv_iload_n hx hb dX10_holds_286 rfl (lv_at hl 6 rfl) ?_
                      refine lv_iadd hx hb dX10_holds_287 (lv_topi (fun v_29 e_v_29 => ?_))
                      obtain ⟨t_v_29, r_v_29⟩ := tq_add (lo := 92) (hi := 97) rl_92 r_p2 (by decide +kernel) e_v_29
                      have t_v_29 : v_29.toInt = 92 + p2.toInt := t_v_29
                      refine tg_iald (lo := (-2147483648)) (hi := 2147483647) hx hb hK hw h_vu_8 rfl 92 97 r_v_29 (by decide) (by decide +kernel) dX10_holds_288 (fun v_30 r_v_30 m_v_30 o_v_30 => ?_)
                      refine lv_goto (tgt := 312) hx hb dX10_holds_289 (by decide) ?_
                      exact B312 v_7 v_10 v_12 v_26 v_30 _ _ ls r_p1 r_p2 r_v_7 r_v_10 r_v_12 (r_v_26.to (by decide)) r_v_30 hw (lv_sub hl [4, 5, 6, 3, 2, 1, 0] rfl)
                  · have r_v_26 : RI v_26 24 24 := rc_eq1 r_v_26 rl_24 (ti_eq c_262) (by decide)
                    refine lv_aload_n hx hb dX10_holds_265 rfl (lv_at hl 4 rfl) ?_
                    refine lv_iload_n hx hb dX10_holds_266 rfl (lv_at hl 6 rfl) ?_
                    refine tk_ir (va_runV (As := [.int p2]) (rest := []) ⟨hx, hb, hml, hown, hts⟩ (c_X10_sizeOf l D cy z s.heap.size Ps w0 hw.1 p0 p2 h_p0 r_p2) (cwV 1 hts (gV tw_1453 tw_1455 ts_70 tw_15 tw_1456) rfl rfl rfl (by decide +kernel) ⟨Nat.le_of_ble_eq_true rfl, Nat.le_of_ble_eq_true rfl⟩) (tg_preV hw hK hSD hA (ci := 10) (q := (RX10, TX10, 49)) rfl h_p0 rfl) rfl rfl hl.1 rfl (lv_room (Nat.le_of_ble_eq_true rfl)) dX10_holds_267 ⟨Nat.le_of_ble_eq_true rfl, Nat.le_of_ble_eq_true rfl⟩) hw hA (fun v_31  H locs hp_v_31 hw => ?_)
                    have r_v_31 : RI v_31 (-2147483648) 2147483647 := hp_v_31.1
                    refine lv_goto (tgt := 312) hx hb dX10_holds_270 (by decide) ?_
                    exact B312 v_7 v_10 v_12 v_26 v_31 _ _ ls r_p1 r_p2 r_v_7 r_v_10 r_v_12 (r_v_26.to (by decide)) r_v_31 hw (lv_sub hl [4, 5, 6, 3, 2, 1, 0] rfl)
abbrev wr_X10_holds__27 : List (Nat × Nat) := []
abbrev wa_X10_holds__27 : List Nat := []
set_option maxHeartbeats 4000000 in
set_option maxRecDepth 100000 in
theorem c_X10_holds__27 (l : Launch) (D : va_G) (cy : Nat → ClassId) (z : Nat → Nat) (sz : Nat) (Ps : PSI) (w0 : va_W) (hT : HT cy GG Ps w0) (p0 : Nat) (p1 : Int32) (p2 : Int32) (h_p0 : (p0, 55) ∈ Ps) (r_p1 : RI p1 0 32) (r_p2 : RI p2 0 5) : Met l yX10_holds (Cond.code yX10_holds cX10_holds 8 (some .boolean) :: gT) ({ frames := 35, cells := 0, slots := 0, locals := 7000 } : Room) (va_Pc [.ref p0, .int p1, .int p2] (PRE D cy z w0 sz)) (va_Qi (fun (r : Int32) (u : Unit) => RI r 0 1 ∧ (r = 0 → True) ∧ (¬ r = 0 → True)) (BB D cy (va_A w0 sz) (fun (u : Unit) => w0)) (va_A w0 sz)) 0 0 (va_A w0 sz) := by
  refine Met.ofW (cc := cX10_holds) (maxL := 8) (ret := (some .boolean)) (by decide) rfl ?_
  intro p e s m args below meth c s₁ B hml hv
  obtain ⟨rfl, hsz, hP, hK, hD0, hSD⟩ := hv
  have hx := B.exec
  have hb := B.bytes
  have hr := B.returns
  have hlocks := B.notSynchronized
  have hts : ∀ w ∈ gT, w.before _ s = true := fun w h => atoms_spec (ws := Cond.code yX10_holds cX10_holds 8 (some .boolean) :: gT) B.pre w (List.mem_cons_of_mem _ h)
  have hown : s.vm.findClass RX10 = some m.cls := findClass_of_methodNamed B.named
  subst hsz
  have hD := hD0.self (sz := s.heap.size)
  generalize hAe : va_A w0 s.heap.size = A at hD hSD ⊢
  have hA : ∀ q : Nat, s.heap.size ≤ q → A q := fun q h => by rw [← hAe]; exact Or.inr h
  have hl := lv_entry ([.ref p0, .int p1, .int p2]) (n := 8) (Nat.le_of_ble_eq_true rfl)
  rw [lg_entry_eq]
  generalize (lg_sl ([.ref p0, .int p1, .int p2]) ++ List.replicate (8 - (lg_sl ([.ref p0, .int p1, .int p2])).length) Slot.unset).toArray = ls at hl ⊢
  have hl : lv_has ls 8 [(0, .ref p0), (1, .int p1), (2, .int p2)] := hl
  refine nameQ (fun Q hQ => ?_)
  have hw : WD D cy GG A s wr_X10_holds__27 wa_X10_holds__27 Ps w0 Ps w0 s.heap [] := ⟨hT, hP, hD, va_S.rf, FR.rf, hT.1, [], (List.append_nil _).symm⟩
  have B312 : ∀ (x3 : Int32) (x4 : Int32) (x5 : Int32) (x6 : Int32) (y0 : Int32) (H : Heap) (locs : List Loc) (ls : Array Slot), RI p1 0 32 → RI p2 0 5 → RI x3 174 302 → RI x4 (-2147483648) 2147483647 → RI x5 (-2147483648) 2147483647 → RI x6 (-2147483648) 2147483647 → RI y0 (-2147483648) 2147483647 → WD D cy GG A s wr_X10_holds__27 wa_X10_holds__27 Ps w0 Ps w0 H locs → lv_has ls 8 [(0, .ref p0), (1, .int p1), (2, .int p2), (3, .int x3), (4, .int x4), (5, .int x5), (6, .int x6)] → W p l e (headSpec (Cond.code yX10_holds cX10_holds 8 (some .boolean) :: gT) ({ frames := 35, cells := 0, slots := 0, locals := 7000 } : Room)).room s m ([.ref p0, .int p1, .int p2] : List Value).toArray below meth c H locs 0 0 Q (F0 m 312 ls [.int y0]) := by
    intro x3 x4 x5 x6 y0 H locs ls r_p1 r_p2 r_x3 r_x4 r_x5 r_x6 r_y0 hw hl
    refine lv_istore (lv' := [(7, .int y0), (0, .ref p0), (1, .int p1), (2, .int p2), (3, .int x3), (4, .int x4), (5, .int x5), (6, .int x6)]) hx hb dX10_holds_312 hl (by decide) rfl (fun ls hl => ?_)
    refine lv_aload_n hx hb dX10_holds_314 rfl (lv_at hl 1 rfl) ?_
    refine tg_get (ci := 10) (ts := ty_MODEL) (C := RX10) (T := TX10) (N := 49) hx hb hts inX10 hown hK hw h_p0 rfl rfl 14 (by decide) (hts _ tw_1151) (fun _ h9 => h9) (ft := vR 34) rfl dX10_holds_315 (fun u_1 hv_u_1 m_u_1 => ?_)
    obtain ⟨vu_1, rfl, h_vu_1⟩ := hv_u_1
    refine lv_iload_n hx hb dX10_holds_318 rfl (lv_at hl 4 rfl) ?_
    refine lv_iconst (v := 3) hx hb dX10_holds_319 (by decide) ?_
    refine lv_iadd hx hb dX10_holds_320 (lv_topi (fun v_2 e_v_2 => ?_))
    obtain ⟨t_v_2, r_v_2⟩ := tq_add (lo := 177) (hi := 305) r_x3 rl_3 (by decide +kernel) e_v_2
    have t_v_2 : v_2.toInt = x3.toInt + 3 := t_v_2
    refine tg_iald (lo := (-2147483648)) (hi := 2147483647) hx hb hK hw h_vu_1 rfl 177 305 r_v_2 (by decide) (by decide +kernel) dX10_holds_321 (fun v_3 r_v_3 m_v_3 o_v_3 => ?_)
    refine lv_bipush (v := 60) hx hb dX10_holds_322 (by decide) ?_
    refine lv_icmp_ne (tgt := 342) hx hb dX10_holds_324 (by decide) (fun c_324 => ?_) (fun c_324 => ?_)
    · refine lv_aload_n hx hb dX10_holds_342 rfl (lv_at hl 1 rfl) ?_
      refine tg_mem (ci := 10) (C := RX10) (T := TX10) (N := 49) hx hb hts inX10 hown hK hw 14 m_u_1 rfl (by decide) (hts _ tw_1151) (fun _ h9 => h9) dX10_holds_343 ?_
      refine lv_iload_n hx hb dX10_holds_346 rfl (lv_at hl 4 rfl) ?_
      refine lv_iconst (v := 3) hx hb dX10_holds_347 (by decide) ?_
      refine lv_iadd hx hb dX10_holds_348 (lv_topi (fun v_4 e_v_4 => ?_))
      obtain ⟨t_v_4, r_v_4⟩ := tq_add (lo := 177) (hi := 305) r_x3 rl_3 (by decide +kernel) e_v_4
      have t_v_4 : v_4.toInt = x3.toInt + 3 := t_v_4
      refine tg_iald (lo := (-2147483648)) (hi := 2147483647) hx hb hK hw h_vu_1 rfl 177 305 r_v_4 (by decide) (by decide +kernel) dX10_holds_349 (fun v_5 r_v_5 m_v_5 o_v_5 => ?_)
      refine lv_bipush (v := 61) hx hb dX10_holds_350 (by decide) ?_
      refine lv_icmp_ne (tgt := 370) hx hb dX10_holds_352 (by decide) (fun c_352 => ?_) (fun c_352 => ?_)
      · refine lv_iload hx hb dX10_holds_370 (lv_at hl 0 rfl) ?_
        refine lv_iload hx hb dX10_holds_372 (lv_at hl 6 rfl) ?_
        refine lv_icmp_le (tgt := 381) hx hb dX10_holds_374 (by decide) (fun c_374 => ?_) (fun c_374 => ?_)
        · refine lv_iconst (v := 0) hx hb dX10_holds_381 (by decide) ?_
          subst hQ
          exact W.zret (v := 0) hx hb hr (rfl) (fun t ht hW => ⟨⟨0, (), rfl, ⟨rl_0.to (by decide), (fun h0 => trivial), (fun _ => trivial)⟩, by rw [ht]; exact hw.2.1, va_K.moved hW.alike hK, hw.2.2.1⟩, hw.2.2.2.1.F ht⟩) hw.2.2.2.1.2.2 dX10_holds_382
        · have r_x5 : RI x5 (-2147483648) 2147483646 := rc_lt1 r_x5 r_y0 (ti_nle c_374) (by decide)
          have r_y0 : RI y0 (-2147483647) 2147483647 := rc_lt2 r_x5 r_y0 (ti_nle c_374) (by decide)
          refine lv_iconst (v := 1) hx hb dX10_holds_377 (by decide) ?_
          refine lv_goto (tgt := 382) hx hb dX10_holds_378 (by decide) ?_
          subst hQ
          exact W.zret (v := 1) hx hb hr (rfl) (fun t ht hW => ⟨⟨1, (), rfl, ⟨rl_1.to (by decide), (fun _ => trivial), (fun h0 => trivial)⟩, by rw [ht]; exact hw.2.1, va_K.moved hW.alike hK, hw.2.2.1⟩, hw.2.2.2.1.F ht⟩) hw.2.2.2.1.2.2 dX10_holds_382
      · have r_v_5 : RI v_5 61 61 := rc_eq1 r_v_5 rl_61 (ti_eq c_352) (by decide)
        refine lv_iload hx hb dX10_holds_355 (lv_at hl 0 rfl) ?_
        refine lv_iload hx hb dX10_holds_357 (lv_at hl 6 rfl) ?_
        refine lv_icmp_ne (tgt := 366) hx hb dX10_holds_359 (by decide) (fun c_359 => ?_) (fun c_359 => ?_)
        · refine lv_iconst (v := 0) hx hb dX10_holds_366 (by decide) ?_
          refine lv_goto (tgt := 382) hx hb dX10_holds_367 (by decide) ?_
          subst hQ
          exact W.zret (v := 0) hx hb hr (rfl) (fun t ht hW => ⟨⟨0, (), rfl, ⟨rl_0.to (by decide), (fun h0 => trivial), (fun _ => trivial)⟩, by rw [ht]; exact hw.2.1, va_K.moved hW.alike hK, hw.2.2.1⟩, hw.2.2.2.1.F ht⟩) hw.2.2.2.1.2.2 dX10_holds_382
        · refine lv_iconst (v := 1) hx hb dX10_holds_362 (by decide) ?_
          refine lv_goto (tgt := 382) hx hb dX10_holds_363 (by decide) ?_
          subst hQ
          exact W.zret (v := 1) hx hb hr (rfl) (fun t ht hW => ⟨⟨1, (), rfl, ⟨rl_1.to (by decide), (fun _ => trivial), (fun h0 => trivial)⟩, by rw [ht]; exact hw.2.1, va_K.moved hW.alike hK, hw.2.2.1⟩, hw.2.2.2.1.F ht⟩) hw.2.2.2.1.2.2 dX10_holds_382
    · have r_v_3 : RI v_3 60 60 := rc_eq1 r_v_3 rl_60 (ti_eq c_324) (by decide)
      refine lv_iload hx hb dX10_holds_327 (lv_at hl 0 rfl) ?_
      refine lv_iload hx hb dX10_holds_329 (lv_at hl 6 rfl) ?_
      refine lv_icmp_ge (tgt := 338) hx hb dX10_holds_331 (by decide) (fun c_331 => ?_) (fun c_331 => ?_)
      · refine lv_iconst (v := 0) hx hb dX10_holds_338 (by decide) ?_
        refine lv_goto (tgt := 382) hx hb dX10_holds_339 (by decide) ?_
        subst hQ
        exact W.zret (v := 0) hx hb hr (rfl) (fun t ht hW => ⟨⟨0, (), rfl, ⟨rl_0.to (by decide), (fun h0 => trivial), (fun _ => trivial)⟩, by rw [ht]; exact hw.2.1, va_K.moved hW.alike hK, hw.2.2.1⟩, hw.2.2.2.1.F ht⟩) hw.2.2.2.1.2.2 dX10_holds_382
      · have r_y0 : RI y0 (-2147483648) 2147483646 := rc_lt1 r_y0 r_x5 (ti_nle c_331) (by decide)
        have r_x5 : RI x5 (-2147483647) 2147483647 := rc_lt2 r_y0 r_x5 (ti_nle c_331) (by decide)
        refine lv_iconst (v := 1) hx hb dX10_holds_334 (by decide) ?_
        refine lv_goto (tgt := 382) hx hb dX10_holds_335 (by decide) ?_
        subst hQ
        exact W.zret (v := 1) hx hb hr (rfl) (fun t ht hW => ⟨⟨1, (), rfl, ⟨rl_1.to (by decide), (fun _ => trivial), (fun h0 => trivial)⟩, by rw [ht]; exact hw.2.1, va_K.moved hW.alike hK, hw.2.2.1⟩, hw.2.2.2.1.F ht⟩) hw.2.2.2.1.2.2 dX10_holds_382
  refine lv_sipush (v := 174) hx hb dX10_holds_0 (by decide) ?_
  refine lv_iconst (v := 4) hx hb dX10_holds_3 (by decide) ?_
  refine lv_iload_n hx hb dX10_holds_4 rfl (lv_at hl 1 rfl) ?_
  refine lv_imul hx hb dX10_holds_5 (lv_topi (fun v_6 e_v_6 => ?_))
  obtain ⟨t_v_6, r_v_6⟩ := tq_mul (lo := 0) (hi := 128) rl_4 r_p1 (by decide +kernel) e_v_6
  have t_v_6 : v_6.toInt = 4 * p1.toInt := t_v_6
  refine lv_iadd hx hb dX10_holds_6 (lv_topi (fun v_7 e_v_7 => ?_))
  obtain ⟨t_v_7, r_v_7⟩ := tq_add (lo := 174) (hi := 302) rl_174 r_v_6 (by decide +kernel) e_v_7
  have t_v_7 : v_7.toInt = 174 + v_6.toInt := t_v_7
  refine lv_istore_n (lv' := [(3, .int v_7), (0, .ref p0), (1, .int p1), (2, .int p2)]) hx hb dX10_holds_7 rfl hl (by decide) rfl (fun ls hl => ?_)
  refine lv_aload_n hx hb dX10_holds_8 rfl (lv_at hl 1 rfl) ?_
  refine tg_get (ci := 10) (ts := ty_MODEL) (C := RX10) (T := TX10) (N := 49) hx hb hts inX10 hown hK hw h_p0 rfl rfl 14 (by decide) (hts _ tw_1151) (fun _ h9 => h9) (ft := vR 34) rfl dX10_holds_9 (fun u_8 hv_u_8 m_u_8 => ?_)
  obtain ⟨vu_8, rfl, h_vu_8⟩ := hv_u_8
  refine lv_iload_n hx hb dX10_holds_12 rfl (lv_at hl 0 rfl) ?_
  refine lv_iconst (v := 1) hx hb dX10_holds_13 (by decide) ?_
  refine lv_iadd hx hb dX10_holds_14 (lv_topi (fun v_9 e_v_9 => ?_))
  obtain ⟨t_v_9, r_v_9⟩ := tq_add (lo := 175) (hi := 303) r_v_7 rl_1 (by decide +kernel) e_v_9
  have t_v_9 : v_9.toInt = v_7.toInt + 1 := t_v_9
  refine tg_iald (lo := (-2147483648)) (hi := 2147483647) hx hb hK hw h_vu_8 rfl 175 303 r_v_9 (by decide) (by decide +kernel) dX10_holds_15 (fun v_10 r_v_10 m_v_10 o_v_10 => ?_)
  refine lv_istore (lv' := [(4, .int v_10), (3, .int v_7), (0, .ref p0), (1, .int p1), (2, .int p2)]) hx hb dX10_holds_16 hl (by decide) rfl (fun ls hl => ?_)
  refine lv_aload_n hx hb dX10_holds_18 rfl (lv_at hl 2 rfl) ?_
  refine tg_mem (ci := 10) (C := RX10) (T := TX10) (N := 49) hx hb hts inX10 hown hK hw 14 m_u_8 rfl (by decide) (hts _ tw_1151) (fun _ h9 => h9) dX10_holds_19 ?_
  refine lv_iload_n hx hb dX10_holds_22 rfl (lv_at hl 1 rfl) ?_
  refine lv_iconst (v := 2) hx hb dX10_holds_23 (by decide) ?_
  refine lv_iadd hx hb dX10_holds_24 (lv_topi (fun v_11 e_v_11 => ?_))
  obtain ⟨t_v_11, r_v_11⟩ := tq_add (lo := 176) (hi := 304) r_v_7 rl_2 (by decide +kernel) e_v_11
  have t_v_11 : v_11.toInt = v_7.toInt + 2 := t_v_11
  refine tg_iald (lo := (-2147483648)) (hi := 2147483647) hx hb hK hw h_vu_8 rfl 176 304 r_v_11 (by decide) (by decide +kernel) dX10_holds_25 (fun v_12 r_v_12 m_v_12 o_v_12 => ?_)
  refine lv_istore (lv' := [(5, .int v_12), (4, .int v_10), (3, .int v_7), (0, .ref p0), (1, .int p1), (2, .int p2)]) hx hb dX10_holds_26 hl (by decide) rfl (fun ls hl => ?_)
  refine lv_aload_n hx hb dX10_holds_28 rfl (lv_at hl 3 rfl) ?_
  refine tg_mem (ci := 10) (C := RX10) (T := TX10) (N := 49) hx hb hts inX10 hown hK hw 14 m_u_8 rfl (by decide) (hts _ tw_1151) (fun _ h9 => h9) dX10_holds_29 ?_
  refine lv_iload_n hx hb dX10_holds_32 rfl (lv_at hl 2 rfl) ?_
  refine tg_iald (lo := (-2147483648)) (hi := 2147483647) hx hb hK hw h_vu_8 rfl 174 302 r_v_7 (by decide) (by decide +kernel) dX10_holds_33 (fun v_13 r_v_13 m_v_13 o_v_13 => ?_)
  by_cases k_34_1 : v_13 = 1
  · refine lv_lookup (tgt := 108) (off := 74) hx hb dX10_holds_34 (by decide) (by rw [k_34_1]; decide) (by decide) ?_
    have r_v_13 : RI v_13 1 1 := by rw [k_34_1]; exact rl_1
    have g_v_10 : 0 ≤ v_10.toInt ∧ v_10.toInt < p1.toInt := by obtain ⟨_, f9, e8, e7, q9, _⟩ := ax_of (k := 14) (t := 34) hw h_p0 rfl (fun _ => rfl); cases FLD.inj hw.2.2.1 e8 m_u_8; have t9 := ARR.ael hw.2.2.1 e7 m_v_13; have x9 := ARR.ael hw.2.2.1 e7 m_v_10; rw [show Int32.toNatClampNeg v_7 = 174 + 4 * Int32.toNatClampNeg p1 from (by have k1 := r_v_7.cl (by decide); have k2 := r_p1.cl (by decide); omega)] at t9; rw [show Int32.toNatClampNeg v_9 = 175 + 4 * Int32.toNatClampNeg p1 from (by have k1 := r_v_9.cl (by decide); have k2 := r_p1.cl (by decide); omega)] at x9; exact RN_child q9 (r_p1.to (by decide)) t9 x9 (r_v_13.to (by decide))
    have r_v_10 : RI v_10 0 31 := ⟨g_v_10.1, by have k1 := r_p1.2; omega⟩
    refine lv_aload_n hx hb dX10_holds_108 rfl (lv_at hl 3 rfl) ?_
    refine lv_iload hx hb dX10_holds_109 (lv_at hl 1 rfl) ?_
    refine lv_iload_n hx hb dX10_holds_111 rfl (lv_at hl 5 rfl) ?_
    refine tk_ir (va_runV (As := [.int v_10, .int p2]) (rest := []) ⟨hx, hb, hml, hown, hts⟩ (c_X10_holds__28 l D cy z s.heap.size Ps w0 hw.1 p0 v_10 p2 h_p0 r_v_10 r_p2) (cwV 2 hts (gV tw_1787 tw_1789 ts_119 tw_15 tw_1790) rfl rfl rfl (by decide +kernel) ⟨Nat.le_of_ble_eq_true rfl, Nat.le_of_ble_eq_true rfl⟩) (tg_preV hw hK hSD hA (ci := 10) (q := (RX10, TX10, 49)) rfl h_p0 rfl) rfl rfl hl.1 rfl (lv_room (Nat.le_of_ble_eq_true rfl)) dX10_holds_112 ⟨Nat.le_of_ble_eq_true rfl, Nat.le_of_ble_eq_true rfl⟩) hw hA (fun v_14  H locs hp_v_14 hw => ?_)
    have r_v_14 : RI v_14 0 1 := hp_v_14.1
    refine lv_if_ne (tgt := 122) hx hb dX10_holds_115 (by decide) (fun c_115 => ?_) (fun c_115 => ?_)
    · have r_v_14 : RI v_14 1 1 := rc_neL r_v_14 rl_0 (ti_ne c_115) (by decide)
      refine lv_iconst (v := 0) hx hb dX10_holds_122 (by decide) ?_
      subst hQ
      exact W.zret (v := 0) hx hb hr (rfl) (fun t ht hW => ⟨⟨0, (), rfl, ⟨rl_0.to (by decide), (fun h0 => trivial), (fun _ => trivial)⟩, by rw [ht]; exact hw.2.1, va_K.moved hW.alike hK, hw.2.2.1⟩, hw.2.2.2.1.F ht⟩) hw.2.2.2.1.2.2 dX10_holds_123
    · have r_v_14 : RI v_14 0 0 := rc_eq1 r_v_14 rl_0 (ti_eq c_115) (by decide)
      refine lv_iconst (v := 1) hx hb dX10_holds_118 (by decide) ?_
      refine lv_goto (tgt := 123) hx hb dX10_holds_119 (by decide) ?_
      subst hQ
      exact W.zret (v := 1) hx hb hr (rfl) (fun t ht hW => ⟨⟨1, (), rfl, ⟨rl_1.to (by decide), (fun _ => trivial), (fun h0 => trivial)⟩, by rw [ht]; exact hw.2.1, va_K.moved hW.alike hK, hw.2.2.1⟩, hw.2.2.2.1.F ht⟩) hw.2.2.2.1.2.2 dX10_holds_123
  · by_cases k_34_2 : v_13 = 2
    · refine lv_lookup (tgt := 124) (off := 90) hx hb dX10_holds_34 (by decide) (by rw [k_34_2]; decide) (by decide) ?_
      have r_v_13 : RI v_13 2 2 := by rw [k_34_2]; exact rl_2
      have g_v_10 : 0 ≤ v_10.toInt ∧ v_10.toInt < p1.toInt := by obtain ⟨_, f9, e8, e7, q9, _⟩ := ax_of (k := 14) (t := 34) hw h_p0 rfl (fun _ => rfl); cases FLD.inj hw.2.2.1 e8 m_u_8; have t9 := ARR.ael hw.2.2.1 e7 m_v_13; have x9 := ARR.ael hw.2.2.1 e7 m_v_10; rw [show Int32.toNatClampNeg v_7 = 174 + 4 * Int32.toNatClampNeg p1 from (by have k1 := r_v_7.cl (by decide); have k2 := r_p1.cl (by decide); omega)] at t9; rw [show Int32.toNatClampNeg v_9 = 175 + 4 * Int32.toNatClampNeg p1 from (by have k1 := r_v_9.cl (by decide); have k2 := r_p1.cl (by decide); omega)] at x9; exact RN_child q9 (r_p1.to (by decide)) t9 x9 (r_v_13.to (by decide))
      have r_v_10 : RI v_10 0 31 := ⟨g_v_10.1, by have k1 := r_p1.2; omega⟩
      have g_v_12 : 0 ≤ v_12.toInt ∧ v_12.toInt < p1.toInt := by obtain ⟨_, f9, e8, e7, q9, _⟩ := ax_of (k := 14) (t := 34) hw h_p0 rfl (fun _ => rfl); cases FLD.inj hw.2.2.1 e8 m_u_8; have t9 := ARR.ael hw.2.2.1 e7 m_v_13; have x9 := ARR.ael hw.2.2.1 e7 m_v_12; rw [show Int32.toNatClampNeg v_7 = 174 + 4 * Int32.toNatClampNeg p1 from (by have k1 := r_v_7.cl (by decide); have k2 := r_p1.cl (by decide); omega)] at t9; rw [show Int32.toNatClampNeg v_11 = 176 + 4 * Int32.toNatClampNeg p1 from (by have k1 := r_v_11.cl (by decide); have k2 := r_p1.cl (by decide); omega)] at x9; exact RN_child2 q9 (r_p1.to (by decide)) t9 x9 (r_v_13.to (by decide))
      have r_v_12 : RI v_12 0 31 := ⟨g_v_12.1, by have k1 := r_p1.2; omega⟩
      refine lv_aload_n hx hb dX10_holds_124 rfl (lv_at hl 3 rfl) ?_
      refine lv_iload hx hb dX10_holds_125 (lv_at hl 1 rfl) ?_
      refine lv_iload_n hx hb dX10_holds_127 rfl (lv_at hl 5 rfl) ?_
      refine tk_ir (va_runV (As := [.int v_10, .int p2]) (rest := []) ⟨hx, hb, hml, hown, hts⟩ (c_X10_holds__28 l D cy z s.heap.size Ps w0 hw.1 p0 v_10 p2 h_p0 r_v_10 r_p2) (cwV 2 hts (gV tw_1787 tw_1789 ts_119 tw_15 tw_1790) rfl rfl rfl (by decide +kernel) ⟨Nat.le_of_ble_eq_true rfl, Nat.le_of_ble_eq_true rfl⟩) (tg_preV hw hK hSD hA (ci := 10) (q := (RX10, TX10, 49)) rfl h_p0 rfl) rfl rfl hl.1 rfl (lv_room (Nat.le_of_ble_eq_true rfl)) dX10_holds_128 ⟨Nat.le_of_ble_eq_true rfl, Nat.le_of_ble_eq_true rfl⟩) hw hA (fun v_15  H locs hp_v_15 hw => ?_)
      have r_v_15 : RI v_15 0 1 := hp_v_15.1
      refine lv_if_eq (tgt := 148) hx hb dX10_holds_131 (by decide) (fun c_131 => ?_) (fun c_131 => ?_)
      · have r_v_15 : RI v_15 0 0 := rc_eq1 r_v_15 rl_0 (ti_eq c_131) (by decide)
        refine lv_iconst (v := 0) hx hb dX10_holds_148 (by decide) ?_
        subst hQ
        exact W.zret (v := 0) hx hb hr (rfl) (fun t ht hW => ⟨⟨0, (), rfl, ⟨rl_0.to (by decide), (fun h0 => trivial), (fun _ => trivial)⟩, by rw [ht]; exact hw.2.1, va_K.moved hW.alike hK, hw.2.2.1⟩, hw.2.2.2.1.F ht⟩) hw.2.2.2.1.2.2 dX10_holds_149
      · have r_v_15 : RI v_15 1 1 := rc_neL r_v_15 rl_0 (ti_ne c_131) (by decide)
        refine lv_aload_n hx hb dX10_holds_134 rfl (lv_at hl 3 rfl) ?_
        refine lv_iload hx hb dX10_holds_135 (lv_at hl 0 rfl) ?_
        refine lv_iload_n hx hb dX10_holds_137 rfl (lv_at hl 5 rfl) ?_
        refine tk_ir (va_runV (As := [.int v_12, .int p2]) (rest := []) ⟨hx, hb, hml, hown, hts⟩ (c_X10_holds__28 l D cy z H.size Ps w0 hw.1 p0 v_12 p2 h_p0 r_v_12 r_p2) (cwV 2 hts (gV tw_1787 tw_1789 ts_119 tw_15 tw_1790) rfl rfl rfl (by decide +kernel) ⟨Nat.le_of_ble_eq_true rfl, Nat.le_of_ble_eq_true rfl⟩) (tg_preV hw hK hSD hA (ci := 10) (q := (RX10, TX10, 49)) rfl h_p0 rfl) rfl rfl hl.1 rfl (lv_room (Nat.le_of_ble_eq_true rfl)) dX10_holds_138 ⟨Nat.le_of_ble_eq_true rfl, Nat.le_of_ble_eq_true rfl⟩) hw hA (fun v_16  H locs hp_v_16 hw => ?_)
        have r_v_16 : RI v_16 0 1 := hp_v_16.1
        refine lv_if_eq (tgt := 148) hx hb dX10_holds_141 (by decide) (fun c_141 => ?_) (fun c_141 => ?_)
        · have r_v_16 : RI v_16 0 0 := rc_eq1 r_v_16 rl_0 (ti_eq c_141) (by decide)
          refine lv_iconst (v := 0) hx hb dX10_holds_148 (by decide) ?_
          subst hQ
          exact W.zret (v := 0) hx hb hr (rfl) (fun t ht hW => ⟨⟨0, (), rfl, ⟨rl_0.to (by decide), (fun h0 => trivial), (fun _ => trivial)⟩, by rw [ht]; exact hw.2.1, va_K.moved hW.alike hK, hw.2.2.1⟩, hw.2.2.2.1.F ht⟩) hw.2.2.2.1.2.2 dX10_holds_149
        · have r_v_16 : RI v_16 1 1 := rc_neL r_v_16 rl_0 (ti_ne c_141) (by decide)
          refine lv_iconst (v := 1) hx hb dX10_holds_144 (by decide) ?_
          refine lv_goto (tgt := 149) hx hb dX10_holds_145 (by decide) ?_
          subst hQ
          exact W.zret (v := 1) hx hb hr (rfl) (fun t ht hW => ⟨⟨1, (), rfl, ⟨rl_1.to (by decide), (fun _ => trivial), (fun h0 => trivial)⟩, by rw [ht]; exact hw.2.1, va_K.moved hW.alike hK, hw.2.2.1⟩, hw.2.2.2.1.F ht⟩) hw.2.2.2.1.2.2 dX10_holds_149
    · by_cases k_34_3 : v_13 = 3
      · refine lv_lookup (tgt := 150) (off := 116) hx hb dX10_holds_34 (by decide) (by rw [k_34_3]; decide) (by decide) ?_
        have r_v_13 : RI v_13 3 3 := by rw [k_34_3]; exact rl_3
        have g_v_10 : 0 ≤ v_10.toInt ∧ v_10.toInt < p1.toInt := by obtain ⟨_, f9, e8, e7, q9, _⟩ := ax_of (k := 14) (t := 34) hw h_p0 rfl (fun _ => rfl); cases FLD.inj hw.2.2.1 e8 m_u_8; have t9 := ARR.ael hw.2.2.1 e7 m_v_13; have x9 := ARR.ael hw.2.2.1 e7 m_v_10; rw [show Int32.toNatClampNeg v_7 = 174 + 4 * Int32.toNatClampNeg p1 from (by have k1 := r_v_7.cl (by decide); have k2 := r_p1.cl (by decide); omega)] at t9; rw [show Int32.toNatClampNeg v_9 = 175 + 4 * Int32.toNatClampNeg p1 from (by have k1 := r_v_9.cl (by decide); have k2 := r_p1.cl (by decide); omega)] at x9; exact RN_child q9 (r_p1.to (by decide)) t9 x9 (r_v_13.to (by decide))
        have r_v_10 : RI v_10 0 31 := ⟨g_v_10.1, by have k1 := r_p1.2; omega⟩
        have g_v_12 : 0 ≤ v_12.toInt ∧ v_12.toInt < p1.toInt := by obtain ⟨_, f9, e8, e7, q9, _⟩ := ax_of (k := 14) (t := 34) hw h_p0 rfl (fun _ => rfl); cases FLD.inj hw.2.2.1 e8 m_u_8; have t9 := ARR.ael hw.2.2.1 e7 m_v_13; have x9 := ARR.ael hw.2.2.1 e7 m_v_12; rw [show Int32.toNatClampNeg v_7 = 174 + 4 * Int32.toNatClampNeg p1 from (by have k1 := r_v_7.cl (by decide); have k2 := r_p1.cl (by decide); omega)] at t9; rw [show Int32.toNatClampNeg v_11 = 176 + 4 * Int32.toNatClampNeg p1 from (by have k1 := r_v_11.cl (by decide); have k2 := r_p1.cl (by decide); omega)] at x9; exact RN_child2 q9 (r_p1.to (by decide)) t9 x9 (r_v_13.to (by decide))
        have r_v_12 : RI v_12 0 31 := ⟨g_v_12.1, by have k1 := r_p1.2; omega⟩
        refine lv_aload_n hx hb dX10_holds_150 rfl (lv_at hl 3 rfl) ?_
        refine lv_iload hx hb dX10_holds_151 (lv_at hl 1 rfl) ?_
        refine lv_iload_n hx hb dX10_holds_153 rfl (lv_at hl 5 rfl) ?_
        refine tk_ir (va_runV (As := [.int v_10, .int p2]) (rest := []) ⟨hx, hb, hml, hown, hts⟩ (c_X10_holds__28 l D cy z s.heap.size Ps w0 hw.1 p0 v_10 p2 h_p0 r_v_10 r_p2) (cwV 2 hts (gV tw_1787 tw_1789 ts_119 tw_15 tw_1790) rfl rfl rfl (by decide +kernel) ⟨Nat.le_of_ble_eq_true rfl, Nat.le_of_ble_eq_true rfl⟩) (tg_preV hw hK hSD hA (ci := 10) (q := (RX10, TX10, 49)) rfl h_p0 rfl) rfl rfl hl.1 rfl (lv_room (Nat.le_of_ble_eq_true rfl)) dX10_holds_154 ⟨Nat.le_of_ble_eq_true rfl, Nat.le_of_ble_eq_true rfl⟩) hw hA (fun v_17  H locs hp_v_17 hw => ?_)
        have r_v_17 : RI v_17 0 1 := hp_v_17.1
        refine lv_if_ne (tgt := 170) hx hb dX10_holds_157 (by decide) (fun c_157 => ?_) (fun c_157 => ?_)
        · have r_v_17 : RI v_17 1 1 := rc_neL r_v_17 rl_0 (ti_ne c_157) (by decide)
          refine lv_iconst (v := 1) hx hb dX10_holds_170 (by decide) ?_
          refine lv_goto (tgt := 175) hx hb dX10_holds_171 (by decide) ?_
          subst hQ
          exact W.zret (v := 1) hx hb hr (rfl) (fun t ht hW => ⟨⟨1, (), rfl, ⟨rl_1.to (by decide), (fun _ => trivial), (fun h0 => trivial)⟩, by rw [ht]; exact hw.2.1, va_K.moved hW.alike hK, hw.2.2.1⟩, hw.2.2.2.1.F ht⟩) hw.2.2.2.1.2.2 dX10_holds_175
        · have r_v_17 : RI v_17 0 0 := rc_eq1 r_v_17 rl_0 (ti_eq c_157) (by decide)
          refine lv_aload_n hx hb dX10_holds_160 rfl (lv_at hl 3 rfl) ?_
          refine lv_iload hx hb dX10_holds_161 (lv_at hl 0 rfl) ?_
          refine lv_iload_n hx hb dX10_holds_163 rfl (lv_at hl 5 rfl) ?_
          refine tk_ir (va_runV (As := [.int v_12, .int p2]) (rest := []) ⟨hx, hb, hml, hown, hts⟩ (c_X10_holds__28 l D cy z H.size Ps w0 hw.1 p0 v_12 p2 h_p0 r_v_12 r_p2) (cwV 2 hts (gV tw_1787 tw_1789 ts_119 tw_15 tw_1790) rfl rfl rfl (by decide +kernel) ⟨Nat.le_of_ble_eq_true rfl, Nat.le_of_ble_eq_true rfl⟩) (tg_preV hw hK hSD hA (ci := 10) (q := (RX10, TX10, 49)) rfl h_p0 rfl) rfl rfl hl.1 rfl (lv_room (Nat.le_of_ble_eq_true rfl)) dX10_holds_164 ⟨Nat.le_of_ble_eq_true rfl, Nat.le_of_ble_eq_true rfl⟩) hw hA (fun v_18  H locs hp_v_18 hw => ?_)
          have r_v_18 : RI v_18 0 1 := hp_v_18.1
          refine lv_if_eq (tgt := 174) hx hb dX10_holds_167 (by decide) (fun c_167 => ?_) (fun c_167 => ?_)
          · have r_v_18 : RI v_18 0 0 := rc_eq1 r_v_18 rl_0 (ti_eq c_167) (by decide)
            refine lv_iconst (v := 0) hx hb dX10_holds_174 (by decide) ?_
            subst hQ
            exact W.zret (v := 0) hx hb hr (rfl) (fun t ht hW => ⟨⟨0, (), rfl, ⟨rl_0.to (by decide), (fun h0 => trivial), (fun _ => trivial)⟩, by rw [ht]; exact hw.2.1, va_K.moved hW.alike hK, hw.2.2.1⟩, hw.2.2.2.1.F ht⟩) hw.2.2.2.1.2.2 dX10_holds_175
          · have r_v_18 : RI v_18 1 1 := rc_neL r_v_18 rl_0 (ti_ne c_167) (by decide)
            refine lv_iconst (v := 1) hx hb dX10_holds_170 (by decide) ?_
            refine lv_goto (tgt := 175) hx hb dX10_holds_171 (by decide) ?_
            subst hQ
            exact W.zret (v := 1) hx hb hr (rfl) (fun t ht hW => ⟨⟨1, (), rfl, ⟨rl_1.to (by decide), (fun _ => trivial), (fun h0 => trivial)⟩, by rw [ht]; exact hw.2.1, va_K.moved hW.alike hK, hw.2.2.1⟩, hw.2.2.2.1.F ht⟩) hw.2.2.2.1.2.2 dX10_holds_175
      · by_cases k_34_69 : v_13 = 69
        · refine lv_lookup (tgt := 176) (off := 142) hx hb dX10_holds_34 (by decide) (by rw [k_34_69]; decide) (by decide) ?_
          have r_v_13 : RI v_13 69 69 := by rw [k_34_69]; exact rl_69
          refine lv_aload_n hx hb dX10_holds_176 rfl (lv_at hl 3 rfl) ?_
          refine lv_iload_n hx hb dX10_holds_177 rfl (lv_at hl 5 rfl) ?_
          refine tk_ir (va_runV (As := [.int p2]) (rest := []) ⟨hx, hb, hml, hown, hts⟩ (c_X10_isOpen l D cy z s.heap.size Ps w0 hw.1 p0 p2 h_p0 (r_p2.to (by decide))) (cwV 1 hts (gV tw_1457 tw_1459 ts_71 tw_15 tw_1460) rfl rfl rfl (by decide +kernel) ⟨Nat.le_of_ble_eq_true rfl, Nat.le_of_ble_eq_true rfl⟩) (tg_preV hw hK hSD hA (ci := 10) (q := (RX10, TX10, 49)) rfl h_p0 rfl) rfl rfl hl.1 rfl (lv_room (Nat.le_of_ble_eq_true rfl)) dX10_holds_178 ⟨Nat.le_of_ble_eq_true rfl, Nat.le_of_ble_eq_true rfl⟩) hw hA (fun v_19  H locs hp_v_19 hw => ?_)
          have r_v_19 : RI v_19 0 1 := hp_v_19.1
          subst hQ
          exact W.zret (v := v_19) hx hb hr (tq_nz (r_v_19.to (by decide))) (fun t ht hW => ⟨⟨v_19, (), rfl, ⟨r_v_19.to (by decide), (fun h0 => trivial), (fun h0 => trivial)⟩, by rw [ht]; exact hw.2.1, va_K.moved hW.alike hK, hw.2.2.1⟩, hw.2.2.2.1.F ht⟩) hw.2.2.2.1.2.2 dX10_holds_181
        · by_cases k_34_70 : v_13 = 70
          · refine lv_lookup (tgt := 182) (off := 148) hx hb dX10_holds_34 (by decide) (by rw [k_34_70]; decide) (by decide) ?_
            have r_v_13 : RI v_13 70 70 := by rw [k_34_70]; exact rl_70
            refine lv_aload_n hx hb dX10_holds_182 rfl (lv_at hl 3 rfl) ?_
            refine lv_iload_n hx hb dX10_holds_183 rfl (lv_at hl 5 rfl) ?_
            refine tk_ir (va_runV (As := [.int p2]) (rest := []) ⟨hx, hb, hml, hown, hts⟩ (c_X10_whatIs l D cy z s.heap.size Ps w0 hw.1 p0 p2 h_p0 r_p2) (cwV 1 hts (gV tw_1449 tw_1451 ts_69 tw_15 tw_1452) rfl rfl rfl (by decide +kernel) ⟨Nat.le_of_ble_eq_true rfl, Nat.le_of_ble_eq_true rfl⟩) (tg_preV hw hK hSD hA (ci := 10) (q := (RX10, TX10, 49)) rfl h_p0 rfl) rfl rfl hl.1 rfl (lv_room (Nat.le_of_ble_eq_true rfl)) dX10_holds_184 ⟨Nat.le_of_ble_eq_true rfl, Nat.le_of_ble_eq_true rfl⟩) hw hA (fun v_20  H locs hp_v_20 hw => ?_)
            have r_v_20 : RI v_20 (-1) 5 := hp_v_20.1
            by_cases c9_v_20 : v_20.toInt < 0
            · have r_v_20 : RI v_20 (-1) (-1) := by unfold RI at r_v_20 ⊢; omega
              have x_NB_p0_p2 := (hp_v_20.2.2.2.2.1 (by omega)).1
              refine lv_iconst (v := (-1)) hx hb dX10_holds_187 (by decide) ?_
              refine lv_icmp_ne (tgt := 195) hx hb dX10_holds_188 (by decide) (fun c_188 => ?_) (fun c_188 => ?_)
              · exact absurd (r_v_20.eq.trans rl_m1.eq.symm) ((ti_ne c_188))
              · refine lv_iconst (v := 1) hx hb dX10_holds_191 (by decide) ?_
                refine lv_goto (tgt := 196) hx hb dX10_holds_192 (by decide) ?_
                subst hQ
                exact W.zret (v := 1) hx hb hr (rfl) (fun t ht hW => ⟨⟨1, (), rfl, ⟨rl_1.to (by decide), (fun _ => trivial), (fun h0 => trivial)⟩, by rw [ht]; exact hw.2.1, va_K.moved hW.alike hK, hw.2.2.1⟩, hw.2.2.2.1.F ht⟩) hw.2.2.2.1.2.2 dX10_holds_196
            · have r_v_20 : RI v_20 0 5 := by unfold RI at r_v_20 ⊢; omega
              have x_WB_p0_p2_v_20 := (hp_v_20.2.2.2.2.2 (by omega)).1
              refine lv_iconst (v := (-1)) hx hb dX10_holds_187 (by decide) ?_
              refine lv_icmp_ne (tgt := 195) hx hb dX10_holds_188 (by decide) (fun c_188 => ?_) (fun c_188 => ?_)
              · refine lv_iconst (v := 0) hx hb dX10_holds_195 (by decide) ?_
                subst hQ
                exact W.zret (v := 0) hx hb hr (rfl) (fun t ht hW => ⟨⟨0, (), rfl, ⟨rl_0.to (by decide), (fun h0 => trivial), (fun _ => trivial)⟩, by rw [ht]; exact hw.2.1, va_K.moved hW.alike hK, hw.2.2.1⟩, hw.2.2.2.1.F ht⟩) hw.2.2.2.1.2.2 dX10_holds_196
              · have r_v_20 : RI v_20 0 (-1) := rc_eq1 r_v_20 rl_m1 (ti_eq c_188) (by decide)
                exact (r_v_20.no (by decide)).elim
          · by_cases k_34_71 : v_13 = 71
            · refine lv_lookup (tgt := 197) (off := 163) hx hb dX10_holds_34 (by decide) (by rw [k_34_71]; decide) (by decide) ?_
              have r_v_13 : RI v_13 71 71 := by rw [k_34_71]; exact rl_71
              refine lv_aload_n hx hb dX10_holds_197 rfl (lv_at hl 3 rfl) ?_
              refine lv_iload_n hx hb dX10_holds_198 rfl (lv_at hl 5 rfl) ?_
              refine tk_ir (va_runV (As := [.int p2]) (rest := []) ⟨hx, hb, hml, hown, hts⟩ (c_X10_sittersOf l D cy z s.heap.size Ps w0 hw.1 p0 p2 h_p0 (r_p2.to (by decide))) (cwV 1 hts (gV tw_1461 tw_1463 ts_72 tw_15 tw_1464) rfl rfl rfl (by decide +kernel) ⟨Nat.le_of_ble_eq_true rfl, Nat.le_of_ble_eq_true rfl⟩) (tg_preV hw hK hSD hA (ci := 10) (q := (RX10, TX10, 49)) rfl h_p0 rfl) rfl rfl hl.1 rfl (lv_room (Nat.le_of_ble_eq_true rfl)) dX10_holds_199 ⟨Nat.le_of_ble_eq_true rfl, Nat.le_of_ble_eq_true rfl⟩) hw hA (fun v_21  H locs hp_v_21 hw => ?_)
              have r_v_21 : RI v_21 (-2147483648) 2147483647 := hp_v_21.1
              refine lv_if_eq (tgt := 209) hx hb dX10_holds_202 (by decide) (fun c_202 => ?_) (fun c_202 => ?_)
              · have r_v_21 : RI v_21 0 0 := rc_eq1 r_v_21 rl_0 (ti_eq c_202) (by decide)
                refine lv_iconst (v := 0) hx hb dX10_holds_209 (by decide) ?_
                subst hQ
                exact W.zret (v := 0) hx hb hr (rfl) (fun t ht hW => ⟨⟨0, (), rfl, ⟨rl_0.to (by decide), (fun h0 => trivial), (fun _ => trivial)⟩, by rw [ht]; exact hw.2.1, va_K.moved hW.alike hK, hw.2.2.1⟩, hw.2.2.2.1.F ht⟩) hw.2.2.2.1.2.2 dX10_holds_210
              · refine lv_iconst (v := 1) hx hb dX10_holds_205 (by decide) ?_
                refine lv_goto (tgt := 210) hx hb dX10_holds_206 (by decide) ?_
                subst hQ
                exact W.zret (v := 1) hx hb hr (rfl) (fun t ht hW => ⟨⟨1, (), rfl, ⟨rl_1.to (by decide), (fun _ => trivial), (fun h0 => trivial)⟩, by rw [ht]; exact hw.2.1, va_K.moved hW.alike hK, hw.2.2.1⟩, hw.2.2.2.1.F ht⟩) hw.2.2.2.1.2.2 dX10_holds_210
            · by_cases k_34_72 : v_13 = 72
              · refine lv_lookup (tgt := 211) (off := 177) hx hb dX10_holds_34 (by decide) (by rw [k_34_72]; decide) (by decide) ?_
                have r_v_13 : RI v_13 72 72 := by rw [k_34_72]; exact rl_72
                refine lv_aload_n hx hb dX10_holds_211 rfl (lv_at hl 3 rfl) ?_
                refine lv_iload_n hx hb dX10_holds_212 rfl (lv_at hl 5 rfl) ?_
                refine tk_ir (va_runV (As := [.int p2]) (rest := []) ⟨hx, hb, hml, hown, hts⟩ (c_X10_whatIs l D cy z s.heap.size Ps w0 hw.1 p0 p2 h_p0 r_p2) (cwV 1 hts (gV tw_1449 tw_1451 ts_69 tw_15 tw_1452) rfl rfl rfl (by decide +kernel) ⟨Nat.le_of_ble_eq_true rfl, Nat.le_of_ble_eq_true rfl⟩) (tg_preV hw hK hSD hA (ci := 10) (q := (RX10, TX10, 49)) rfl h_p0 rfl) rfl rfl hl.1 rfl (lv_room (Nat.le_of_ble_eq_true rfl)) dX10_holds_213 ⟨Nat.le_of_ble_eq_true rfl, Nat.le_of_ble_eq_true rfl⟩) hw hA (fun v_22  H locs hp_v_22 hw => ?_)
                have r_v_22 : RI v_22 (-1) 5 := hp_v_22.1
                by_cases c9_v_22 : v_22.toInt < 0
                · have r_v_22 : RI v_22 (-1) (-1) := by unfold RI at r_v_22 ⊢; omega
                  have x_NB_p0_p2 := (hp_v_22.2.2.2.2.1 (by omega)).1
                  refine lv_iload hx hb dX10_holds_216 (lv_at hl 1 rfl) ?_
                  refine lv_icmp_ne (tgt := 225) hx hb dX10_holds_218 (by decide) (fun c_218 => ?_) (fun c_218 => ?_)
                  · refine lv_iconst (v := 0) hx hb dX10_holds_225 (by decide) ?_
                    subst hQ
                    exact W.zret (v := 0) hx hb hr (rfl) (fun t ht hW => ⟨⟨0, (), rfl, ⟨rl_0.to (by decide), (fun h0 => trivial), (fun _ => trivial)⟩, by rw [ht]; exact hw.2.1, va_K.moved hW.alike hK, hw.2.2.1⟩, hw.2.2.2.1.F ht⟩) hw.2.2.2.1.2.2 dX10_holds_226
                  · have r_v_10 : RI v_10 (-1) (-1) := rc_eq2 r_v_22 r_v_10 (ti_eq c_218) (by decide)
                    refine lv_iconst (v := 1) hx hb dX10_holds_221 (by decide) ?_
                    refine lv_goto (tgt := 226) hx hb dX10_holds_222 (by decide) ?_
                    subst hQ
                    exact W.zret (v := 1) hx hb hr (rfl) (fun t ht hW => ⟨⟨1, (), rfl, ⟨rl_1.to (by decide), (fun _ => trivial), (fun h0 => trivial)⟩, by rw [ht]; exact hw.2.1, va_K.moved hW.alike hK, hw.2.2.1⟩, hw.2.2.2.1.F ht⟩) hw.2.2.2.1.2.2 dX10_holds_226
                · have r_v_22 : RI v_22 0 5 := by unfold RI at r_v_22 ⊢; omega
                  have x_WB_p0_p2_v_22 := (hp_v_22.2.2.2.2.2 (by omega)).1
                  refine lv_iload hx hb dX10_holds_216 (lv_at hl 1 rfl) ?_
                  refine lv_icmp_ne (tgt := 225) hx hb dX10_holds_218 (by decide) (fun c_218 => ?_) (fun c_218 => ?_)
                  · refine lv_iconst (v := 0) hx hb dX10_holds_225 (by decide) ?_
                    subst hQ
                    exact W.zret (v := 0) hx hb hr (rfl) (fun t ht hW => ⟨⟨0, (), rfl, ⟨rl_0.to (by decide), (fun h0 => trivial), (fun _ => trivial)⟩, by rw [ht]; exact hw.2.1, va_K.moved hW.alike hK, hw.2.2.1⟩, hw.2.2.2.1.F ht⟩) hw.2.2.2.1.2.2 dX10_holds_226
                  · have r_v_10 : RI v_10 0 5 := rc_eq2 r_v_22 r_v_10 (ti_eq c_218) (by decide)
                    refine lv_iconst (v := 1) hx hb dX10_holds_221 (by decide) ?_
                    refine lv_goto (tgt := 226) hx hb dX10_holds_222 (by decide) ?_
                    subst hQ
                    exact W.zret (v := 1) hx hb hr (rfl) (fun t ht hW => ⟨⟨1, (), rfl, ⟨rl_1.to (by decide), (fun _ => trivial), (fun h0 => trivial)⟩, by rw [ht]; exact hw.2.1, va_K.moved hW.alike hK, hw.2.2.1⟩, hw.2.2.2.1.F ht⟩) hw.2.2.2.1.2.2 dX10_holds_226
              · by_cases k_34_73 : v_13 = 73
                · refine lv_lookup (tgt := 227) (off := 193) hx hb dX10_holds_34 (by decide) (by rw [k_34_73]; decide) (by decide) ?_
                  have r_v_13 : RI v_13 73 73 := by rw [k_34_73]; exact rl_73
                  refine lv_aload_n hx hb dX10_holds_227 rfl (lv_at hl 3 rfl) ?_
                  refine tg_mem (ci := 10) (C := RX10) (T := TX10) (N := 49) hx hb hts inX10 hown hK hw 14 m_u_8 rfl (by decide) (hts _ tw_1151) (fun _ h9 => h9) dX10_holds_228 ?_
                  refine lv_bipush (v := 86) hx hb dX10_holds_231 (by decide) ?_
                  refine lv_iload_n hx hb dX10_holds_233 rfl (lv_at hl 5 rfl) ?_
                  refine lv_iadd hx hb dX10_holds_234 (lv_topi (fun v_23 e_v_23 => ?_))
                  obtain ⟨t_v_23, r_v_23⟩ := tq_add (lo := 86) (hi := 91) rl_86 r_p2 (by decide +kernel) e_v_23
                  have t_v_23 : v_23.toInt = 86 + p2.toInt := t_v_23
                  refine tg_iald (lo := (-2147483648)) (hi := 2147483647) hx hb hK hw h_vu_8 rfl 86 91 r_v_23 (by decide) (by decide +kernel) dX10_holds_235 (fun v_24 r_v_24 m_v_24 o_v_24 => ?_)
                  refine lv_iload hx hb dX10_holds_236 (lv_at hl 1 rfl) ?_
                  refine lv_icmp_ne (tgt := 245) hx hb dX10_holds_238 (by decide) (fun c_238 => ?_) (fun c_238 => ?_)
                  · refine lv_iconst (v := 0) hx hb dX10_holds_245 (by decide) ?_
                    subst hQ
                    exact W.zret (v := 0) hx hb hr (rfl) (fun t ht hW => ⟨⟨0, (), rfl, ⟨rl_0.to (by decide), (fun h0 => trivial), (fun _ => trivial)⟩, by rw [ht]; exact hw.2.1, va_K.moved hW.alike hK, hw.2.2.1⟩, hw.2.2.2.1.F ht⟩) hw.2.2.2.1.2.2 dX10_holds_246
                  · refine lv_iconst (v := 1) hx hb dX10_holds_241 (by decide) ?_
                    refine lv_goto (tgt := 246) hx hb dX10_holds_242 (by decide) ?_
                    subst hQ
                    exact W.zret (v := 1) hx hb hr (rfl) (fun t ht hW => ⟨⟨1, (), rfl, ⟨rl_1.to (by decide), (fun _ => trivial), (fun h0 => trivial)⟩, by rw [ht]; exact hw.2.1, va_K.moved hW.alike hK, hw.2.2.1⟩, hw.2.2.2.1.F ht⟩) hw.2.2.2.1.2.2 dX10_holds_246
                · refine lv_lookup (tgt := 247) (off := 213) hx hb dX10_holds_34 (by decide) ((lv_osw k_34_1 (by decide)).trans ((lv_osw k_34_2 (by decide)).trans ((lv_osw k_34_3 (by decide)).trans ((lv_osw k_34_69 (by decide)).trans ((lv_osw k_34_70 (by decide)).trans ((lv_osw k_34_71 (by decide)).trans ((lv_osw k_34_72 (by decide)).trans ((lv_osw k_34_73 (by decide)).trans (rfl))))))))) (by decide) ?_
                  refine lv_aload_n hx hb dX10_holds_247 rfl (lv_at hl 3 rfl) ?_
                  refine tg_mem (ci := 10) (C := RX10) (T := TX10) (N := 49) hx hb hts inX10 hown hK hw 14 m_u_8 rfl (by decide) (hts _ tw_1151) (fun _ h9 => h9) dX10_holds_248 ?_
                  refine lv_iload_n hx hb dX10_holds_251 rfl (lv_at hl 2 rfl) ?_
                  refine tg_imem hx hb hK hw h_vu_8 rfl r_v_7 (by decide) m_v_13 dX10_holds_252 ?_
                  refine lv_bipush (v := 50) hx hb dX10_holds_253 (by decide) ?_
                  refine lv_isub hx hb dX10_holds_255 (lv_topi (fun v_26 e_v_26 => ?_))
                  have r_v_26 := ri_any v_26
                  refine lv_istore (lv' := [(6, .int v_26), (5, .int v_12), (4, .int v_10), (3, .int v_7), (0, .ref p0), (1, .int p1), (2, .int p2)]) hx hb dX10_holds_256 hl (by decide) rfl (fun ls hl => ?_)
                  refine lv_iload hx hb dX10_holds_258 (lv_at hl 0 rfl) ?_
                  refine lv_bipush (v := 24) hx hb dX10_holds_260 (by decide) ?_
                  refine lv_icmp_ne (tgt := 273) hx hb dX10_holds_262 (by decide) (fun c_262 => ?_) (fun c_262 => ?_)
                  · refine lv_iload hx hb dX10_holds_273 (lv_at hl 0 rfl) ?_
                    refine lv_bipush (v := 25) hx hb dX10_holds_275 (by decide) ?_
                    refine lv_icmp_ne (tgt := 292) hx hb dX10_holds_277 (by decide) (fun c_277 => ?_) (fun c_277 => ?_)
                    · refine lv_iload hx hb dX10_holds_292 (lv_at hl 0 rfl) ?_
                      refine lv_bipush (v := 26) hx hb dX10_holds_294 (by decide) ?_
                      refine lv_icmp_ne (tgt := 311) hx hb dX10_holds_296 (by decide) (fun c_296 => ?_) (fun c_296 => ?_)
                      · refine lv_iload_n hx hb dX10_holds_311 rfl (lv_at hl 6 rfl) ?_
                        exact B312 v_7 v_10 v_12 v_26 p2 _ _ ls r_p1 r_p2 r_v_7 r_v_10 r_v_12 r_v_26 (r_p2.to (by decide)) hw (lv_sub hl [4, 5, 6, 3, 2, 1, 0] rfl)
                      · have r_v_26 : RI v_26 26 26 := rc_eq1 r_v_26 rl_26 (ti_eq c_296) (by decide)
                        refine lv_aload_n hx hb dX10_holds_299 rfl (lv_at hl 4 rfl) ?_
                        refine tg_mem (ci := 10) (C := RX10) (T := TX10) (N := 49) hx hb hts inX10 hown hK hw 14 m_u_8 rfl (by decide) (hts _ tw_1151) (fun _ h9 => h9) dX10_holds_300 ?_
                        refine lv_bipush (v := 98) hx hb dX10_holds_303 (by decide) ?_
                        refine lv_iload_n hx hb dX10_holds_305 rfl (lv_at hl 6 rfl) ?_
                        refine lv_iadd hx hb dX10_holds_306 (lv_topi (fun v_27 e_v_27 => ?_))
                        obtain ⟨t_v_27, r_v_27⟩ := tq_add (lo := 98) (hi := 103) rl_98 r_p2 (by decide +kernel) e_v_27
                        have t_v_27 : v_27.toInt = 98 + p2.toInt := t_v_27
                        refine tg_iald (lo := (-2147483648)) (hi := 2147483647) hx hb hK hw h_vu_8 rfl 98 103 r_v_27 (by decide) (by decide +kernel) dX10_holds_307 (fun v_28 r_v_28 m_v_28 o_v_28 => ?_)
                        refine lv_goto (tgt := 312) hx hb dX10_holds_308 (by decide) ?_
                        exact B312 v_7 v_10 v_12 v_26 v_28 _ _ ls r_p1 r_p2 r_v_7 r_v_10 r_v_12 (r_v_26.to (by decide)) r_v_28 hw (lv_sub hl [4, 5, 6, 3, 2, 1, 0] rfl)
                    · have r_v_26 : RI v_26 25 25 := rc_eq1 r_v_26 rl_25 (ti_eq c_277) (by decide)
                      refine lv_aload_n hx hb dX10_holds_280 rfl (lv_at hl 4 rfl) ?_
                      refine tg_mem (ci := 10) (C := RX10) (T := TX10) (N := 49) hx hb hts inX10 hown hK hw 14 m_u_8 rfl (by decide) (hts _ tw_1151) (fun _ h9 => h9) dX10_holds_281 ?_
                      refine lv_bipush (v := 92) hx hb dX10_holds_284 (by decide) ?_
                      refine lv_iload_n hx hb dX10_holds_286 rfl (lv_at hl 6 rfl) ?_
                      refine lv_iadd hx hb dX10_holds_287 (lv_topi (fun v_29 e_v_29 => ?_))
                      obtain ⟨t_v_29, r_v_29⟩ := tq_add (lo := 92) (hi := 97) rl_92 r_p2 (by decide +kernel) e_v_29
                      have t_v_29 : v_29.toInt = 92 + p2.toInt := t_v_29
                      refine tg_iald (lo := (-2147483648)) (hi := 2147483647) hx hb hK hw h_vu_8 rfl 92 97 r_v_29 (by decide) (by decide +kernel) dX10_holds_288 (fun v_30 r_v_30 m_v_30 o_v_30 => ?_)
                      refine lv_goto (tgt := 312) hx hb dX10_holds_289 (by decide) ?_
                      exact B312 v_7 v_10 v_12 v_26 v_30 _ _ ls r_p1 r_p2 r_v_7 r_v_10 r_v_12 (r_v_26.to (by decide)) r_v_30 hw (lv_sub hl [4, 5, 6, 3, 2, 1, 0] rfl)
                  · have r_v_26 : RI v_26 24 24 := rc_eq1 r_v_26 rl_24 (ti_eq c_262) (by decide)
                    refine lv_aload_n hx hb dX10_holds_265 rfl (lv_at hl 4 rfl) ?_
                    refine lv_iload_n hx hb dX10_holds_266 rfl (lv_at hl 6 rfl) ?_
                    refine tk_ir (va_runV (As := [.int p2]) (rest := []) ⟨hx, hb, hml, hown, hts⟩ (c_X10_sizeOf l D cy z s.heap.size Ps w0 hw.1 p0 p2 h_p0 r_p2) (cwV 1 hts (gV tw_1453 tw_1455 ts_70 tw_15 tw_1456) rfl rfl rfl (by decide +kernel) ⟨Nat.le_of_ble_eq_true rfl, Nat.le_of_ble_eq_true rfl⟩) (tg_preV hw hK hSD hA (ci := 10) (q := (RX10, TX10, 49)) rfl h_p0 rfl) rfl rfl hl.1 rfl (lv_room (Nat.le_of_ble_eq_true rfl)) dX10_holds_267 ⟨Nat.le_of_ble_eq_true rfl, Nat.le_of_ble_eq_true rfl⟩) hw hA (fun v_31  H locs hp_v_31 hw => ?_)
                    have r_v_31 : RI v_31 (-2147483648) 2147483647 := hp_v_31.1
                    refine lv_goto (tgt := 312) hx hb dX10_holds_270 (by decide) ?_
                    exact B312 v_7 v_10 v_12 v_26 v_31 _ _ ls r_p1 r_p2 r_v_7 r_v_10 r_v_12 (r_v_26.to (by decide)) r_v_31 hw (lv_sub hl [4, 5, 6, 3, 2, 1, 0] rfl)
abbrev wr_X10_holds__26 : List (Nat × Nat) := []
abbrev wa_X10_holds__26 : List Nat := []
set_option maxHeartbeats 4000000 in
set_option maxRecDepth 100000 in
theorem c_X10_holds__26 (l : Launch) (D : va_G) (cy : Nat → ClassId) (z : Nat → Nat) (sz : Nat) (Ps : PSI) (w0 : va_W) (hT : HT cy GG Ps w0) (p0 : Nat) (p1 : Int32) (p2 : Int32) (h_p0 : (p0, 55) ∈ Ps) (r_p1 : RI p1 0 33) (r_p2 : RI p2 0 5) : Met l yX10_holds (Cond.code yX10_holds cX10_holds 8 (some .boolean) :: gT) ({ frames := 36, cells := 0, slots := 0, locals := 7200 } : Room) (va_Pc [.ref p0, .int p1, .int p2] (PRE D cy z w0 sz)) (va_Qi (fun (r : Int32) (u : Unit) => RI r 0 1 ∧ (r = 0 → True) ∧ (¬ r = 0 → True)) (BB D cy (va_A w0 sz) (fun (u : Unit) => w0)) (va_A w0 sz)) 0 0 (va_A w0 sz) := by
  refine Met.ofW (cc := cX10_holds) (maxL := 8) (ret := (some .boolean)) (by decide) rfl ?_
  intro p e s m args below meth c s₁ B hml hv
  obtain ⟨rfl, hsz, hP, hK, hD0, hSD⟩ := hv
  have hx := B.exec
  have hb := B.bytes
  have hr := B.returns
  have hlocks := B.notSynchronized
  have hts : ∀ w ∈ gT, w.before _ s = true := fun w h => atoms_spec (ws := Cond.code yX10_holds cX10_holds 8 (some .boolean) :: gT) B.pre w (List.mem_cons_of_mem _ h)
  have hown : s.vm.findClass RX10 = some m.cls := findClass_of_methodNamed B.named
  subst hsz
  have hD := hD0.self (sz := s.heap.size)
  generalize hAe : va_A w0 s.heap.size = A at hD hSD ⊢
  have hA : ∀ q : Nat, s.heap.size ≤ q → A q := fun q h => by rw [← hAe]; exact Or.inr h
  have hl := lv_entry ([.ref p0, .int p1, .int p2]) (n := 8) (Nat.le_of_ble_eq_true rfl)
  rw [lg_entry_eq]
  generalize (lg_sl ([.ref p0, .int p1, .int p2]) ++ List.replicate (8 - (lg_sl ([.ref p0, .int p1, .int p2])).length) Slot.unset).toArray = ls at hl ⊢
  have hl : lv_has ls 8 [(0, .ref p0), (1, .int p1), (2, .int p2)] := hl
  refine nameQ (fun Q hQ => ?_)
  have hw : WD D cy GG A s wr_X10_holds__26 wa_X10_holds__26 Ps w0 Ps w0 s.heap [] := ⟨hT, hP, hD, va_S.rf, FR.rf, hT.1, [], (List.append_nil _).symm⟩
  have B312 : ∀ (x3 : Int32) (x4 : Int32) (x5 : Int32) (x6 : Int32) (y0 : Int32) (H : Heap) (locs : List Loc) (ls : Array Slot), RI p1 0 33 → RI p2 0 5 → RI x3 174 306 → RI x4 (-2147483648) 2147483647 → RI x5 (-2147483648) 2147483647 → RI x6 (-2147483648) 2147483647 → RI y0 (-2147483648) 2147483647 → WD D cy GG A s wr_X10_holds__26 wa_X10_holds__26 Ps w0 Ps w0 H locs → lv_has ls 8 [(0, .ref p0), (1, .int p1), (2, .int p2), (3, .int x3), (4, .int x4), (5, .int x5), (6, .int x6)] → W p l e (headSpec (Cond.code yX10_holds cX10_holds 8 (some .boolean) :: gT) ({ frames := 36, cells := 0, slots := 0, locals := 7200 } : Room)).room s m ([.ref p0, .int p1, .int p2] : List Value).toArray below meth c H locs 0 0 Q (F0 m 312 ls [.int y0]) := by
    intro x3 x4 x5 x6 y0 H locs ls r_p1 r_p2 r_x3 r_x4 r_x5 r_x6 r_y0 hw hl
    refine lv_istore (lv' := [(7, .int y0), (0, .ref p0), (1, .int p1), (2, .int p2), (3, .int x3), (4, .int x4), (5, .int x5), (6, .int x6)]) hx hb dX10_holds_312 hl (by decide) rfl (fun ls hl => ?_)
    refine lv_aload_n hx hb dX10_holds_314 rfl (lv_at hl 1 rfl) ?_
    refine tg_get (ci := 10) (ts := ty_MODEL) (C := RX10) (T := TX10) (N := 49) hx hb hts inX10 hown hK hw h_p0 rfl rfl 14 (by decide) (hts _ tw_1151) (fun _ h9 => h9) (ft := vR 34) rfl dX10_holds_315 (fun u_1 hv_u_1 m_u_1 => ?_)
    obtain ⟨vu_1, rfl, h_vu_1⟩ := hv_u_1
    refine lv_iload_n hx hb dX10_holds_318 rfl (lv_at hl 4 rfl) ?_
    refine lv_iconst (v := 3) hx hb dX10_holds_319 (by decide) ?_
    refine lv_iadd hx hb dX10_holds_320 (lv_topi (fun v_2 e_v_2 => ?_))
    obtain ⟨t_v_2, r_v_2⟩ := tq_add (lo := 177) (hi := 309) r_x3 rl_3 (by decide +kernel) e_v_2
    have t_v_2 : v_2.toInt = x3.toInt + 3 := t_v_2
    refine tg_iald (lo := (-2147483648)) (hi := 2147483647) hx hb hK hw h_vu_1 rfl 177 309 r_v_2 (by decide) (by decide +kernel) dX10_holds_321 (fun v_3 r_v_3 m_v_3 o_v_3 => ?_)
    refine lv_bipush (v := 60) hx hb dX10_holds_322 (by decide) ?_
    refine lv_icmp_ne (tgt := 342) hx hb dX10_holds_324 (by decide) (fun c_324 => ?_) (fun c_324 => ?_)
    · refine lv_aload_n hx hb dX10_holds_342 rfl (lv_at hl 1 rfl) ?_
      refine tg_mem (ci := 10) (C := RX10) (T := TX10) (N := 49) hx hb hts inX10 hown hK hw 14 m_u_1 rfl (by decide) (hts _ tw_1151) (fun _ h9 => h9) dX10_holds_343 ?_
      refine lv_iload_n hx hb dX10_holds_346 rfl (lv_at hl 4 rfl) ?_
      refine lv_iconst (v := 3) hx hb dX10_holds_347 (by decide) ?_
      refine lv_iadd hx hb dX10_holds_348 (lv_topi (fun v_4 e_v_4 => ?_))
      obtain ⟨t_v_4, r_v_4⟩ := tq_add (lo := 177) (hi := 309) r_x3 rl_3 (by decide +kernel) e_v_4
      have t_v_4 : v_4.toInt = x3.toInt + 3 := t_v_4
      refine tg_iald (lo := (-2147483648)) (hi := 2147483647) hx hb hK hw h_vu_1 rfl 177 309 r_v_4 (by decide) (by decide +kernel) dX10_holds_349 (fun v_5 r_v_5 m_v_5 o_v_5 => ?_)
      refine lv_bipush (v := 61) hx hb dX10_holds_350 (by decide) ?_
      refine lv_icmp_ne (tgt := 370) hx hb dX10_holds_352 (by decide) (fun c_352 => ?_) (fun c_352 => ?_)
      · refine lv_iload hx hb dX10_holds_370 (lv_at hl 0 rfl) ?_
        refine lv_iload hx hb dX10_holds_372 (lv_at hl 6 rfl) ?_
        refine lv_icmp_le (tgt := 381) hx hb dX10_holds_374 (by decide) (fun c_374 => ?_) (fun c_374 => ?_)
        · refine lv_iconst (v := 0) hx hb dX10_holds_381 (by decide) ?_
          subst hQ
          exact W.zret (v := 0) hx hb hr (rfl) (fun t ht hW => ⟨⟨0, (), rfl, ⟨rl_0.to (by decide), (fun h0 => trivial), (fun _ => trivial)⟩, by rw [ht]; exact hw.2.1, va_K.moved hW.alike hK, hw.2.2.1⟩, hw.2.2.2.1.F ht⟩) hw.2.2.2.1.2.2 dX10_holds_382
        · have r_x5 : RI x5 (-2147483648) 2147483646 := rc_lt1 r_x5 r_y0 (ti_nle c_374) (by decide)
          have r_y0 : RI y0 (-2147483647) 2147483647 := rc_lt2 r_x5 r_y0 (ti_nle c_374) (by decide)
          refine lv_iconst (v := 1) hx hb dX10_holds_377 (by decide) ?_
          refine lv_goto (tgt := 382) hx hb dX10_holds_378 (by decide) ?_
          subst hQ
          exact W.zret (v := 1) hx hb hr (rfl) (fun t ht hW => ⟨⟨1, (), rfl, ⟨rl_1.to (by decide), (fun _ => trivial), (fun h0 => trivial)⟩, by rw [ht]; exact hw.2.1, va_K.moved hW.alike hK, hw.2.2.1⟩, hw.2.2.2.1.F ht⟩) hw.2.2.2.1.2.2 dX10_holds_382
      · have r_v_5 : RI v_5 61 61 := rc_eq1 r_v_5 rl_61 (ti_eq c_352) (by decide)
        refine lv_iload hx hb dX10_holds_355 (lv_at hl 0 rfl) ?_
        refine lv_iload hx hb dX10_holds_357 (lv_at hl 6 rfl) ?_
        refine lv_icmp_ne (tgt := 366) hx hb dX10_holds_359 (by decide) (fun c_359 => ?_) (fun c_359 => ?_)
        · refine lv_iconst (v := 0) hx hb dX10_holds_366 (by decide) ?_
          refine lv_goto (tgt := 382) hx hb dX10_holds_367 (by decide) ?_
          subst hQ
          exact W.zret (v := 0) hx hb hr (rfl) (fun t ht hW => ⟨⟨0, (), rfl, ⟨rl_0.to (by decide), (fun h0 => trivial), (fun _ => trivial)⟩, by rw [ht]; exact hw.2.1, va_K.moved hW.alike hK, hw.2.2.1⟩, hw.2.2.2.1.F ht⟩) hw.2.2.2.1.2.2 dX10_holds_382
        · refine lv_iconst (v := 1) hx hb dX10_holds_362 (by decide) ?_
          refine lv_goto (tgt := 382) hx hb dX10_holds_363 (by decide) ?_
          subst hQ
          exact W.zret (v := 1) hx hb hr (rfl) (fun t ht hW => ⟨⟨1, (), rfl, ⟨rl_1.to (by decide), (fun _ => trivial), (fun h0 => trivial)⟩, by rw [ht]; exact hw.2.1, va_K.moved hW.alike hK, hw.2.2.1⟩, hw.2.2.2.1.F ht⟩) hw.2.2.2.1.2.2 dX10_holds_382
    · have r_v_3 : RI v_3 60 60 := rc_eq1 r_v_3 rl_60 (ti_eq c_324) (by decide)
      refine lv_iload hx hb dX10_holds_327 (lv_at hl 0 rfl) ?_
      refine lv_iload hx hb dX10_holds_329 (lv_at hl 6 rfl) ?_
      refine lv_icmp_ge (tgt := 338) hx hb dX10_holds_331 (by decide) (fun c_331 => ?_) (fun c_331 => ?_)
      · refine lv_iconst (v := 0) hx hb dX10_holds_338 (by decide) ?_
        refine lv_goto (tgt := 382) hx hb dX10_holds_339 (by decide) ?_
        subst hQ
        exact W.zret (v := 0) hx hb hr (rfl) (fun t ht hW => ⟨⟨0, (), rfl, ⟨rl_0.to (by decide), (fun h0 => trivial), (fun _ => trivial)⟩, by rw [ht]; exact hw.2.1, va_K.moved hW.alike hK, hw.2.2.1⟩, hw.2.2.2.1.F ht⟩) hw.2.2.2.1.2.2 dX10_holds_382
      · have r_y0 : RI y0 (-2147483648) 2147483646 := rc_lt1 r_y0 r_x5 (ti_nle c_331) (by decide)
        have r_x5 : RI x5 (-2147483647) 2147483647 := rc_lt2 r_y0 r_x5 (ti_nle c_331) (by decide)
        refine lv_iconst (v := 1) hx hb dX10_holds_334 (by decide) ?_
        refine lv_goto (tgt := 382) hx hb dX10_holds_335 (by decide) ?_
        subst hQ
        exact W.zret (v := 1) hx hb hr (rfl) (fun t ht hW => ⟨⟨1, (), rfl, ⟨rl_1.to (by decide), (fun _ => trivial), (fun h0 => trivial)⟩, by rw [ht]; exact hw.2.1, va_K.moved hW.alike hK, hw.2.2.1⟩, hw.2.2.2.1.F ht⟩) hw.2.2.2.1.2.2 dX10_holds_382
  refine lv_sipush (v := 174) hx hb dX10_holds_0 (by decide) ?_
  refine lv_iconst (v := 4) hx hb dX10_holds_3 (by decide) ?_
  refine lv_iload_n hx hb dX10_holds_4 rfl (lv_at hl 1 rfl) ?_
  refine lv_imul hx hb dX10_holds_5 (lv_topi (fun v_6 e_v_6 => ?_))
  obtain ⟨t_v_6, r_v_6⟩ := tq_mul (lo := 0) (hi := 132) rl_4 r_p1 (by decide +kernel) e_v_6
  have t_v_6 : v_6.toInt = 4 * p1.toInt := t_v_6
  refine lv_iadd hx hb dX10_holds_6 (lv_topi (fun v_7 e_v_7 => ?_))
  obtain ⟨t_v_7, r_v_7⟩ := tq_add (lo := 174) (hi := 306) rl_174 r_v_6 (by decide +kernel) e_v_7
  have t_v_7 : v_7.toInt = 174 + v_6.toInt := t_v_7
  refine lv_istore_n (lv' := [(3, .int v_7), (0, .ref p0), (1, .int p1), (2, .int p2)]) hx hb dX10_holds_7 rfl hl (by decide) rfl (fun ls hl => ?_)
  refine lv_aload_n hx hb dX10_holds_8 rfl (lv_at hl 1 rfl) ?_
  refine tg_get (ci := 10) (ts := ty_MODEL) (C := RX10) (T := TX10) (N := 49) hx hb hts inX10 hown hK hw h_p0 rfl rfl 14 (by decide) (hts _ tw_1151) (fun _ h9 => h9) (ft := vR 34) rfl dX10_holds_9 (fun u_8 hv_u_8 m_u_8 => ?_)
  obtain ⟨vu_8, rfl, h_vu_8⟩ := hv_u_8
  refine lv_iload_n hx hb dX10_holds_12 rfl (lv_at hl 0 rfl) ?_
  refine lv_iconst (v := 1) hx hb dX10_holds_13 (by decide) ?_
  refine lv_iadd hx hb dX10_holds_14 (lv_topi (fun v_9 e_v_9 => ?_))
  obtain ⟨t_v_9, r_v_9⟩ := tq_add (lo := 175) (hi := 307) r_v_7 rl_1 (by decide +kernel) e_v_9
  have t_v_9 : v_9.toInt = v_7.toInt + 1 := t_v_9
  refine tg_iald (lo := (-2147483648)) (hi := 2147483647) hx hb hK hw h_vu_8 rfl 175 307 r_v_9 (by decide) (by decide +kernel) dX10_holds_15 (fun v_10 r_v_10 m_v_10 o_v_10 => ?_)
  refine lv_istore (lv' := [(4, .int v_10), (3, .int v_7), (0, .ref p0), (1, .int p1), (2, .int p2)]) hx hb dX10_holds_16 hl (by decide) rfl (fun ls hl => ?_)
  refine lv_aload_n hx hb dX10_holds_18 rfl (lv_at hl 2 rfl) ?_
  refine tg_mem (ci := 10) (C := RX10) (T := TX10) (N := 49) hx hb hts inX10 hown hK hw 14 m_u_8 rfl (by decide) (hts _ tw_1151) (fun _ h9 => h9) dX10_holds_19 ?_
  refine lv_iload_n hx hb dX10_holds_22 rfl (lv_at hl 1 rfl) ?_
  refine lv_iconst (v := 2) hx hb dX10_holds_23 (by decide) ?_
  refine lv_iadd hx hb dX10_holds_24 (lv_topi (fun v_11 e_v_11 => ?_))
  obtain ⟨t_v_11, r_v_11⟩ := tq_add (lo := 176) (hi := 308) r_v_7 rl_2 (by decide +kernel) e_v_11
  have t_v_11 : v_11.toInt = v_7.toInt + 2 := t_v_11
  refine tg_iald (lo := (-2147483648)) (hi := 2147483647) hx hb hK hw h_vu_8 rfl 176 308 r_v_11 (by decide) (by decide +kernel) dX10_holds_25 (fun v_12 r_v_12 m_v_12 o_v_12 => ?_)
  refine lv_istore (lv' := [(5, .int v_12), (4, .int v_10), (3, .int v_7), (0, .ref p0), (1, .int p1), (2, .int p2)]) hx hb dX10_holds_26 hl (by decide) rfl (fun ls hl => ?_)
  refine lv_aload_n hx hb dX10_holds_28 rfl (lv_at hl 3 rfl) ?_
  refine tg_mem (ci := 10) (C := RX10) (T := TX10) (N := 49) hx hb hts inX10 hown hK hw 14 m_u_8 rfl (by decide) (hts _ tw_1151) (fun _ h9 => h9) dX10_holds_29 ?_
  refine lv_iload_n hx hb dX10_holds_32 rfl (lv_at hl 2 rfl) ?_
  refine tg_iald (lo := (-2147483648)) (hi := 2147483647) hx hb hK hw h_vu_8 rfl 174 306 r_v_7 (by decide) (by decide +kernel) dX10_holds_33 (fun v_13 r_v_13 m_v_13 o_v_13 => ?_)
  by_cases k_34_1 : v_13 = 1
  · refine lv_lookup (tgt := 108) (off := 74) hx hb dX10_holds_34 (by decide) (by rw [k_34_1]; decide) (by decide) ?_
    have r_v_13 : RI v_13 1 1 := by rw [k_34_1]; exact rl_1
    have g_v_10 : 0 ≤ v_10.toInt ∧ v_10.toInt < p1.toInt := by obtain ⟨_, f9, e8, e7, q9, _⟩ := ax_of (k := 14) (t := 34) hw h_p0 rfl (fun _ => rfl); cases FLD.inj hw.2.2.1 e8 m_u_8; have t9 := ARR.ael hw.2.2.1 e7 m_v_13; have x9 := ARR.ael hw.2.2.1 e7 m_v_10; rw [show Int32.toNatClampNeg v_7 = 174 + 4 * Int32.toNatClampNeg p1 from (by have k1 := r_v_7.cl (by decide); have k2 := r_p1.cl (by decide); omega)] at t9; rw [show Int32.toNatClampNeg v_9 = 175 + 4 * Int32.toNatClampNeg p1 from (by have k1 := r_v_9.cl (by decide); have k2 := r_p1.cl (by decide); omega)] at x9; exact RN_child q9 (r_p1.to (by decide)) t9 x9 (r_v_13.to (by decide))
    have r_v_10 : RI v_10 0 32 := ⟨g_v_10.1, by have k1 := r_p1.2; omega⟩
    refine lv_aload_n hx hb dX10_holds_108 rfl (lv_at hl 3 rfl) ?_
    refine lv_iload hx hb dX10_holds_109 (lv_at hl 1 rfl) ?_
    refine lv_iload_n hx hb dX10_holds_111 rfl (lv_at hl 5 rfl) ?_
    refine tk_ir (va_runV (As := [.int v_10, .int p2]) (rest := []) ⟨hx, hb, hml, hown, hts⟩ (c_X10_holds__27 l D cy z s.heap.size Ps w0 hw.1 p0 v_10 p2 h_p0 r_v_10 r_p2) (cwV 2 hts (gV tw_1787 tw_1789 ts_119 tw_15 tw_1790) rfl rfl rfl (by decide +kernel) ⟨Nat.le_of_ble_eq_true rfl, Nat.le_of_ble_eq_true rfl⟩) (tg_preV hw hK hSD hA (ci := 10) (q := (RX10, TX10, 49)) rfl h_p0 rfl) rfl rfl hl.1 rfl (lv_room (Nat.le_of_ble_eq_true rfl)) dX10_holds_112 ⟨Nat.le_of_ble_eq_true rfl, Nat.le_of_ble_eq_true rfl⟩) hw hA (fun v_14  H locs hp_v_14 hw => ?_)
    have r_v_14 : RI v_14 0 1 := hp_v_14.1
    refine lv_if_ne (tgt := 122) hx hb dX10_holds_115 (by decide) (fun c_115 => ?_) (fun c_115 => ?_)
    · have r_v_14 : RI v_14 1 1 := rc_neL r_v_14 rl_0 (ti_ne c_115) (by decide)
      refine lv_iconst (v := 0) hx hb dX10_holds_122 (by decide) ?_
      subst hQ
      exact W.zret (v := 0) hx hb hr (rfl) (fun t ht hW => ⟨⟨0, (), rfl, ⟨rl_0.to (by decide), (fun h0 => trivial), (fun _ => trivial)⟩, by rw [ht]; exact hw.2.1, va_K.moved hW.alike hK, hw.2.2.1⟩, hw.2.2.2.1.F ht⟩) hw.2.2.2.1.2.2 dX10_holds_123
    · have r_v_14 : RI v_14 0 0 := rc_eq1 r_v_14 rl_0 (ti_eq c_115) (by decide)
      refine lv_iconst (v := 1) hx hb dX10_holds_118 (by decide) ?_
      refine lv_goto (tgt := 123) hx hb dX10_holds_119 (by decide) ?_
      subst hQ
      exact W.zret (v := 1) hx hb hr (rfl) (fun t ht hW => ⟨⟨1, (), rfl, ⟨rl_1.to (by decide), (fun _ => trivial), (fun h0 => trivial)⟩, by rw [ht]; exact hw.2.1, va_K.moved hW.alike hK, hw.2.2.1⟩, hw.2.2.2.1.F ht⟩) hw.2.2.2.1.2.2 dX10_holds_123
  · by_cases k_34_2 : v_13 = 2
    · refine lv_lookup (tgt := 124) (off := 90) hx hb dX10_holds_34 (by decide) (by rw [k_34_2]; decide) (by decide) ?_
      have r_v_13 : RI v_13 2 2 := by rw [k_34_2]; exact rl_2
      have g_v_10 : 0 ≤ v_10.toInt ∧ v_10.toInt < p1.toInt := by obtain ⟨_, f9, e8, e7, q9, _⟩ := ax_of (k := 14) (t := 34) hw h_p0 rfl (fun _ => rfl); cases FLD.inj hw.2.2.1 e8 m_u_8; have t9 := ARR.ael hw.2.2.1 e7 m_v_13; have x9 := ARR.ael hw.2.2.1 e7 m_v_10; rw [show Int32.toNatClampNeg v_7 = 174 + 4 * Int32.toNatClampNeg p1 from (by have k1 := r_v_7.cl (by decide); have k2 := r_p1.cl (by decide); omega)] at t9; rw [show Int32.toNatClampNeg v_9 = 175 + 4 * Int32.toNatClampNeg p1 from (by have k1 := r_v_9.cl (by decide); have k2 := r_p1.cl (by decide); omega)] at x9; exact RN_child q9 (r_p1.to (by decide)) t9 x9 (r_v_13.to (by decide))
      have r_v_10 : RI v_10 0 32 := ⟨g_v_10.1, by have k1 := r_p1.2; omega⟩
      have g_v_12 : 0 ≤ v_12.toInt ∧ v_12.toInt < p1.toInt := by obtain ⟨_, f9, e8, e7, q9, _⟩ := ax_of (k := 14) (t := 34) hw h_p0 rfl (fun _ => rfl); cases FLD.inj hw.2.2.1 e8 m_u_8; have t9 := ARR.ael hw.2.2.1 e7 m_v_13; have x9 := ARR.ael hw.2.2.1 e7 m_v_12; rw [show Int32.toNatClampNeg v_7 = 174 + 4 * Int32.toNatClampNeg p1 from (by have k1 := r_v_7.cl (by decide); have k2 := r_p1.cl (by decide); omega)] at t9; rw [show Int32.toNatClampNeg v_11 = 176 + 4 * Int32.toNatClampNeg p1 from (by have k1 := r_v_11.cl (by decide); have k2 := r_p1.cl (by decide); omega)] at x9; exact RN_child2 q9 (r_p1.to (by decide)) t9 x9 (r_v_13.to (by decide))
      have r_v_12 : RI v_12 0 32 := ⟨g_v_12.1, by have k1 := r_p1.2; omega⟩
      refine lv_aload_n hx hb dX10_holds_124 rfl (lv_at hl 3 rfl) ?_
      refine lv_iload hx hb dX10_holds_125 (lv_at hl 1 rfl) ?_
      refine lv_iload_n hx hb dX10_holds_127 rfl (lv_at hl 5 rfl) ?_
      refine tk_ir (va_runV (As := [.int v_10, .int p2]) (rest := []) ⟨hx, hb, hml, hown, hts⟩ (c_X10_holds__27 l D cy z s.heap.size Ps w0 hw.1 p0 v_10 p2 h_p0 r_v_10 r_p2) (cwV 2 hts (gV tw_1787 tw_1789 ts_119 tw_15 tw_1790) rfl rfl rfl (by decide +kernel) ⟨Nat.le_of_ble_eq_true rfl, Nat.le_of_ble_eq_true rfl⟩) (tg_preV hw hK hSD hA (ci := 10) (q := (RX10, TX10, 49)) rfl h_p0 rfl) rfl rfl hl.1 rfl (lv_room (Nat.le_of_ble_eq_true rfl)) dX10_holds_128 ⟨Nat.le_of_ble_eq_true rfl, Nat.le_of_ble_eq_true rfl⟩) hw hA (fun v_15  H locs hp_v_15 hw => ?_)
      have r_v_15 : RI v_15 0 1 := hp_v_15.1
      refine lv_if_eq (tgt := 148) hx hb dX10_holds_131 (by decide) (fun c_131 => ?_) (fun c_131 => ?_)
      · have r_v_15 : RI v_15 0 0 := rc_eq1 r_v_15 rl_0 (ti_eq c_131) (by decide)
        refine lv_iconst (v := 0) hx hb dX10_holds_148 (by decide) ?_
        subst hQ
        exact W.zret (v := 0) hx hb hr (rfl) (fun t ht hW => ⟨⟨0, (), rfl, ⟨rl_0.to (by decide), (fun h0 => trivial), (fun _ => trivial)⟩, by rw [ht]; exact hw.2.1, va_K.moved hW.alike hK, hw.2.2.1⟩, hw.2.2.2.1.F ht⟩) hw.2.2.2.1.2.2 dX10_holds_149
      · have r_v_15 : RI v_15 1 1 := rc_neL r_v_15 rl_0 (ti_ne c_131) (by decide)
        refine lv_aload_n hx hb dX10_holds_134 rfl (lv_at hl 3 rfl) ?_
        refine lv_iload hx hb dX10_holds_135 (lv_at hl 0 rfl) ?_
        refine lv_iload_n hx hb dX10_holds_137 rfl (lv_at hl 5 rfl) ?_
        refine tk_ir (va_runV (As := [.int v_12, .int p2]) (rest := []) ⟨hx, hb, hml, hown, hts⟩ (c_X10_holds__27 l D cy z H.size Ps w0 hw.1 p0 v_12 p2 h_p0 r_v_12 r_p2) (cwV 2 hts (gV tw_1787 tw_1789 ts_119 tw_15 tw_1790) rfl rfl rfl (by decide +kernel) ⟨Nat.le_of_ble_eq_true rfl, Nat.le_of_ble_eq_true rfl⟩) (tg_preV hw hK hSD hA (ci := 10) (q := (RX10, TX10, 49)) rfl h_p0 rfl) rfl rfl hl.1 rfl (lv_room (Nat.le_of_ble_eq_true rfl)) dX10_holds_138 ⟨Nat.le_of_ble_eq_true rfl, Nat.le_of_ble_eq_true rfl⟩) hw hA (fun v_16  H locs hp_v_16 hw => ?_)
        have r_v_16 : RI v_16 0 1 := hp_v_16.1
        refine lv_if_eq (tgt := 148) hx hb dX10_holds_141 (by decide) (fun c_141 => ?_) (fun c_141 => ?_)
        · have r_v_16 : RI v_16 0 0 := rc_eq1 r_v_16 rl_0 (ti_eq c_141) (by decide)
          refine lv_iconst (v := 0) hx hb dX10_holds_148 (by decide) ?_
          subst hQ
          exact W.zret (v := 0) hx hb hr (rfl) (fun t ht hW => ⟨⟨0, (), rfl, ⟨rl_0.to (by decide), (fun h0 => trivial), (fun _ => trivial)⟩, by rw [ht]; exact hw.2.1, va_K.moved hW.alike hK, hw.2.2.1⟩, hw.2.2.2.1.F ht⟩) hw.2.2.2.1.2.2 dX10_holds_149
        · have r_v_16 : RI v_16 1 1 := rc_neL r_v_16 rl_0 (ti_ne c_141) (by decide)
          refine lv_iconst (v := 1) hx hb dX10_holds_144 (by decide) ?_
          refine lv_goto (tgt := 149) hx hb dX10_holds_145 (by decide) ?_
          subst hQ
          exact W.zret (v := 1) hx hb hr (rfl) (fun t ht hW => ⟨⟨1, (), rfl, ⟨rl_1.to (by decide), (fun _ => trivial), (fun h0 => trivial)⟩, by rw [ht]; exact hw.2.1, va_K.moved hW.alike hK, hw.2.2.1⟩, hw.2.2.2.1.F ht⟩) hw.2.2.2.1.2.2 dX10_holds_149
    · by_cases k_34_3 : v_13 = 3
      · refine lv_lookup (tgt := 150) (off := 116) hx hb dX10_holds_34 (by decide) (by rw [k_34_3]; decide) (by decide) ?_
        have r_v_13 : RI v_13 3 3 := by rw [k_34_3]; exact rl_3
        have g_v_10 : 0 ≤ v_10.toInt ∧ v_10.toInt < p1.toInt := by obtain ⟨_, f9, e8, e7, q9, _⟩ := ax_of (k := 14) (t := 34) hw h_p0 rfl (fun _ => rfl); cases FLD.inj hw.2.2.1 e8 m_u_8; have t9 := ARR.ael hw.2.2.1 e7 m_v_13; have x9 := ARR.ael hw.2.2.1 e7 m_v_10; rw [show Int32.toNatClampNeg v_7 = 174 + 4 * Int32.toNatClampNeg p1 from (by have k1 := r_v_7.cl (by decide); have k2 := r_p1.cl (by decide); omega)] at t9; rw [show Int32.toNatClampNeg v_9 = 175 + 4 * Int32.toNatClampNeg p1 from (by have k1 := r_v_9.cl (by decide); have k2 := r_p1.cl (by decide); omega)] at x9; exact RN_child q9 (r_p1.to (by decide)) t9 x9 (r_v_13.to (by decide))
        have r_v_10 : RI v_10 0 32 := ⟨g_v_10.1, by have k1 := r_p1.2; omega⟩
        have g_v_12 : 0 ≤ v_12.toInt ∧ v_12.toInt < p1.toInt := by obtain ⟨_, f9, e8, e7, q9, _⟩ := ax_of (k := 14) (t := 34) hw h_p0 rfl (fun _ => rfl); cases FLD.inj hw.2.2.1 e8 m_u_8; have t9 := ARR.ael hw.2.2.1 e7 m_v_13; have x9 := ARR.ael hw.2.2.1 e7 m_v_12; rw [show Int32.toNatClampNeg v_7 = 174 + 4 * Int32.toNatClampNeg p1 from (by have k1 := r_v_7.cl (by decide); have k2 := r_p1.cl (by decide); omega)] at t9; rw [show Int32.toNatClampNeg v_11 = 176 + 4 * Int32.toNatClampNeg p1 from (by have k1 := r_v_11.cl (by decide); have k2 := r_p1.cl (by decide); omega)] at x9; exact RN_child2 q9 (r_p1.to (by decide)) t9 x9 (r_v_13.to (by decide))
        have r_v_12 : RI v_12 0 32 := ⟨g_v_12.1, by have k1 := r_p1.2; omega⟩
        refine lv_aload_n hx hb dX10_holds_150 rfl (lv_at hl 3 rfl) ?_
        refine lv_iload hx hb dX10_holds_151 (lv_at hl 1 rfl) ?_
        refine lv_iload_n hx hb dX10_holds_153 rfl (lv_at hl 5 rfl) ?_
        refine tk_ir (va_runV (As := [.int v_10, .int p2]) (rest := []) ⟨hx, hb, hml, hown, hts⟩ (c_X10_holds__27 l D cy z s.heap.size Ps w0 hw.1 p0 v_10 p2 h_p0 r_v_10 r_p2) (cwV 2 hts (gV tw_1787 tw_1789 ts_119 tw_15 tw_1790) rfl rfl rfl (by decide +kernel) ⟨Nat.le_of_ble_eq_true rfl, Nat.le_of_ble_eq_true rfl⟩) (tg_preV hw hK hSD hA (ci := 10) (q := (RX10, TX10, 49)) rfl h_p0 rfl) rfl rfl hl.1 rfl (lv_room (Nat.le_of_ble_eq_true rfl)) dX10_holds_154 ⟨Nat.le_of_ble_eq_true rfl, Nat.le_of_ble_eq_true rfl⟩) hw hA (fun v_17  H locs hp_v_17 hw => ?_)
        have r_v_17 : RI v_17 0 1 := hp_v_17.1
        refine lv_if_ne (tgt := 170) hx hb dX10_holds_157 (by decide) (fun c_157 => ?_) (fun c_157 => ?_)
        · have r_v_17 : RI v_17 1 1 := rc_neL r_v_17 rl_0 (ti_ne c_157) (by decide)
          refine lv_iconst (v := 1) hx hb dX10_holds_170 (by decide) ?_
          refine lv_goto (tgt := 175) hx hb dX10_holds_171 (by decide) ?_
          subst hQ
          exact W.zret (v := 1) hx hb hr (rfl) (fun t ht hW => ⟨⟨1, (), rfl, ⟨rl_1.to (by decide), (fun _ => trivial), (fun h0 => trivial)⟩, by rw [ht]; exact hw.2.1, va_K.moved hW.alike hK, hw.2.2.1⟩, hw.2.2.2.1.F ht⟩) hw.2.2.2.1.2.2 dX10_holds_175
        · have r_v_17 : RI v_17 0 0 := rc_eq1 r_v_17 rl_0 (ti_eq c_157) (by decide)
          refine lv_aload_n hx hb dX10_holds_160 rfl (lv_at hl 3 rfl) ?_
          refine lv_iload hx hb dX10_holds_161 (lv_at hl 0 rfl) ?_
          refine lv_iload_n hx hb dX10_holds_163 rfl (lv_at hl 5 rfl) ?_
          refine tk_ir (va_runV (As := [.int v_12, .int p2]) (rest := []) ⟨hx, hb, hml, hown, hts⟩ (c_X10_holds__27 l D cy z H.size Ps w0 hw.1 p0 v_12 p2 h_p0 r_v_12 r_p2) (cwV 2 hts (gV tw_1787 tw_1789 ts_119 tw_15 tw_1790) rfl rfl rfl (by decide +kernel) ⟨Nat.le_of_ble_eq_true rfl, Nat.le_of_ble_eq_true rfl⟩) (tg_preV hw hK hSD hA (ci := 10) (q := (RX10, TX10, 49)) rfl h_p0 rfl) rfl rfl hl.1 rfl (lv_room (Nat.le_of_ble_eq_true rfl)) dX10_holds_164 ⟨Nat.le_of_ble_eq_true rfl, Nat.le_of_ble_eq_true rfl⟩) hw hA (fun v_18  H locs hp_v_18 hw => ?_)
          have r_v_18 : RI v_18 0 1 := hp_v_18.1
          refine lv_if_eq (tgt := 174) hx hb dX10_holds_167 (by decide) (fun c_167 => ?_) (fun c_167 => ?_)
          · have r_v_18 : RI v_18 0 0 := rc_eq1 r_v_18 rl_0 (ti_eq c_167) (by decide)
            refine lv_iconst (v := 0) hx hb dX10_holds_174 (by decide) ?_
            subst hQ
            exact W.zret (v := 0) hx hb hr (rfl) (fun t ht hW => ⟨⟨0, (), rfl, ⟨rl_0.to (by decide), (fun h0 => trivial), (fun _ => trivial)⟩, by rw [ht]; exact hw.2.1, va_K.moved hW.alike hK, hw.2.2.1⟩, hw.2.2.2.1.F ht⟩) hw.2.2.2.1.2.2 dX10_holds_175
          · have r_v_18 : RI v_18 1 1 := rc_neL r_v_18 rl_0 (ti_ne c_167) (by decide)
            refine lv_iconst (v := 1) hx hb dX10_holds_170 (by decide) ?_
            refine lv_goto (tgt := 175) hx hb dX10_holds_171 (by decide) ?_
            subst hQ
            exact W.zret (v := 1) hx hb hr (rfl) (fun t ht hW => ⟨⟨1, (), rfl, ⟨rl_1.to (by decide), (fun _ => trivial), (fun h0 => trivial)⟩, by rw [ht]; exact hw.2.1, va_K.moved hW.alike hK, hw.2.2.1⟩, hw.2.2.2.1.F ht⟩) hw.2.2.2.1.2.2 dX10_holds_175
      · by_cases k_34_69 : v_13 = 69
        · refine lv_lookup (tgt := 176) (off := 142) hx hb dX10_holds_34 (by decide) (by rw [k_34_69]; decide) (by decide) ?_
          have r_v_13 : RI v_13 69 69 := by rw [k_34_69]; exact rl_69
          refine lv_aload_n hx hb dX10_holds_176 rfl (lv_at hl 3 rfl) ?_
          refine lv_iload_n hx hb dX10_holds_177 rfl (lv_at hl 5 rfl) ?_
          refine tk_ir (va_runV (As := [.int p2]) (rest := []) ⟨hx, hb, hml, hown, hts⟩ (c_X10_isOpen l D cy z s.heap.size Ps w0 hw.1 p0 p2 h_p0 (r_p2.to (by decide))) (cwV 1 hts (gV tw_1457 tw_1459 ts_71 tw_15 tw_1460) rfl rfl rfl (by decide +kernel) ⟨Nat.le_of_ble_eq_true rfl, Nat.le_of_ble_eq_true rfl⟩) (tg_preV hw hK hSD hA (ci := 10) (q := (RX10, TX10, 49)) rfl h_p0 rfl) rfl rfl hl.1 rfl (lv_room (Nat.le_of_ble_eq_true rfl)) dX10_holds_178 ⟨Nat.le_of_ble_eq_true rfl, Nat.le_of_ble_eq_true rfl⟩) hw hA (fun v_19  H locs hp_v_19 hw => ?_)
          have r_v_19 : RI v_19 0 1 := hp_v_19.1
          subst hQ
          exact W.zret (v := v_19) hx hb hr (tq_nz (r_v_19.to (by decide))) (fun t ht hW => ⟨⟨v_19, (), rfl, ⟨r_v_19.to (by decide), (fun h0 => trivial), (fun h0 => trivial)⟩, by rw [ht]; exact hw.2.1, va_K.moved hW.alike hK, hw.2.2.1⟩, hw.2.2.2.1.F ht⟩) hw.2.2.2.1.2.2 dX10_holds_181
        · by_cases k_34_70 : v_13 = 70
          · refine lv_lookup (tgt := 182) (off := 148) hx hb dX10_holds_34 (by decide) (by rw [k_34_70]; decide) (by decide) ?_
            have r_v_13 : RI v_13 70 70 := by rw [k_34_70]; exact rl_70
            refine lv_aload_n hx hb dX10_holds_182 rfl (lv_at hl 3 rfl) ?_
            refine lv_iload_n hx hb dX10_holds_183 rfl (lv_at hl 5 rfl) ?_
            refine tk_ir (va_runV (As := [.int p2]) (rest := []) ⟨hx, hb, hml, hown, hts⟩ (c_X10_whatIs l D cy z s.heap.size Ps w0 hw.1 p0 p2 h_p0 r_p2) (cwV 1 hts (gV tw_1449 tw_1451 ts_69 tw_15 tw_1452) rfl rfl rfl (by decide +kernel) ⟨Nat.le_of_ble_eq_true rfl, Nat.le_of_ble_eq_true rfl⟩) (tg_preV hw hK hSD hA (ci := 10) (q := (RX10, TX10, 49)) rfl h_p0 rfl) rfl rfl hl.1 rfl (lv_room (Nat.le_of_ble_eq_true rfl)) dX10_holds_184 ⟨Nat.le_of_ble_eq_true rfl, Nat.le_of_ble_eq_true rfl⟩) hw hA (fun v_20  H locs hp_v_20 hw => ?_)
            have r_v_20 : RI v_20 (-1) 5 := hp_v_20.1
            by_cases c9_v_20 : v_20.toInt < 0
            · have r_v_20 : RI v_20 (-1) (-1) := by unfold RI at r_v_20 ⊢; omega
              have x_NB_p0_p2 := (hp_v_20.2.2.2.2.1 (by omega)).1
              refine lv_iconst (v := (-1)) hx hb dX10_holds_187 (by decide) ?_
              refine lv_icmp_ne (tgt := 195) hx hb dX10_holds_188 (by decide) (fun c_188 => ?_) (fun c_188 => ?_)
              · exact absurd (r_v_20.eq.trans rl_m1.eq.symm) ((ti_ne c_188))
              · refine lv_iconst (v := 1) hx hb dX10_holds_191 (by decide) ?_
                refine lv_goto (tgt := 196) hx hb dX10_holds_192 (by decide) ?_
                subst hQ
                exact W.zret (v := 1) hx hb hr (rfl) (fun t ht hW => ⟨⟨1, (), rfl, ⟨rl_1.to (by decide), (fun _ => trivial), (fun h0 => trivial)⟩, by rw [ht]; exact hw.2.1, va_K.moved hW.alike hK, hw.2.2.1⟩, hw.2.2.2.1.F ht⟩) hw.2.2.2.1.2.2 dX10_holds_196
            · have r_v_20 : RI v_20 0 5 := by unfold RI at r_v_20 ⊢; omega
              have x_WB_p0_p2_v_20 := (hp_v_20.2.2.2.2.2 (by omega)).1
              refine lv_iconst (v := (-1)) hx hb dX10_holds_187 (by decide) ?_
              refine lv_icmp_ne (tgt := 195) hx hb dX10_holds_188 (by decide) (fun c_188 => ?_) (fun c_188 => ?_)
              · refine lv_iconst (v := 0) hx hb dX10_holds_195 (by decide) ?_
                subst hQ
                exact W.zret (v := 0) hx hb hr (rfl) (fun t ht hW => ⟨⟨0, (), rfl, ⟨rl_0.to (by decide), (fun h0 => trivial), (fun _ => trivial)⟩, by rw [ht]; exact hw.2.1, va_K.moved hW.alike hK, hw.2.2.1⟩, hw.2.2.2.1.F ht⟩) hw.2.2.2.1.2.2 dX10_holds_196
              · have r_v_20 : RI v_20 0 (-1) := rc_eq1 r_v_20 rl_m1 (ti_eq c_188) (by decide)
                exact (r_v_20.no (by decide)).elim
          · by_cases k_34_71 : v_13 = 71
            · refine lv_lookup (tgt := 197) (off := 163) hx hb dX10_holds_34 (by decide) (by rw [k_34_71]; decide) (by decide) ?_
              have r_v_13 : RI v_13 71 71 := by rw [k_34_71]; exact rl_71
              refine lv_aload_n hx hb dX10_holds_197 rfl (lv_at hl 3 rfl) ?_
              refine lv_iload_n hx hb dX10_holds_198 rfl (lv_at hl 5 rfl) ?_
              refine tk_ir (va_runV (As := [.int p2]) (rest := []) ⟨hx, hb, hml, hown, hts⟩ (c_X10_sittersOf l D cy z s.heap.size Ps w0 hw.1 p0 p2 h_p0 (r_p2.to (by decide))) (cwV 1 hts (gV tw_1461 tw_1463 ts_72 tw_15 tw_1464) rfl rfl rfl (by decide +kernel) ⟨Nat.le_of_ble_eq_true rfl, Nat.le_of_ble_eq_true rfl⟩) (tg_preV hw hK hSD hA (ci := 10) (q := (RX10, TX10, 49)) rfl h_p0 rfl) rfl rfl hl.1 rfl (lv_room (Nat.le_of_ble_eq_true rfl)) dX10_holds_199 ⟨Nat.le_of_ble_eq_true rfl, Nat.le_of_ble_eq_true rfl⟩) hw hA (fun v_21  H locs hp_v_21 hw => ?_)
              have r_v_21 : RI v_21 (-2147483648) 2147483647 := hp_v_21.1
              refine lv_if_eq (tgt := 209) hx hb dX10_holds_202 (by decide) (fun c_202 => ?_) (fun c_202 => ?_)
              · have r_v_21 : RI v_21 0 0 := rc_eq1 r_v_21 rl_0 (ti_eq c_202) (by decide)
                refine lv_iconst (v := 0) hx hb dX10_holds_209 (by decide) ?_
                subst hQ
                exact W.zret (v := 0) hx hb hr (rfl) (fun t ht hW => ⟨⟨0, (), rfl, ⟨rl_0.to (by decide), (fun h0 => trivial), (fun _ => trivial)⟩, by rw [ht]; exact hw.2.1, va_K.moved hW.alike hK, hw.2.2.1⟩, hw.2.2.2.1.F ht⟩) hw.2.2.2.1.2.2 dX10_holds_210
              · refine lv_iconst (v := 1) hx hb dX10_holds_205 (by decide) ?_
                refine lv_goto (tgt := 210) hx hb dX10_holds_206 (by decide) ?_
                subst hQ
                exact W.zret (v := 1) hx hb hr (rfl) (fun t ht hW => ⟨⟨1, (), rfl, ⟨rl_1.to (by decide), (fun _ => trivial), (fun h0 => trivial)⟩, by rw [ht]; exact hw.2.1, va_K.moved hW.alike hK, hw.2.2.1⟩, hw.2.2.2.1.F ht⟩) hw.2.2.2.1.2.2 dX10_holds_210
            · by_cases k_34_72 : v_13 = 72
              · refine lv_lookup (tgt := 211) (off := 177) hx hb dX10_holds_34 (by decide) (by rw [k_34_72]; decide) (by decide) ?_
                have r_v_13 : RI v_13 72 72 := by rw [k_34_72]; exact rl_72
                refine lv_aload_n hx hb dX10_holds_211 rfl (lv_at hl 3 rfl) ?_
                refine lv_iload_n hx hb dX10_holds_212 rfl (lv_at hl 5 rfl) ?_
                refine tk_ir (va_runV (As := [.int p2]) (rest := []) ⟨hx, hb, hml, hown, hts⟩ (c_X10_whatIs l D cy z s.heap.size Ps w0 hw.1 p0 p2 h_p0 r_p2) (cwV 1 hts (gV tw_1449 tw_1451 ts_69 tw_15 tw_1452) rfl rfl rfl (by decide +kernel) ⟨Nat.le_of_ble_eq_true rfl, Nat.le_of_ble_eq_true rfl⟩) (tg_preV hw hK hSD hA (ci := 10) (q := (RX10, TX10, 49)) rfl h_p0 rfl) rfl rfl hl.1 rfl (lv_room (Nat.le_of_ble_eq_true rfl)) dX10_holds_213 ⟨Nat.le_of_ble_eq_true rfl, Nat.le_of_ble_eq_true rfl⟩) hw hA (fun v_22  H locs hp_v_22 hw => ?_)
                have r_v_22 : RI v_22 (-1) 5 := hp_v_22.1
                by_cases c9_v_22 : v_22.toInt < 0
                · have r_v_22 : RI v_22 (-1) (-1) := by unfold RI at r_v_22 ⊢; omega
                  have x_NB_p0_p2 := (hp_v_22.2.2.2.2.1 (by omega)).1
                  refine lv_iload hx hb dX10_holds_216 (lv_at hl 1 rfl) ?_
                  refine lv_icmp_ne (tgt := 225) hx hb dX10_holds_218 (by decide) (fun c_218 => ?_) (fun c_218 => ?_)
                  · refine lv_iconst (v := 0) hx hb dX10_holds_225 (by decide) ?_
                    subst hQ
                    exact W.zret (v := 0) hx hb hr (rfl) (fun t ht hW => ⟨⟨0, (), rfl, ⟨rl_0.to (by decide), (fun h0 => trivial), (fun _ => trivial)⟩, by rw [ht]; exact hw.2.1, va_K.moved hW.alike hK, hw.2.2.1⟩, hw.2.2.2.1.F ht⟩) hw.2.2.2.1.2.2 dX10_holds_226
                  · have r_v_10 : RI v_10 (-1) (-1) := rc_eq2 r_v_22 r_v_10 (ti_eq c_218) (by decide)
                    refine lv_iconst (v := 1) hx hb dX10_holds_221 (by decide) ?_
                    refine lv_goto (tgt := 226) hx hb dX10_holds_222 (by decide) ?_
                    subst hQ
                    exact W.zret (v := 1) hx hb hr (rfl) (fun t ht hW => ⟨⟨1, (), rfl, ⟨rl_1.to (by decide), (fun _ => trivial), (fun h0 => trivial)⟩, by rw [ht]; exact hw.2.1, va_K.moved hW.alike hK, hw.2.2.1⟩, hw.2.2.2.1.F ht⟩) hw.2.2.2.1.2.2 dX10_holds_226
                · have r_v_22 : RI v_22 0 5 := by unfold RI at r_v_22 ⊢; omega
                  have x_WB_p0_p2_v_22 := (hp_v_22.2.2.2.2.2 (by omega)).1
                  refine lv_iload hx hb dX10_holds_216 (lv_at hl 1 rfl) ?_
                  refine lv_icmp_ne (tgt := 225) hx hb dX10_holds_218 (by decide) (fun c_218 => ?_) (fun c_218 => ?_)
                  · refine lv_iconst (v := 0) hx hb dX10_holds_225 (by decide) ?_
                    subst hQ
                    exact W.zret (v := 0) hx hb hr (rfl) (fun t ht hW => ⟨⟨0, (), rfl, ⟨rl_0.to (by decide), (fun h0 => trivial), (fun _ => trivial)⟩, by rw [ht]; exact hw.2.1, va_K.moved hW.alike hK, hw.2.2.1⟩, hw.2.2.2.1.F ht⟩) hw.2.2.2.1.2.2 dX10_holds_226
                  · have r_v_10 : RI v_10 0 5 := rc_eq2 r_v_22 r_v_10 (ti_eq c_218) (by decide)
                    refine lv_iconst (v := 1) hx hb dX10_holds_221 (by decide) ?_
                    refine lv_goto (tgt := 226) hx hb dX10_holds_222 (by decide) ?_
                    subst hQ
                    exact W.zret (v := 1) hx hb hr (rfl) (fun t ht hW => ⟨⟨1, (), rfl, ⟨rl_1.to (by decide), (fun _ => trivial), (fun h0 => trivial)⟩, by rw [ht]; exact hw.2.1, va_K.moved hW.alike hK, hw.2.2.1⟩, hw.2.2.2.1.F ht⟩) hw.2.2.2.1.2.2 dX10_holds_226
              · by_cases k_34_73 : v_13 = 73
                · refine lv_lookup (tgt := 227) (off := 193) hx hb dX10_holds_34 (by decide) (by rw [k_34_73]; decide) (by decide) ?_
                  have r_v_13 : RI v_13 73 73 := by rw [k_34_73]; exact rl_73
                  refine lv_aload_n hx hb dX10_holds_227 rfl (lv_at hl 3 rfl) ?_
                  refine tg_mem (ci := 10) (C := RX10) (T := TX10) (N := 49) hx hb hts inX10 hown hK hw 14 m_u_8 rfl (by decide) (hts _ tw_1151) (fun _ h9 => h9) dX10_holds_228 ?_
                  refine lv_bipush (v := 86) hx hb dX10_holds_231 (by decide) ?_
                  refine lv_iload_n hx hb dX10_holds_233 rfl (lv_at hl 5 rfl) ?_
                  refine lv_iadd hx hb dX10_holds_234 (lv_topi (fun v_23 e_v_23 => ?_))
                  obtain ⟨t_v_23, r_v_23⟩ := tq_add (lo := 86) (hi := 91) rl_86 r_p2 (by decide +kernel) e_v_23
                  have t_v_23 : v_23.toInt = 86 + p2.toInt := t_v_23
                  refine tg_iald (lo := (-2147483648)) (hi := 2147483647) hx hb hK hw h_vu_8 rfl 86 91 r_v_23 (by decide) (by decide +kernel) dX10_holds_235 (fun v_24 r_v_24 m_v_24 o_v_24 => ?_)
                  refine lv_iload hx hb dX10_holds_236 (lv_at hl 1 rfl) ?_
                  refine lv_icmp_ne (tgt := 245) hx hb dX10_holds_238 (by decide) (fun c_238 => ?_) (fun c_238 => ?_)
                  · refine lv_iconst (v := 0) hx hb dX10_holds_245 (by decide) ?_
                    subst hQ
                    exact W.zret (v := 0) hx hb hr (rfl) (fun t ht hW => ⟨⟨0, (), rfl, ⟨rl_0.to (by decide), (fun h0 => trivial), (fun _ => trivial)⟩, by rw [ht]; exact hw.2.1, va_K.moved hW.alike hK, hw.2.2.1⟩, hw.2.2.2.1.F ht⟩) hw.2.2.2.1.2.2 dX10_holds_246
                  · refine lv_iconst (v := 1) hx hb dX10_holds_241 (by decide) ?_
                    refine lv_goto (tgt := 246) hx hb dX10_holds_242 (by decide) ?_
                    subst hQ
                    exact W.zret (v := 1) hx hb hr (rfl) (fun t ht hW => ⟨⟨1, (), rfl, ⟨rl_1.to (by decide), (fun _ => trivial), (fun h0 => trivial)⟩, by rw [ht]; exact hw.2.1, va_K.moved hW.alike hK, hw.2.2.1⟩, hw.2.2.2.1.F ht⟩) hw.2.2.2.1.2.2 dX10_holds_246
                · refine lv_lookup (tgt := 247) (off := 213) hx hb dX10_holds_34 (by decide) ((lv_osw k_34_1 (by decide)).trans ((lv_osw k_34_2 (by decide)).trans ((lv_osw k_34_3 (by decide)).trans ((lv_osw k_34_69 (by decide)).trans ((lv_osw k_34_70 (by decide)).trans ((lv_osw k_34_71 (by decide)).trans ((lv_osw k_34_72 (by decide)).trans ((lv_osw k_34_73 (by decide)).trans (rfl))))))))) (by decide) ?_
                  refine lv_aload_n hx hb dX10_holds_247 rfl (lv_at hl 3 rfl) ?_
                  refine tg_mem (ci := 10) (C := RX10) (T := TX10) (N := 49) hx hb hts inX10 hown hK hw 14 m_u_8 rfl (by decide) (hts _ tw_1151) (fun _ h9 => h9) dX10_holds_248 ?_
                  refine lv_iload_n hx hb dX10_holds_251 rfl (lv_at hl 2 rfl) ?_
                  refine tg_imem hx hb hK hw h_vu_8 rfl r_v_7 (by decide) m_v_13 dX10_holds_252 ?_
                  refine lv_bipush (v := 50) hx hb dX10_holds_253 (by decide) ?_
                  refine lv_isub hx hb dX10_holds_255 (lv_topi (fun v_26 e_v_26 => ?_))
                  have r_v_26 := ri_any v_26
                  refine lv_istore (lv' := [(6, .int v_26), (5, .int v_12), (4, .int v_10), (3, .int v_7), (0, .ref p0), (1, .int p1), (2, .int p2)]) hx hb dX10_holds_256 hl (by decide) rfl (fun ls hl => ?_)
                  refine lv_iload hx hb dX10_holds_258 (lv_at hl 0 rfl) ?_
                  refine lv_bipush (v := 24) hx hb dX10_holds_260 (by decide) ?_
                  refine lv_icmp_ne (tgt := 273) hx hb dX10_holds_262 (by decide) (fun c_262 => ?_) (fun c_262 => ?_)
                  · refine lv_iload hx hb dX10_holds_273 (lv_at hl 0 rfl) ?_
                    refine lv_bipush (v := 25) hx hb dX10_holds_275 (by decide) ?_
                    refine lv_icmp_ne (tgt := 292) hx hb dX10_holds_277 (by decide) (fun c_277 => ?_) (fun c_277 => ?_)
                    · refine lv_iload hx hb dX10_holds_292 (lv_at hl 0 rfl) ?_
                      refine lv_bipush (v := 26) hx hb dX10_holds_294 (by decide) ?_
                      refine lv_icmp_ne (tgt := 311) hx hb dX10_holds_296 (by decide) (fun c_296 => ?_) (fun c_296 => ?_)
                      · refine lv_iload_n hx hb dX10_holds_311 rfl (lv_at hl 6 rfl) ?_
                        exact B312 v_7 v_10 v_12 v_26 p2 _ _ ls r_p1 r_p2 r_v_7 r_v_10 r_v_12 r_v_26 (r_p2.to (by decide)) hw (lv_sub hl [4, 5, 6, 3, 2, 1, 0] rfl)
                      · have r_v_26 : RI v_26 26 26 := rc_eq1 r_v_26 rl_26 (ti_eq c_296) (by decide)
                        refine lv_aload_n hx hb dX10_holds_299 rfl (lv_at hl 4 rfl) ?_
                        refine tg_mem (ci := 10) (C := RX10) (T := TX10) (N := 49) hx hb hts inX10 hown hK hw 14 m_u_8 rfl (by decide) (hts _ tw_1151) (fun _ h9 => h9) dX10_holds_300 ?_
                        refine lv_bipush (v := 98) hx hb dX10_holds_303 (by decide) ?_
                        refine lv_iload_n hx hb dX10_holds_305 rfl (lv_at hl 6 rfl) ?_
                        refine lv_iadd hx hb dX10_holds_306 (lv_topi (fun v_27 e_v_27 => ?_))
                        obtain ⟨t_v_27, r_v_27⟩ := tq_add (lo := 98) (hi := 103) rl_98 r_p2 (by decide +kernel) e_v_27
                        have t_v_27 : v_27.toInt = 98 + p2.toInt := t_v_27
                        refine tg_iald (lo := (-2147483648)) (hi := 2147483647) hx hb hK hw h_vu_8 rfl 98 103 r_v_27 (by decide) (by decide +kernel) dX10_holds_307 (fun v_28 r_v_28 m_v_28 o_v_28 => ?_)
                        refine lv_goto (tgt := 312) hx hb dX10_holds_308 (by decide) ?_
                        exact B312 v_7 v_10 v_12 v_26 v_28 _ _ ls r_p1 r_p2 r_v_7 r_v_10 r_v_12 (r_v_26.to (by decide)) r_v_28 hw (lv_sub hl [4, 5, 6, 3, 2, 1, 0] rfl)
                    · have r_v_26 : RI v_26 25 25 := rc_eq1 r_v_26 rl_25 (ti_eq c_277) (by decide)
                      refine lv_aload_n hx hb dX10_holds_280 rfl (lv_at hl 4 rfl) ?_
                      refine tg_mem (ci := 10) (C := RX10) (T := TX10) (N := 49) hx hb hts inX10 hown hK hw 14 m_u_8 rfl (by decide) (hts _ tw_1151) (fun _ h9 => h9) dX10_holds_281 ?_
                      refine lv_bipush (v := 92) hx hb dX10_holds_284 (by decide) ?_
                      refine lv_iload_n hx hb dX10_holds_286 rfl (lv_at hl 6 rfl) ?_
                      refine lv_iadd hx hb dX10_holds_287 (lv_topi (fun v_29 e_v_29 => ?_))
                      obtain ⟨t_v_29, r_v_29⟩ := tq_add (lo := 92) (hi := 97) rl_92 r_p2 (by decide +kernel) e_v_29
                      have t_v_29 : v_29.toInt = 92 + p2.toInt := t_v_29
                      refine tg_iald (lo := (-2147483648)) (hi := 2147483647) hx hb hK hw h_vu_8 rfl 92 97 r_v_29 (by decide) (by decide +kernel) dX10_holds_288 (fun v_30 r_v_30 m_v_30 o_v_30 => ?_)
                      refine lv_goto (tgt := 312) hx hb dX10_holds_289 (by decide) ?_
                      exact B312 v_7 v_10 v_12 v_26 v_30 _ _ ls r_p1 r_p2 r_v_7 r_v_10 r_v_12 (r_v_26.to (by decide)) r_v_30 hw (lv_sub hl [4, 5, 6, 3, 2, 1, 0] rfl)
                  · have r_v_26 : RI v_26 24 24 := rc_eq1 r_v_26 rl_24 (ti_eq c_262) (by decide)
                    refine lv_aload_n hx hb dX10_holds_265 rfl (lv_at hl 4 rfl) ?_
                    refine lv_iload_n hx hb dX10_holds_266 rfl (lv_at hl 6 rfl) ?_
                    refine tk_ir (va_runV (As := [.int p2]) (rest := []) ⟨hx, hb, hml, hown, hts⟩ (c_X10_sizeOf l D cy z s.heap.size Ps w0 hw.1 p0 p2 h_p0 r_p2) (cwV 1 hts (gV tw_1453 tw_1455 ts_70 tw_15 tw_1456) rfl rfl rfl (by decide +kernel) ⟨Nat.le_of_ble_eq_true rfl, Nat.le_of_ble_eq_true rfl⟩) (tg_preV hw hK hSD hA (ci := 10) (q := (RX10, TX10, 49)) rfl h_p0 rfl) rfl rfl hl.1 rfl (lv_room (Nat.le_of_ble_eq_true rfl)) dX10_holds_267 ⟨Nat.le_of_ble_eq_true rfl, Nat.le_of_ble_eq_true rfl⟩) hw hA (fun v_31  H locs hp_v_31 hw => ?_)
                    have r_v_31 : RI v_31 (-2147483648) 2147483647 := hp_v_31.1
                    refine lv_goto (tgt := 312) hx hb dX10_holds_270 (by decide) ?_
                    exact B312 v_7 v_10 v_12 v_26 v_31 _ _ ls r_p1 r_p2 r_v_7 r_v_10 r_v_12 (r_v_26.to (by decide)) r_v_31 hw (lv_sub hl [4, 5, 6, 3, 2, 1, 0] rfl)
abbrev wr_X10_holds__25 : List (Nat × Nat) := []
abbrev wa_X10_holds__25 : List Nat := []
set_option maxHeartbeats 4000000 in
set_option maxRecDepth 100000 in
theorem c_X10_holds__25 (l : Launch) (D : va_G) (cy : Nat → ClassId) (z : Nat → Nat) (sz : Nat) (Ps : PSI) (w0 : va_W) (hT : HT cy GG Ps w0) (p0 : Nat) (p1 : Int32) (p2 : Int32) (h_p0 : (p0, 55) ∈ Ps) (r_p1 : RI p1 0 34) (r_p2 : RI p2 0 5) : Met l yX10_holds (Cond.code yX10_holds cX10_holds 8 (some .boolean) :: gT) ({ frames := 37, cells := 0, slots := 0, locals := 7400 } : Room) (va_Pc [.ref p0, .int p1, .int p2] (PRE D cy z w0 sz)) (va_Qi (fun (r : Int32) (u : Unit) => RI r 0 1 ∧ (r = 0 → True) ∧ (¬ r = 0 → True)) (BB D cy (va_A w0 sz) (fun (u : Unit) => w0)) (va_A w0 sz)) 0 0 (va_A w0 sz) := by
  refine Met.ofW (cc := cX10_holds) (maxL := 8) (ret := (some .boolean)) (by decide) rfl ?_
  intro p e s m args below meth c s₁ B hml hv
  obtain ⟨rfl, hsz, hP, hK, hD0, hSD⟩ := hv
  have hx := B.exec
  have hb := B.bytes
  have hr := B.returns
  have hlocks := B.notSynchronized
  have hts : ∀ w ∈ gT, w.before _ s = true := fun w h => atoms_spec (ws := Cond.code yX10_holds cX10_holds 8 (some .boolean) :: gT) B.pre w (List.mem_cons_of_mem _ h)
  have hown : s.vm.findClass RX10 = some m.cls := findClass_of_methodNamed B.named
  subst hsz
  have hD := hD0.self (sz := s.heap.size)
  generalize hAe : va_A w0 s.heap.size = A at hD hSD ⊢
  have hA : ∀ q : Nat, s.heap.size ≤ q → A q := fun q h => by rw [← hAe]; exact Or.inr h
  have hl := lv_entry ([.ref p0, .int p1, .int p2]) (n := 8) (Nat.le_of_ble_eq_true rfl)
  rw [lg_entry_eq]
  generalize (lg_sl ([.ref p0, .int p1, .int p2]) ++ List.replicate (8 - (lg_sl ([.ref p0, .int p1, .int p2])).length) Slot.unset).toArray = ls at hl ⊢
  have hl : lv_has ls 8 [(0, .ref p0), (1, .int p1), (2, .int p2)] := hl
  refine nameQ (fun Q hQ => ?_)
  have hw : WD D cy GG A s wr_X10_holds__25 wa_X10_holds__25 Ps w0 Ps w0 s.heap [] := ⟨hT, hP, hD, va_S.rf, FR.rf, hT.1, [], (List.append_nil _).symm⟩
  have B312 : ∀ (x3 : Int32) (x4 : Int32) (x5 : Int32) (x6 : Int32) (y0 : Int32) (H : Heap) (locs : List Loc) (ls : Array Slot), RI p1 0 34 → RI p2 0 5 → RI x3 174 310 → RI x4 (-2147483648) 2147483647 → RI x5 (-2147483648) 2147483647 → RI x6 (-2147483648) 2147483647 → RI y0 (-2147483648) 2147483647 → WD D cy GG A s wr_X10_holds__25 wa_X10_holds__25 Ps w0 Ps w0 H locs → lv_has ls 8 [(0, .ref p0), (1, .int p1), (2, .int p2), (3, .int x3), (4, .int x4), (5, .int x5), (6, .int x6)] → W p l e (headSpec (Cond.code yX10_holds cX10_holds 8 (some .boolean) :: gT) ({ frames := 37, cells := 0, slots := 0, locals := 7400 } : Room)).room s m ([.ref p0, .int p1, .int p2] : List Value).toArray below meth c H locs 0 0 Q (F0 m 312 ls [.int y0]) := by
    intro x3 x4 x5 x6 y0 H locs ls r_p1 r_p2 r_x3 r_x4 r_x5 r_x6 r_y0 hw hl
    refine lv_istore (lv' := [(7, .int y0), (0, .ref p0), (1, .int p1), (2, .int p2), (3, .int x3), (4, .int x4), (5, .int x5), (6, .int x6)]) hx hb dX10_holds_312 hl (by decide) rfl (fun ls hl => ?_)
    refine lv_aload_n hx hb dX10_holds_314 rfl (lv_at hl 1 rfl) ?_
    refine tg_get (ci := 10) (ts := ty_MODEL) (C := RX10) (T := TX10) (N := 49) hx hb hts inX10 hown hK hw h_p0 rfl rfl 14 (by decide) (hts _ tw_1151) (fun _ h9 => h9) (ft := vR 34) rfl dX10_holds_315 (fun u_1 hv_u_1 m_u_1 => ?_)
    obtain ⟨vu_1, rfl, h_vu_1⟩ := hv_u_1
    refine lv_iload_n hx hb dX10_holds_318 rfl (lv_at hl 4 rfl) ?_
    refine lv_iconst (v := 3) hx hb dX10_holds_319 (by decide) ?_
    refine lv_iadd hx hb dX10_holds_320 (lv_topi (fun v_2 e_v_2 => ?_))
    obtain ⟨t_v_2, r_v_2⟩ := tq_add (lo := 177) (hi := 313) r_x3 rl_3 (by decide +kernel) e_v_2
    have t_v_2 : v_2.toInt = x3.toInt + 3 := t_v_2
    refine tg_iald (lo := (-2147483648)) (hi := 2147483647) hx hb hK hw h_vu_1 rfl 177 313 r_v_2 (by decide) (by decide +kernel) dX10_holds_321 (fun v_3 r_v_3 m_v_3 o_v_3 => ?_)
    refine lv_bipush (v := 60) hx hb dX10_holds_322 (by decide) ?_
    refine lv_icmp_ne (tgt := 342) hx hb dX10_holds_324 (by decide) (fun c_324 => ?_) (fun c_324 => ?_)
    · refine lv_aload_n hx hb dX10_holds_342 rfl (lv_at hl 1 rfl) ?_
      refine tg_mem (ci := 10) (C := RX10) (T := TX10) (N := 49) hx hb hts inX10 hown hK hw 14 m_u_1 rfl (by decide) (hts _ tw_1151) (fun _ h9 => h9) dX10_holds_343 ?_
      refine lv_iload_n hx hb dX10_holds_346 rfl (lv_at hl 4 rfl) ?_
      refine lv_iconst (v := 3) hx hb dX10_holds_347 (by decide) ?_
      refine lv_iadd hx hb dX10_holds_348 (lv_topi (fun v_4 e_v_4 => ?_))
      obtain ⟨t_v_4, r_v_4⟩ := tq_add (lo := 177) (hi := 313) r_x3 rl_3 (by decide +kernel) e_v_4
      have t_v_4 : v_4.toInt = x3.toInt + 3 := t_v_4
      refine tg_iald (lo := (-2147483648)) (hi := 2147483647) hx hb hK hw h_vu_1 rfl 177 313 r_v_4 (by decide) (by decide +kernel) dX10_holds_349 (fun v_5 r_v_5 m_v_5 o_v_5 => ?_)
      refine lv_bipush (v := 61) hx hb dX10_holds_350 (by decide) ?_
      refine lv_icmp_ne (tgt := 370) hx hb dX10_holds_352 (by decide) (fun c_352 => ?_) (fun c_352 => ?_)
      · refine lv_iload hx hb dX10_holds_370 (lv_at hl 0 rfl) ?_
        refine lv_iload hx hb dX10_holds_372 (lv_at hl 6 rfl) ?_
        refine lv_icmp_le (tgt := 381) hx hb dX10_holds_374 (by decide) (fun c_374 => ?_) (fun c_374 => ?_)
        · refine lv_iconst (v := 0) hx hb dX10_holds_381 (by decide) ?_
          subst hQ
          exact W.zret (v := 0) hx hb hr (rfl) (fun t ht hW => ⟨⟨0, (), rfl, ⟨rl_0.to (by decide), (fun h0 => trivial), (fun _ => trivial)⟩, by rw [ht]; exact hw.2.1, va_K.moved hW.alike hK, hw.2.2.1⟩, hw.2.2.2.1.F ht⟩) hw.2.2.2.1.2.2 dX10_holds_382
        · have r_x5 : RI x5 (-2147483648) 2147483646 := rc_lt1 r_x5 r_y0 (ti_nle c_374) (by decide)
          have r_y0 : RI y0 (-2147483647) 2147483647 := rc_lt2 r_x5 r_y0 (ti_nle c_374) (by decide)
          refine lv_iconst (v := 1) hx hb dX10_holds_377 (by decide) ?_
          refine lv_goto (tgt := 382) hx hb dX10_holds_378 (by decide) ?_
          subst hQ
          exact W.zret (v := 1) hx hb hr (rfl) (fun t ht hW => ⟨⟨1, (), rfl, ⟨rl_1.to (by decide), (fun _ => trivial), (fun h0 => trivial)⟩, by rw [ht]; exact hw.2.1, va_K.moved hW.alike hK, hw.2.2.1⟩, hw.2.2.2.1.F ht⟩) hw.2.2.2.1.2.2 dX10_holds_382
      · have r_v_5 : RI v_5 61 61 := rc_eq1 r_v_5 rl_61 (ti_eq c_352) (by decide)
        refine lv_iload hx hb dX10_holds_355 (lv_at hl 0 rfl) ?_
        refine lv_iload hx hb dX10_holds_357 (lv_at hl 6 rfl) ?_
        refine lv_icmp_ne (tgt := 366) hx hb dX10_holds_359 (by decide) (fun c_359 => ?_) (fun c_359 => ?_)
        · refine lv_iconst (v := 0) hx hb dX10_holds_366 (by decide) ?_
          refine lv_goto (tgt := 382) hx hb dX10_holds_367 (by decide) ?_
          subst hQ
          exact W.zret (v := 0) hx hb hr (rfl) (fun t ht hW => ⟨⟨0, (), rfl, ⟨rl_0.to (by decide), (fun h0 => trivial), (fun _ => trivial)⟩, by rw [ht]; exact hw.2.1, va_K.moved hW.alike hK, hw.2.2.1⟩, hw.2.2.2.1.F ht⟩) hw.2.2.2.1.2.2 dX10_holds_382
        · refine lv_iconst (v := 1) hx hb dX10_holds_362 (by decide) ?_
          refine lv_goto (tgt := 382) hx hb dX10_holds_363 (by decide) ?_
          subst hQ
          exact W.zret (v := 1) hx hb hr (rfl) (fun t ht hW => ⟨⟨1, (), rfl, ⟨rl_1.to (by decide), (fun _ => trivial), (fun h0 => trivial)⟩, by rw [ht]; exact hw.2.1, va_K.moved hW.alike hK, hw.2.2.1⟩, hw.2.2.2.1.F ht⟩) hw.2.2.2.1.2.2 dX10_holds_382
    · have r_v_3 : RI v_3 60 60 := rc_eq1 r_v_3 rl_60 (ti_eq c_324) (by decide)
      refine lv_iload hx hb dX10_holds_327 (lv_at hl 0 rfl) ?_
      refine lv_iload hx hb dX10_holds_329 (lv_at hl 6 rfl) ?_
      refine lv_icmp_ge (tgt := 338) hx hb dX10_holds_331 (by decide) (fun c_331 => ?_) (fun c_331 => ?_)
      · refine lv_iconst (v := 0) hx hb dX10_holds_338 (by decide) ?_
        refine lv_goto (tgt := 382) hx hb dX10_holds_339 (by decide) ?_
        subst hQ
        exact W.zret (v := 0) hx hb hr (rfl) (fun t ht hW => ⟨⟨0, (), rfl, ⟨rl_0.to (by decide), (fun h0 => trivial), (fun _ => trivial)⟩, by rw [ht]; exact hw.2.1, va_K.moved hW.alike hK, hw.2.2.1⟩, hw.2.2.2.1.F ht⟩) hw.2.2.2.1.2.2 dX10_holds_382
      · have r_y0 : RI y0 (-2147483648) 2147483646 := rc_lt1 r_y0 r_x5 (ti_nle c_331) (by decide)
        have r_x5 : RI x5 (-2147483647) 2147483647 := rc_lt2 r_y0 r_x5 (ti_nle c_331) (by decide)
        refine lv_iconst (v := 1) hx hb dX10_holds_334 (by decide) ?_
        refine lv_goto (tgt := 382) hx hb dX10_holds_335 (by decide) ?_
        subst hQ
        exact W.zret (v := 1) hx hb hr (rfl) (fun t ht hW => ⟨⟨1, (), rfl, ⟨rl_1.to (by decide), (fun _ => trivial), (fun h0 => trivial)⟩, by rw [ht]; exact hw.2.1, va_K.moved hW.alike hK, hw.2.2.1⟩, hw.2.2.2.1.F ht⟩) hw.2.2.2.1.2.2 dX10_holds_382
  refine lv_sipush (v := 174) hx hb dX10_holds_0 (by decide) ?_
  refine lv_iconst (v := 4) hx hb dX10_holds_3 (by decide) ?_
  refine lv_iload_n hx hb dX10_holds_4 rfl (lv_at hl 1 rfl) ?_
  refine lv_imul hx hb dX10_holds_5 (lv_topi (fun v_6 e_v_6 => ?_))
  obtain ⟨t_v_6, r_v_6⟩ := tq_mul (lo := 0) (hi := 136) rl_4 r_p1 (by decide +kernel) e_v_6
  have t_v_6 : v_6.toInt = 4 * p1.toInt := t_v_6
  refine lv_iadd hx hb dX10_holds_6 (lv_topi (fun v_7 e_v_7 => ?_))
  obtain ⟨t_v_7, r_v_7⟩ := tq_add (lo := 174) (hi := 310) rl_174 r_v_6 (by decide +kernel) e_v_7
  have t_v_7 : v_7.toInt = 174 + v_6.toInt := t_v_7
  refine lv_istore_n (lv' := [(3, .int v_7), (0, .ref p0), (1, .int p1), (2, .int p2)]) hx hb dX10_holds_7 rfl hl (by decide) rfl (fun ls hl => ?_)
  refine lv_aload_n hx hb dX10_holds_8 rfl (lv_at hl 1 rfl) ?_
  refine tg_get (ci := 10) (ts := ty_MODEL) (C := RX10) (T := TX10) (N := 49) hx hb hts inX10 hown hK hw h_p0 rfl rfl 14 (by decide) (hts _ tw_1151) (fun _ h9 => h9) (ft := vR 34) rfl dX10_holds_9 (fun u_8 hv_u_8 m_u_8 => ?_)
  obtain ⟨vu_8, rfl, h_vu_8⟩ := hv_u_8
  refine lv_iload_n hx hb dX10_holds_12 rfl (lv_at hl 0 rfl) ?_
  refine lv_iconst (v := 1) hx hb dX10_holds_13 (by decide) ?_
  refine lv_iadd hx hb dX10_holds_14 (lv_topi (fun v_9 e_v_9 => ?_))
  obtain ⟨t_v_9, r_v_9⟩ := tq_add (lo := 175) (hi := 311) r_v_7 rl_1 (by decide +kernel) e_v_9
  have t_v_9 : v_9.toInt = v_7.toInt + 1 := t_v_9
  refine tg_iald (lo := (-2147483648)) (hi := 2147483647) hx hb hK hw h_vu_8 rfl 175 311 r_v_9 (by decide) (by decide +kernel) dX10_holds_15 (fun v_10 r_v_10 m_v_10 o_v_10 => ?_)
  refine lv_istore (lv' := [(4, .int v_10), (3, .int v_7), (0, .ref p0), (1, .int p1), (2, .int p2)]) hx hb dX10_holds_16 hl (by decide) rfl (fun ls hl => ?_)
  refine lv_aload_n hx hb dX10_holds_18 rfl (lv_at hl 2 rfl) ?_
  refine tg_mem (ci := 10) (C := RX10) (T := TX10) (N := 49) hx hb hts inX10 hown hK hw 14 m_u_8 rfl (by decide) (hts _ tw_1151) (fun _ h9 => h9) dX10_holds_19 ?_
  refine lv_iload_n hx hb dX10_holds_22 rfl (lv_at hl 1 rfl) ?_
  refine lv_iconst (v := 2) hx hb dX10_holds_23 (by decide) ?_
  refine lv_iadd hx hb dX10_holds_24 (lv_topi (fun v_11 e_v_11 => ?_))
  obtain ⟨t_v_11, r_v_11⟩ := tq_add (lo := 176) (hi := 312) r_v_7 rl_2 (by decide +kernel) e_v_11
  have t_v_11 : v_11.toInt = v_7.toInt + 2 := t_v_11
  refine tg_iald (lo := (-2147483648)) (hi := 2147483647) hx hb hK hw h_vu_8 rfl 176 312 r_v_11 (by decide) (by decide +kernel) dX10_holds_25 (fun v_12 r_v_12 m_v_12 o_v_12 => ?_)
  refine lv_istore (lv' := [(5, .int v_12), (4, .int v_10), (3, .int v_7), (0, .ref p0), (1, .int p1), (2, .int p2)]) hx hb dX10_holds_26 hl (by decide) rfl (fun ls hl => ?_)
  refine lv_aload_n hx hb dX10_holds_28 rfl (lv_at hl 3 rfl) ?_
  refine tg_mem (ci := 10) (C := RX10) (T := TX10) (N := 49) hx hb hts inX10 hown hK hw 14 m_u_8 rfl (by decide) (hts _ tw_1151) (fun _ h9 => h9) dX10_holds_29 ?_
  refine lv_iload_n hx hb dX10_holds_32 rfl (lv_at hl 2 rfl) ?_
  refine tg_iald (lo := (-2147483648)) (hi := 2147483647) hx hb hK hw h_vu_8 rfl 174 310 r_v_7 (by decide) (by decide +kernel) dX10_holds_33 (fun v_13 r_v_13 m_v_13 o_v_13 => ?_)
  by_cases k_34_1 : v_13 = 1
  · refine lv_lookup (tgt := 108) (off := 74) hx hb dX10_holds_34 (by decide) (by rw [k_34_1]; decide) (by decide) ?_
    have r_v_13 : RI v_13 1 1 := by rw [k_34_1]; exact rl_1
    have g_v_10 : 0 ≤ v_10.toInt ∧ v_10.toInt < p1.toInt := by obtain ⟨_, f9, e8, e7, q9, _⟩ := ax_of (k := 14) (t := 34) hw h_p0 rfl (fun _ => rfl); cases FLD.inj hw.2.2.1 e8 m_u_8; have t9 := ARR.ael hw.2.2.1 e7 m_v_13; have x9 := ARR.ael hw.2.2.1 e7 m_v_10; rw [show Int32.toNatClampNeg v_7 = 174 + 4 * Int32.toNatClampNeg p1 from (by have k1 := r_v_7.cl (by decide); have k2 := r_p1.cl (by decide); omega)] at t9; rw [show Int32.toNatClampNeg v_9 = 175 + 4 * Int32.toNatClampNeg p1 from (by have k1 := r_v_9.cl (by decide); have k2 := r_p1.cl (by decide); omega)] at x9; exact RN_child q9 (r_p1.to (by decide)) t9 x9 (r_v_13.to (by decide))
    have r_v_10 : RI v_10 0 33 := ⟨g_v_10.1, by have k1 := r_p1.2; omega⟩
    refine lv_aload_n hx hb dX10_holds_108 rfl (lv_at hl 3 rfl) ?_
    refine lv_iload hx hb dX10_holds_109 (lv_at hl 1 rfl) ?_
    refine lv_iload_n hx hb dX10_holds_111 rfl (lv_at hl 5 rfl) ?_
    refine tk_ir (va_runV (As := [.int v_10, .int p2]) (rest := []) ⟨hx, hb, hml, hown, hts⟩ (c_X10_holds__26 l D cy z s.heap.size Ps w0 hw.1 p0 v_10 p2 h_p0 r_v_10 r_p2) (cwV 2 hts (gV tw_1787 tw_1789 ts_119 tw_15 tw_1790) rfl rfl rfl (by decide +kernel) ⟨Nat.le_of_ble_eq_true rfl, Nat.le_of_ble_eq_true rfl⟩) (tg_preV hw hK hSD hA (ci := 10) (q := (RX10, TX10, 49)) rfl h_p0 rfl) rfl rfl hl.1 rfl (lv_room (Nat.le_of_ble_eq_true rfl)) dX10_holds_112 ⟨Nat.le_of_ble_eq_true rfl, Nat.le_of_ble_eq_true rfl⟩) hw hA (fun v_14  H locs hp_v_14 hw => ?_)
    have r_v_14 : RI v_14 0 1 := hp_v_14.1
    refine lv_if_ne (tgt := 122) hx hb dX10_holds_115 (by decide) (fun c_115 => ?_) (fun c_115 => ?_)
    · have r_v_14 : RI v_14 1 1 := rc_neL r_v_14 rl_0 (ti_ne c_115) (by decide)
      refine lv_iconst (v := 0) hx hb dX10_holds_122 (by decide) ?_
      subst hQ
      exact W.zret (v := 0) hx hb hr (rfl) (fun t ht hW => ⟨⟨0, (), rfl, ⟨rl_0.to (by decide), (fun h0 => trivial), (fun _ => trivial)⟩, by rw [ht]; exact hw.2.1, va_K.moved hW.alike hK, hw.2.2.1⟩, hw.2.2.2.1.F ht⟩) hw.2.2.2.1.2.2 dX10_holds_123
    · have r_v_14 : RI v_14 0 0 := rc_eq1 r_v_14 rl_0 (ti_eq c_115) (by decide)
      refine lv_iconst (v := 1) hx hb dX10_holds_118 (by decide) ?_
      refine lv_goto (tgt := 123) hx hb dX10_holds_119 (by decide) ?_
      subst hQ
      exact W.zret (v := 1) hx hb hr (rfl) (fun t ht hW => ⟨⟨1, (), rfl, ⟨rl_1.to (by decide), (fun _ => trivial), (fun h0 => trivial)⟩, by rw [ht]; exact hw.2.1, va_K.moved hW.alike hK, hw.2.2.1⟩, hw.2.2.2.1.F ht⟩) hw.2.2.2.1.2.2 dX10_holds_123
  · by_cases k_34_2 : v_13 = 2
    · refine lv_lookup (tgt := 124) (off := 90) hx hb dX10_holds_34 (by decide) (by rw [k_34_2]; decide) (by decide) ?_
      have r_v_13 : RI v_13 2 2 := by rw [k_34_2]; exact rl_2
      have g_v_10 : 0 ≤ v_10.toInt ∧ v_10.toInt < p1.toInt := by obtain ⟨_, f9, e8, e7, q9, _⟩ := ax_of (k := 14) (t := 34) hw h_p0 rfl (fun _ => rfl); cases FLD.inj hw.2.2.1 e8 m_u_8; have t9 := ARR.ael hw.2.2.1 e7 m_v_13; have x9 := ARR.ael hw.2.2.1 e7 m_v_10; rw [show Int32.toNatClampNeg v_7 = 174 + 4 * Int32.toNatClampNeg p1 from (by have k1 := r_v_7.cl (by decide); have k2 := r_p1.cl (by decide); omega)] at t9; rw [show Int32.toNatClampNeg v_9 = 175 + 4 * Int32.toNatClampNeg p1 from (by have k1 := r_v_9.cl (by decide); have k2 := r_p1.cl (by decide); omega)] at x9; exact RN_child q9 (r_p1.to (by decide)) t9 x9 (r_v_13.to (by decide))
      have r_v_10 : RI v_10 0 33 := ⟨g_v_10.1, by have k1 := r_p1.2; omega⟩
      have g_v_12 : 0 ≤ v_12.toInt ∧ v_12.toInt < p1.toInt := by obtain ⟨_, f9, e8, e7, q9, _⟩ := ax_of (k := 14) (t := 34) hw h_p0 rfl (fun _ => rfl); cases FLD.inj hw.2.2.1 e8 m_u_8; have t9 := ARR.ael hw.2.2.1 e7 m_v_13; have x9 := ARR.ael hw.2.2.1 e7 m_v_12; rw [show Int32.toNatClampNeg v_7 = 174 + 4 * Int32.toNatClampNeg p1 from (by have k1 := r_v_7.cl (by decide); have k2 := r_p1.cl (by decide); omega)] at t9; rw [show Int32.toNatClampNeg v_11 = 176 + 4 * Int32.toNatClampNeg p1 from (by have k1 := r_v_11.cl (by decide); have k2 := r_p1.cl (by decide); omega)] at x9; exact RN_child2 q9 (r_p1.to (by decide)) t9 x9 (r_v_13.to (by decide))
      have r_v_12 : RI v_12 0 33 := ⟨g_v_12.1, by have k1 := r_p1.2; omega⟩
      refine lv_aload_n hx hb dX10_holds_124 rfl (lv_at hl 3 rfl) ?_
      refine lv_iload hx hb dX10_holds_125 (lv_at hl 1 rfl) ?_
      refine lv_iload_n hx hb dX10_holds_127 rfl (lv_at hl 5 rfl) ?_
      refine tk_ir (va_runV (As := [.int v_10, .int p2]) (rest := []) ⟨hx, hb, hml, hown, hts⟩ (c_X10_holds__26 l D cy z s.heap.size Ps w0 hw.1 p0 v_10 p2 h_p0 r_v_10 r_p2) (cwV 2 hts (gV tw_1787 tw_1789 ts_119 tw_15 tw_1790) rfl rfl rfl (by decide +kernel) ⟨Nat.le_of_ble_eq_true rfl, Nat.le_of_ble_eq_true rfl⟩) (tg_preV hw hK hSD hA (ci := 10) (q := (RX10, TX10, 49)) rfl h_p0 rfl) rfl rfl hl.1 rfl (lv_room (Nat.le_of_ble_eq_true rfl)) dX10_holds_128 ⟨Nat.le_of_ble_eq_true rfl, Nat.le_of_ble_eq_true rfl⟩) hw hA (fun v_15  H locs hp_v_15 hw => ?_)
      have r_v_15 : RI v_15 0 1 := hp_v_15.1
      refine lv_if_eq (tgt := 148) hx hb dX10_holds_131 (by decide) (fun c_131 => ?_) (fun c_131 => ?_)
      · have r_v_15 : RI v_15 0 0 := rc_eq1 r_v_15 rl_0 (ti_eq c_131) (by decide)
        refine lv_iconst (v := 0) hx hb dX10_holds_148 (by decide) ?_
        subst hQ
        exact W.zret (v := 0) hx hb hr (rfl) (fun t ht hW => ⟨⟨0, (), rfl, ⟨rl_0.to (by decide), (fun h0 => trivial), (fun _ => trivial)⟩, by rw [ht]; exact hw.2.1, va_K.moved hW.alike hK, hw.2.2.1⟩, hw.2.2.2.1.F ht⟩) hw.2.2.2.1.2.2 dX10_holds_149
      · have r_v_15 : RI v_15 1 1 := rc_neL r_v_15 rl_0 (ti_ne c_131) (by decide)
        refine lv_aload_n hx hb dX10_holds_134 rfl (lv_at hl 3 rfl) ?_
        refine lv_iload hx hb dX10_holds_135 (lv_at hl 0 rfl) ?_
        refine lv_iload_n hx hb dX10_holds_137 rfl (lv_at hl 5 rfl) ?_
        refine tk_ir (va_runV (As := [.int v_12, .int p2]) (rest := []) ⟨hx, hb, hml, hown, hts⟩ (c_X10_holds__26 l D cy z H.size Ps w0 hw.1 p0 v_12 p2 h_p0 r_v_12 r_p2) (cwV 2 hts (gV tw_1787 tw_1789 ts_119 tw_15 tw_1790) rfl rfl rfl (by decide +kernel) ⟨Nat.le_of_ble_eq_true rfl, Nat.le_of_ble_eq_true rfl⟩) (tg_preV hw hK hSD hA (ci := 10) (q := (RX10, TX10, 49)) rfl h_p0 rfl) rfl rfl hl.1 rfl (lv_room (Nat.le_of_ble_eq_true rfl)) dX10_holds_138 ⟨Nat.le_of_ble_eq_true rfl, Nat.le_of_ble_eq_true rfl⟩) hw hA (fun v_16  H locs hp_v_16 hw => ?_)
        have r_v_16 : RI v_16 0 1 := hp_v_16.1
        refine lv_if_eq (tgt := 148) hx hb dX10_holds_141 (by decide) (fun c_141 => ?_) (fun c_141 => ?_)
        · have r_v_16 : RI v_16 0 0 := rc_eq1 r_v_16 rl_0 (ti_eq c_141) (by decide)
          refine lv_iconst (v := 0) hx hb dX10_holds_148 (by decide) ?_
          subst hQ
          exact W.zret (v := 0) hx hb hr (rfl) (fun t ht hW => ⟨⟨0, (), rfl, ⟨rl_0.to (by decide), (fun h0 => trivial), (fun _ => trivial)⟩, by rw [ht]; exact hw.2.1, va_K.moved hW.alike hK, hw.2.2.1⟩, hw.2.2.2.1.F ht⟩) hw.2.2.2.1.2.2 dX10_holds_149
        · have r_v_16 : RI v_16 1 1 := rc_neL r_v_16 rl_0 (ti_ne c_141) (by decide)
          refine lv_iconst (v := 1) hx hb dX10_holds_144 (by decide) ?_
          refine lv_goto (tgt := 149) hx hb dX10_holds_145 (by decide) ?_
          subst hQ
          exact W.zret (v := 1) hx hb hr (rfl) (fun t ht hW => ⟨⟨1, (), rfl, ⟨rl_1.to (by decide), (fun _ => trivial), (fun h0 => trivial)⟩, by rw [ht]; exact hw.2.1, va_K.moved hW.alike hK, hw.2.2.1⟩, hw.2.2.2.1.F ht⟩) hw.2.2.2.1.2.2 dX10_holds_149
    · by_cases k_34_3 : v_13 = 3
      · refine lv_lookup (tgt := 150) (off := 116) hx hb dX10_holds_34 (by decide) (by rw [k_34_3]; decide) (by decide) ?_
        have r_v_13 : RI v_13 3 3 := by rw [k_34_3]; exact rl_3
        have g_v_10 : 0 ≤ v_10.toInt ∧ v_10.toInt < p1.toInt := by obtain ⟨_, f9, e8, e7, q9, _⟩ := ax_of (k := 14) (t := 34) hw h_p0 rfl (fun _ => rfl); cases FLD.inj hw.2.2.1 e8 m_u_8; have t9 := ARR.ael hw.2.2.1 e7 m_v_13; have x9 := ARR.ael hw.2.2.1 e7 m_v_10; rw [show Int32.toNatClampNeg v_7 = 174 + 4 * Int32.toNatClampNeg p1 from (by have k1 := r_v_7.cl (by decide); have k2 := r_p1.cl (by decide); omega)] at t9; rw [show Int32.toNatClampNeg v_9 = 175 + 4 * Int32.toNatClampNeg p1 from (by have k1 := r_v_9.cl (by decide); have k2 := r_p1.cl (by decide); omega)] at x9; exact RN_child q9 (r_p1.to (by decide)) t9 x9 (r_v_13.to (by decide))
        have r_v_10 : RI v_10 0 33 := ⟨g_v_10.1, by have k1 := r_p1.2; omega⟩
        have g_v_12 : 0 ≤ v_12.toInt ∧ v_12.toInt < p1.toInt := by obtain ⟨_, f9, e8, e7, q9, _⟩ := ax_of (k := 14) (t := 34) hw h_p0 rfl (fun _ => rfl); cases FLD.inj hw.2.2.1 e8 m_u_8; have t9 := ARR.ael hw.2.2.1 e7 m_v_13; have x9 := ARR.ael hw.2.2.1 e7 m_v_12; rw [show Int32.toNatClampNeg v_7 = 174 + 4 * Int32.toNatClampNeg p1 from (by have k1 := r_v_7.cl (by decide); have k2 := r_p1.cl (by decide); omega)] at t9; rw [show Int32.toNatClampNeg v_11 = 176 + 4 * Int32.toNatClampNeg p1 from (by have k1 := r_v_11.cl (by decide); have k2 := r_p1.cl (by decide); omega)] at x9; exact RN_child2 q9 (r_p1.to (by decide)) t9 x9 (r_v_13.to (by decide))
        have r_v_12 : RI v_12 0 33 := ⟨g_v_12.1, by have k1 := r_p1.2; omega⟩
        refine lv_aload_n hx hb dX10_holds_150 rfl (lv_at hl 3 rfl) ?_
        refine lv_iload hx hb dX10_holds_151 (lv_at hl 1 rfl) ?_
        refine lv_iload_n hx hb dX10_holds_153 rfl (lv_at hl 5 rfl) ?_
        refine tk_ir (va_runV (As := [.int v_10, .int p2]) (rest := []) ⟨hx, hb, hml, hown, hts⟩ (c_X10_holds__26 l D cy z s.heap.size Ps w0 hw.1 p0 v_10 p2 h_p0 r_v_10 r_p2) (cwV 2 hts (gV tw_1787 tw_1789 ts_119 tw_15 tw_1790) rfl rfl rfl (by decide +kernel) ⟨Nat.le_of_ble_eq_true rfl, Nat.le_of_ble_eq_true rfl⟩) (tg_preV hw hK hSD hA (ci := 10) (q := (RX10, TX10, 49)) rfl h_p0 rfl) rfl rfl hl.1 rfl (lv_room (Nat.le_of_ble_eq_true rfl)) dX10_holds_154 ⟨Nat.le_of_ble_eq_true rfl, Nat.le_of_ble_eq_true rfl⟩) hw hA (fun v_17  H locs hp_v_17 hw => ?_)
        have r_v_17 : RI v_17 0 1 := hp_v_17.1
        refine lv_if_ne (tgt := 170) hx hb dX10_holds_157 (by decide) (fun c_157 => ?_) (fun c_157 => ?_)
        · have r_v_17 : RI v_17 1 1 := rc_neL r_v_17 rl_0 (ti_ne c_157) (by decide)
          refine lv_iconst (v := 1) hx hb dX10_holds_170 (by decide) ?_
          refine lv_goto (tgt := 175) hx hb dX10_holds_171 (by decide) ?_
          subst hQ
          exact W.zret (v := 1) hx hb hr (rfl) (fun t ht hW => ⟨⟨1, (), rfl, ⟨rl_1.to (by decide), (fun _ => trivial), (fun h0 => trivial)⟩, by rw [ht]; exact hw.2.1, va_K.moved hW.alike hK, hw.2.2.1⟩, hw.2.2.2.1.F ht⟩) hw.2.2.2.1.2.2 dX10_holds_175
        · have r_v_17 : RI v_17 0 0 := rc_eq1 r_v_17 rl_0 (ti_eq c_157) (by decide)
          refine lv_aload_n hx hb dX10_holds_160 rfl (lv_at hl 3 rfl) ?_
          refine lv_iload hx hb dX10_holds_161 (lv_at hl 0 rfl) ?_
          refine lv_iload_n hx hb dX10_holds_163 rfl (lv_at hl 5 rfl) ?_
          refine tk_ir (va_runV (As := [.int v_12, .int p2]) (rest := []) ⟨hx, hb, hml, hown, hts⟩ (c_X10_holds__26 l D cy z H.size Ps w0 hw.1 p0 v_12 p2 h_p0 r_v_12 r_p2) (cwV 2 hts (gV tw_1787 tw_1789 ts_119 tw_15 tw_1790) rfl rfl rfl (by decide +kernel) ⟨Nat.le_of_ble_eq_true rfl, Nat.le_of_ble_eq_true rfl⟩) (tg_preV hw hK hSD hA (ci := 10) (q := (RX10, TX10, 49)) rfl h_p0 rfl) rfl rfl hl.1 rfl (lv_room (Nat.le_of_ble_eq_true rfl)) dX10_holds_164 ⟨Nat.le_of_ble_eq_true rfl, Nat.le_of_ble_eq_true rfl⟩) hw hA (fun v_18  H locs hp_v_18 hw => ?_)
          have r_v_18 : RI v_18 0 1 := hp_v_18.1
          refine lv_if_eq (tgt := 174) hx hb dX10_holds_167 (by decide) (fun c_167 => ?_) (fun c_167 => ?_)
          · have r_v_18 : RI v_18 0 0 := rc_eq1 r_v_18 rl_0 (ti_eq c_167) (by decide)
            refine lv_iconst (v := 0) hx hb dX10_holds_174 (by decide) ?_
            subst hQ
            exact W.zret (v := 0) hx hb hr (rfl) (fun t ht hW => ⟨⟨0, (), rfl, ⟨rl_0.to (by decide), (fun h0 => trivial), (fun _ => trivial)⟩, by rw [ht]; exact hw.2.1, va_K.moved hW.alike hK, hw.2.2.1⟩, hw.2.2.2.1.F ht⟩) hw.2.2.2.1.2.2 dX10_holds_175
          · have r_v_18 : RI v_18 1 1 := rc_neL r_v_18 rl_0 (ti_ne c_167) (by decide)
            refine lv_iconst (v := 1) hx hb dX10_holds_170 (by decide) ?_
            refine lv_goto (tgt := 175) hx hb dX10_holds_171 (by decide) ?_
            subst hQ
            exact W.zret (v := 1) hx hb hr (rfl) (fun t ht hW => ⟨⟨1, (), rfl, ⟨rl_1.to (by decide), (fun _ => trivial), (fun h0 => trivial)⟩, by rw [ht]; exact hw.2.1, va_K.moved hW.alike hK, hw.2.2.1⟩, hw.2.2.2.1.F ht⟩) hw.2.2.2.1.2.2 dX10_holds_175
      · by_cases k_34_69 : v_13 = 69
        · refine lv_lookup (tgt := 176) (off := 142) hx hb dX10_holds_34 (by decide) (by rw [k_34_69]; decide) (by decide) ?_
          have r_v_13 : RI v_13 69 69 := by rw [k_34_69]; exact rl_69
          refine lv_aload_n hx hb dX10_holds_176 rfl (lv_at hl 3 rfl) ?_
          refine lv_iload_n hx hb dX10_holds_177 rfl (lv_at hl 5 rfl) ?_
          refine tk_ir (va_runV (As := [.int p2]) (rest := []) ⟨hx, hb, hml, hown, hts⟩ (c_X10_isOpen l D cy z s.heap.size Ps w0 hw.1 p0 p2 h_p0 (r_p2.to (by decide))) (cwV 1 hts (gV tw_1457 tw_1459 ts_71 tw_15 tw_1460) rfl rfl rfl (by decide +kernel) ⟨Nat.le_of_ble_eq_true rfl, Nat.le_of_ble_eq_true rfl⟩) (tg_preV hw hK hSD hA (ci := 10) (q := (RX10, TX10, 49)) rfl h_p0 rfl) rfl rfl hl.1 rfl (lv_room (Nat.le_of_ble_eq_true rfl)) dX10_holds_178 ⟨Nat.le_of_ble_eq_true rfl, Nat.le_of_ble_eq_true rfl⟩) hw hA (fun v_19  H locs hp_v_19 hw => ?_)
          have r_v_19 : RI v_19 0 1 := hp_v_19.1
          subst hQ
          exact W.zret (v := v_19) hx hb hr (tq_nz (r_v_19.to (by decide))) (fun t ht hW => ⟨⟨v_19, (), rfl, ⟨r_v_19.to (by decide), (fun h0 => trivial), (fun h0 => trivial)⟩, by rw [ht]; exact hw.2.1, va_K.moved hW.alike hK, hw.2.2.1⟩, hw.2.2.2.1.F ht⟩) hw.2.2.2.1.2.2 dX10_holds_181
        · by_cases k_34_70 : v_13 = 70
          · refine lv_lookup (tgt := 182) (off := 148) hx hb dX10_holds_34 (by decide) (by rw [k_34_70]; decide) (by decide) ?_
            have r_v_13 : RI v_13 70 70 := by rw [k_34_70]; exact rl_70
            refine lv_aload_n hx hb dX10_holds_182 rfl (lv_at hl 3 rfl) ?_
            refine lv_iload_n hx hb dX10_holds_183 rfl (lv_at hl 5 rfl) ?_
            refine tk_ir (va_runV (As := [.int p2]) (rest := []) ⟨hx, hb, hml, hown, hts⟩ (c_X10_whatIs l D cy z s.heap.size Ps w0 hw.1 p0 p2 h_p0 r_p2) (cwV 1 hts (gV tw_1449 tw_1451 ts_69 tw_15 tw_1452) rfl rfl rfl (by decide +kernel) ⟨Nat.le_of_ble_eq_true rfl, Nat.le_of_ble_eq_true rfl⟩) (tg_preV hw hK hSD hA (ci := 10) (q := (RX10, TX10, 49)) rfl h_p0 rfl) rfl rfl hl.1 rfl (lv_room (Nat.le_of_ble_eq_true rfl)) dX10_holds_184 ⟨Nat.le_of_ble_eq_true rfl, Nat.le_of_ble_eq_true rfl⟩) hw hA (fun v_20  H locs hp_v_20 hw => ?_)
            have r_v_20 : RI v_20 (-1) 5 := hp_v_20.1
            by_cases c9_v_20 : v_20.toInt < 0
            · have r_v_20 : RI v_20 (-1) (-1) := by unfold RI at r_v_20 ⊢; omega
              have x_NB_p0_p2 := (hp_v_20.2.2.2.2.1 (by omega)).1
              refine lv_iconst (v := (-1)) hx hb dX10_holds_187 (by decide) ?_
              refine lv_icmp_ne (tgt := 195) hx hb dX10_holds_188 (by decide) (fun c_188 => ?_) (fun c_188 => ?_)
              · exact absurd (r_v_20.eq.trans rl_m1.eq.symm) ((ti_ne c_188))
              · refine lv_iconst (v := 1) hx hb dX10_holds_191 (by decide) ?_
                refine lv_goto (tgt := 196) hx hb dX10_holds_192 (by decide) ?_
                subst hQ
                exact W.zret (v := 1) hx hb hr (rfl) (fun t ht hW => ⟨⟨1, (), rfl, ⟨rl_1.to (by decide), (fun _ => trivial), (fun h0 => trivial)⟩, by rw [ht]; exact hw.2.1, va_K.moved hW.alike hK, hw.2.2.1⟩, hw.2.2.2.1.F ht⟩) hw.2.2.2.1.2.2 dX10_holds_196
            · have r_v_20 : RI v_20 0 5 := by unfold RI at r_v_20 ⊢; omega
              have x_WB_p0_p2_v_20 := (hp_v_20.2.2.2.2.2 (by omega)).1
              refine lv_iconst (v := (-1)) hx hb dX10_holds_187 (by decide) ?_
              refine lv_icmp_ne (tgt := 195) hx hb dX10_holds_188 (by decide) (fun c_188 => ?_) (fun c_188 => ?_)
              · refine lv_iconst (v := 0) hx hb dX10_holds_195 (by decide) ?_
                subst hQ
                exact W.zret (v := 0) hx hb hr (rfl) (fun t ht hW => ⟨⟨0, (), rfl, ⟨rl_0.to (by decide), (fun h0 => trivial), (fun _ => trivial)⟩, by rw [ht]; exact hw.2.1, va_K.moved hW.alike hK, hw.2.2.1⟩, hw.2.2.2.1.F ht⟩) hw.2.2.2.1.2.2 dX10_holds_196
              · have r_v_20 : RI v_20 0 (-1) := rc_eq1 r_v_20 rl_m1 (ti_eq c_188) (by decide)
                exact (r_v_20.no (by decide)).elim
          · by_cases k_34_71 : v_13 = 71
            · refine lv_lookup (tgt := 197) (off := 163) hx hb dX10_holds_34 (by decide) (by rw [k_34_71]; decide) (by decide) ?_
              have r_v_13 : RI v_13 71 71 := by rw [k_34_71]; exact rl_71
              refine lv_aload_n hx hb dX10_holds_197 rfl (lv_at hl 3 rfl) ?_
              refine lv_iload_n hx hb dX10_holds_198 rfl (lv_at hl 5 rfl) ?_
              refine tk_ir (va_runV (As := [.int p2]) (rest := []) ⟨hx, hb, hml, hown, hts⟩ (c_X10_sittersOf l D cy z s.heap.size Ps w0 hw.1 p0 p2 h_p0 (r_p2.to (by decide))) (cwV 1 hts (gV tw_1461 tw_1463 ts_72 tw_15 tw_1464) rfl rfl rfl (by decide +kernel) ⟨Nat.le_of_ble_eq_true rfl, Nat.le_of_ble_eq_true rfl⟩) (tg_preV hw hK hSD hA (ci := 10) (q := (RX10, TX10, 49)) rfl h_p0 rfl) rfl rfl hl.1 rfl (lv_room (Nat.le_of_ble_eq_true rfl)) dX10_holds_199 ⟨Nat.le_of_ble_eq_true rfl, Nat.le_of_ble_eq_true rfl⟩) hw hA (fun v_21  H locs hp_v_21 hw => ?_)
              have r_v_21 : RI v_21 (-2147483648) 2147483647 := hp_v_21.1
              refine lv_if_eq (tgt := 209) hx hb dX10_holds_202 (by decide) (fun c_202 => ?_) (fun c_202 => ?_)
              · have r_v_21 : RI v_21 0 0 := rc_eq1 r_v_21 rl_0 (ti_eq c_202) (by decide)
                refine lv_iconst (v := 0) hx hb dX10_holds_209 (by decide) ?_
                subst hQ
                exact W.zret (v := 0) hx hb hr (rfl) (fun t ht hW => ⟨⟨0, (), rfl, ⟨rl_0.to (by decide), (fun h0 => trivial), (fun _ => trivial)⟩, by rw [ht]; exact hw.2.1, va_K.moved hW.alike hK, hw.2.2.1⟩, hw.2.2.2.1.F ht⟩) hw.2.2.2.1.2.2 dX10_holds_210
              · refine lv_iconst (v := 1) hx hb dX10_holds_205 (by decide) ?_
                refine lv_goto (tgt := 210) hx hb dX10_holds_206 (by decide) ?_
                subst hQ
                exact W.zret (v := 1) hx hb hr (rfl) (fun t ht hW => ⟨⟨1, (), rfl, ⟨rl_1.to (by decide), (fun _ => trivial), (fun h0 => trivial)⟩, by rw [ht]; exact hw.2.1, va_K.moved hW.alike hK, hw.2.2.1⟩, hw.2.2.2.1.F ht⟩) hw.2.2.2.1.2.2 dX10_holds_210
            · by_cases k_34_72 : v_13 = 72
              · refine lv_lookup (tgt := 211) (off := 177) hx hb dX10_holds_34 (by decide) (by rw [k_34_72]; decide) (by decide) ?_
                have r_v_13 : RI v_13 72 72 := by rw [k_34_72]; exact rl_72
                refine lv_aload_n hx hb dX10_holds_211 rfl (lv_at hl 3 rfl) ?_
                refine lv_iload_n hx hb dX10_holds_212 rfl (lv_at hl 5 rfl) ?_
                refine tk_ir (va_runV (As := [.int p2]) (rest := []) ⟨hx, hb, hml, hown, hts⟩ (c_X10_whatIs l D cy z s.heap.size Ps w0 hw.1 p0 p2 h_p0 r_p2) (cwV 1 hts (gV tw_1449 tw_1451 ts_69 tw_15 tw_1452) rfl rfl rfl (by decide +kernel) ⟨Nat.le_of_ble_eq_true rfl, Nat.le_of_ble_eq_true rfl⟩) (tg_preV hw hK hSD hA (ci := 10) (q := (RX10, TX10, 49)) rfl h_p0 rfl) rfl rfl hl.1 rfl (lv_room (Nat.le_of_ble_eq_true rfl)) dX10_holds_213 ⟨Nat.le_of_ble_eq_true rfl, Nat.le_of_ble_eq_true rfl⟩) hw hA (fun v_22  H locs hp_v_22 hw => ?_)
                have r_v_22 : RI v_22 (-1) 5 := hp_v_22.1
                by_cases c9_v_22 : v_22.toInt < 0
                · have r_v_22 : RI v_22 (-1) (-1) := by unfold RI at r_v_22 ⊢; omega
                  have x_NB_p0_p2 := (hp_v_22.2.2.2.2.1 (by omega)).1
                  refine lv_iload hx hb dX10_holds_216 (lv_at hl 1 rfl) ?_
                  refine lv_icmp_ne (tgt := 225) hx hb dX10_holds_218 (by decide) (fun c_218 => ?_) (fun c_218 => ?_)
                  · refine lv_iconst (v := 0) hx hb dX10_holds_225 (by decide) ?_
                    subst hQ
                    exact W.zret (v := 0) hx hb hr (rfl) (fun t ht hW => ⟨⟨0, (), rfl, ⟨rl_0.to (by decide), (fun h0 => trivial), (fun _ => trivial)⟩, by rw [ht]; exact hw.2.1, va_K.moved hW.alike hK, hw.2.2.1⟩, hw.2.2.2.1.F ht⟩) hw.2.2.2.1.2.2 dX10_holds_226
                  · have r_v_10 : RI v_10 (-1) (-1) := rc_eq2 r_v_22 r_v_10 (ti_eq c_218) (by decide)
                    refine lv_iconst (v := 1) hx hb dX10_holds_221 (by decide) ?_
                    refine lv_goto (tgt := 226) hx hb dX10_holds_222 (by decide) ?_
                    subst hQ
                    exact W.zret (v := 1) hx hb hr (rfl) (fun t ht hW => ⟨⟨1, (), rfl, ⟨rl_1.to (by decide), (fun _ => trivial), (fun h0 => trivial)⟩, by rw [ht]; exact hw.2.1, va_K.moved hW.alike hK, hw.2.2.1⟩, hw.2.2.2.1.F ht⟩) hw.2.2.2.1.2.2 dX10_holds_226
                · have r_v_22 : RI v_22 0 5 := by unfold RI at r_v_22 ⊢; omega
                  have x_WB_p0_p2_v_22 := (hp_v_22.2.2.2.2.2 (by omega)).1
                  refine lv_iload hx hb dX10_holds_216 (lv_at hl 1 rfl) ?_
                  refine lv_icmp_ne (tgt := 225) hx hb dX10_holds_218 (by decide) (fun c_218 => ?_) (fun c_218 => ?_)
                  · refine lv_iconst (v := 0) hx hb dX10_holds_225 (by decide) ?_
                    subst hQ
                    exact W.zret (v := 0) hx hb hr (rfl) (fun t ht hW => ⟨⟨0, (), rfl, ⟨rl_0.to (by decide), (fun h0 => trivial), (fun _ => trivial)⟩, by rw [ht]; exact hw.2.1, va_K.moved hW.alike hK, hw.2.2.1⟩, hw.2.2.2.1.F ht⟩) hw.2.2.2.1.2.2 dX10_holds_226
                  · have r_v_10 : RI v_10 0 5 := rc_eq2 r_v_22 r_v_10 (ti_eq c_218) (by decide)
                    refine lv_iconst (v := 1) hx hb dX10_holds_221 (by decide) ?_
                    refine lv_goto (tgt := 226) hx hb dX10_holds_222 (by decide) ?_
                    subst hQ
                    exact W.zret (v := 1) hx hb hr (rfl) (fun t ht hW => ⟨⟨1, (), rfl, ⟨rl_1.to (by decide), (fun _ => trivial), (fun h0 => trivial)⟩, by rw [ht]; exact hw.2.1, va_K.moved hW.alike hK, hw.2.2.1⟩, hw.2.2.2.1.F ht⟩) hw.2.2.2.1.2.2 dX10_holds_226
              · by_cases k_34_73 : v_13 = 73
                · refine lv_lookup (tgt := 227) (off := 193) hx hb dX10_holds_34 (by decide) (by rw [k_34_73]; decide) (by decide) ?_
                  have r_v_13 : RI v_13 73 73 := by rw [k_34_73]; exact rl_73
                  refine lv_aload_n hx hb dX10_holds_227 rfl (lv_at hl 3 rfl) ?_
                  refine tg_mem (ci := 10) (C := RX10) (T := TX10) (N := 49) hx hb hts inX10 hown hK hw 14 m_u_8 rfl (by decide) (hts _ tw_1151) (fun _ h9 => h9) dX10_holds_228 ?_
                  refine lv_bipush (v := 86) hx hb dX10_holds_231 (by decide) ?_
                  refine lv_iload_n hx hb dX10_holds_233 rfl (lv_at hl 5 rfl) ?_
                  refine lv_iadd hx hb dX10_holds_234 (lv_topi (fun v_23 e_v_23 => ?_))
                  obtain ⟨t_v_23, r_v_23⟩ := tq_add (lo := 86) (hi := 91) rl_86 r_p2 (by decide +kernel) e_v_23
                  have t_v_23 : v_23.toInt = 86 + p2.toInt := t_v_23
                  refine tg_iald (lo := (-2147483648)) (hi := 2147483647) hx hb hK hw h_vu_8 rfl 86 91 r_v_23 (by decide) (by decide +kernel) dX10_holds_235 (fun v_24 r_v_24 m_v_24 o_v_24 => ?_)
                  refine lv_iload hx hb dX10_holds_236 (lv_at hl 1 rfl) ?_
                  refine lv_icmp_ne (tgt := 245) hx hb dX10_holds_238 (by decide) (fun c_238 => ?_) (fun c_238 => ?_)
                  · refine lv_iconst (v := 0) hx hb dX10_holds_245 (by decide) ?_
                    subst hQ
                    exact W.zret (v := 0) hx hb hr (rfl) (fun t ht hW => ⟨⟨0, (), rfl, ⟨rl_0.to (by decide), (fun h0 => trivial), (fun _ => trivial)⟩, by rw [ht]; exact hw.2.1, va_K.moved hW.alike hK, hw.2.2.1⟩, hw.2.2.2.1.F ht⟩) hw.2.2.2.1.2.2 dX10_holds_246
                  · refine lv_iconst (v := 1) hx hb dX10_holds_241 (by decide) ?_
                    refine lv_goto (tgt := 246) hx hb dX10_holds_242 (by decide) ?_
                    subst hQ
                    exact W.zret (v := 1) hx hb hr (rfl) (fun t ht hW => ⟨⟨1, (), rfl, ⟨rl_1.to (by decide), (fun _ => trivial), (fun h0 => trivial)⟩, by rw [ht]; exact hw.2.1, va_K.moved hW.alike hK, hw.2.2.1⟩, hw.2.2.2.1.F ht⟩) hw.2.2.2.1.2.2 dX10_holds_246
                · refine lv_lookup (tgt := 247) (off := 213) hx hb dX10_holds_34 (by decide) ((lv_osw k_34_1 (by decide)).trans ((lv_osw k_34_2 (by decide)).trans ((lv_osw k_34_3 (by decide)).trans ((lv_osw k_34_69 (by decide)).trans ((lv_osw k_34_70 (by decide)).trans ((lv_osw k_34_71 (by decide)).trans ((lv_osw k_34_72 (by decide)).trans ((lv_osw k_34_73 (by decide)).trans (rfl))))))))) (by decide) ?_
                  refine lv_aload_n hx hb dX10_holds_247 rfl (lv_at hl 3 rfl) ?_
                  refine tg_mem (ci := 10) (C := RX10) (T := TX10) (N := 49) hx hb hts inX10 hown hK hw 14 m_u_8 rfl (by decide) (hts _ tw_1151) (fun _ h9 => h9) dX10_holds_248 ?_
                  refine lv_iload_n hx hb dX10_holds_251 rfl (lv_at hl 2 rfl) ?_
                  refine tg_imem hx hb hK hw h_vu_8 rfl r_v_7 (by decide) m_v_13 dX10_holds_252 ?_
                  refine lv_bipush (v := 50) hx hb dX10_holds_253 (by decide) ?_
                  refine lv_isub hx hb dX10_holds_255 (lv_topi (fun v_26 e_v_26 => ?_))
                  have r_v_26 := ri_any v_26
                  refine lv_istore (lv' := [(6, .int v_26), (5, .int v_12), (4, .int v_10), (3, .int v_7), (0, .ref p0), (1, .int p1), (2, .int p2)]) hx hb dX10_holds_256 hl (by decide) rfl (fun ls hl => ?_)
                  refine lv_iload hx hb dX10_holds_258 (lv_at hl 0 rfl) ?_
                  refine lv_bipush (v := 24) hx hb dX10_holds_260 (by decide) ?_
                  refine lv_icmp_ne (tgt := 273) hx hb dX10_holds_262 (by decide) (fun c_262 => ?_) (fun c_262 => ?_)
                  · refine lv_iload hx hb dX10_holds_273 (lv_at hl 0 rfl) ?_
                    refine lv_bipush (v := 25) hx hb dX10_holds_275 (by decide) ?_
                    refine lv_icmp_ne (tgt := 292) hx hb dX10_holds_277 (by decide) (fun c_277 => ?_) (fun c_277 => ?_)
                    · refine lv_iload hx hb dX10_holds_292 (lv_at hl 0 rfl) ?_
                      refine lv_bipush (v := 26) hx hb dX10_holds_294 (by decide) ?_
                      refine lv_icmp_ne (tgt := 311) hx hb dX10_holds_296 (by decide) (fun c_296 => ?_) (fun c_296 => ?_)
                      · refine lv_iload_n hx hb dX10_holds_311 rfl (lv_at hl 6 rfl) ?_
                        exact B312 v_7 v_10 v_12 v_26 p2 _ _ ls r_p1 r_p2 r_v_7 r_v_10 r_v_12 r_v_26 (r_p2.to (by decide)) hw (lv_sub hl [4, 5, 6, 3, 2, 1, 0] rfl)
                      · have r_v_26 : RI v_26 26 26 := rc_eq1 r_v_26 rl_26 (ti_eq c_296) (by decide)
                        refine lv_aload_n hx hb dX10_holds_299 rfl (lv_at hl 4 rfl) ?_
                        refine tg_mem (ci := 10) (C := RX10) (T := TX10) (N := 49) hx hb hts inX10 hown hK hw 14 m_u_8 rfl (by decide) (hts _ tw_1151) (fun _ h9 => h9) dX10_holds_300 ?_
                        refine lv_bipush (v := 98) hx hb dX10_holds_303 (by decide) ?_
                        refine lv_iload_n hx hb dX10_holds_305 rfl (lv_at hl 6 rfl) ?_
                        refine lv_iadd hx hb dX10_holds_306 (lv_topi (fun v_27 e_v_27 => ?_))
                        obtain ⟨t_v_27, r_v_27⟩ := tq_add (lo := 98) (hi := 103) rl_98 r_p2 (by decide +kernel) e_v_27
                        have t_v_27 : v_27.toInt = 98 + p2.toInt := t_v_27
                        refine tg_iald (lo := (-2147483648)) (hi := 2147483647) hx hb hK hw h_vu_8 rfl 98 103 r_v_27 (by decide) (by decide +kernel) dX10_holds_307 (fun v_28 r_v_28 m_v_28 o_v_28 => ?_)
                        refine lv_goto (tgt := 312) hx hb dX10_holds_308 (by decide) ?_
                        exact B312 v_7 v_10 v_12 v_26 v_28 _ _ ls r_p1 r_p2 r_v_7 r_v_10 r_v_12 (r_v_26.to (by decide)) r_v_28 hw (lv_sub hl [4, 5, 6, 3, 2, 1, 0] rfl)
                    · have r_v_26 : RI v_26 25 25 := rc_eq1 r_v_26 rl_25 (ti_eq c_277) (by decide)
                      refine lv_aload_n hx hb dX10_holds_280 rfl (lv_at hl 4 rfl) ?_
                      refine tg_mem (ci := 10) (C := RX10) (T := TX10) (N := 49) hx hb hts inX10 hown hK hw 14 m_u_8 rfl (by decide) (hts _ tw_1151) (fun _ h9 => h9) dX10_holds_281 ?_
                      refine lv_bipush (v := 92) hx hb dX10_holds_284 (by decide) ?_
                      refine lv_iload_n hx hb dX10_holds_286 rfl (lv_at hl 6 rfl) ?_
                      refine lv_iadd hx hb dX10_holds_287 (lv_topi (fun v_29 e_v_29 => ?_))
                      obtain ⟨t_v_29, r_v_29⟩ := tq_add (lo := 92) (hi := 97) rl_92 r_p2 (by decide +kernel) e_v_29
                      have t_v_29 : v_29.toInt = 92 + p2.toInt := t_v_29
                      refine tg_iald (lo := (-2147483648)) (hi := 2147483647) hx hb hK hw h_vu_8 rfl 92 97 r_v_29 (by decide) (by decide +kernel) dX10_holds_288 (fun v_30 r_v_30 m_v_30 o_v_30 => ?_)
                      refine lv_goto (tgt := 312) hx hb dX10_holds_289 (by decide) ?_
                      exact B312 v_7 v_10 v_12 v_26 v_30 _ _ ls r_p1 r_p2 r_v_7 r_v_10 r_v_12 (r_v_26.to (by decide)) r_v_30 hw (lv_sub hl [4, 5, 6, 3, 2, 1, 0] rfl)
                  · have r_v_26 : RI v_26 24 24 := rc_eq1 r_v_26 rl_24 (ti_eq c_262) (by decide)
                    refine lv_aload_n hx hb dX10_holds_265 rfl (lv_at hl 4 rfl) ?_
                    refine lv_iload_n hx hb dX10_holds_266 rfl (lv_at hl 6 rfl) ?_
                    refine tk_ir (va_runV (As := [.int p2]) (rest := []) ⟨hx, hb, hml, hown, hts⟩ (c_X10_sizeOf l D cy z s.heap.size Ps w0 hw.1 p0 p2 h_p0 r_p2) (cwV 1 hts (gV tw_1453 tw_1455 ts_70 tw_15 tw_1456) rfl rfl rfl (by decide +kernel) ⟨Nat.le_of_ble_eq_true rfl, Nat.le_of_ble_eq_true rfl⟩) (tg_preV hw hK hSD hA (ci := 10) (q := (RX10, TX10, 49)) rfl h_p0 rfl) rfl rfl hl.1 rfl (lv_room (Nat.le_of_ble_eq_true rfl)) dX10_holds_267 ⟨Nat.le_of_ble_eq_true rfl, Nat.le_of_ble_eq_true rfl⟩) hw hA (fun v_31  H locs hp_v_31 hw => ?_)
                    have r_v_31 : RI v_31 (-2147483648) 2147483647 := hp_v_31.1
                    refine lv_goto (tgt := 312) hx hb dX10_holds_270 (by decide) ?_
                    exact B312 v_7 v_10 v_12 v_26 v_31 _ _ ls r_p1 r_p2 r_v_7 r_v_10 r_v_12 (r_v_26.to (by decide)) r_v_31 hw (lv_sub hl [4, 5, 6, 3, 2, 1, 0] rfl)
abbrev wr_X10_holds__24 : List (Nat × Nat) := []
abbrev wa_X10_holds__24 : List Nat := []
set_option maxHeartbeats 4000000 in
set_option maxRecDepth 100000 in
theorem c_X10_holds__24 (l : Launch) (D : va_G) (cy : Nat → ClassId) (z : Nat → Nat) (sz : Nat) (Ps : PSI) (w0 : va_W) (hT : HT cy GG Ps w0) (p0 : Nat) (p1 : Int32) (p2 : Int32) (h_p0 : (p0, 55) ∈ Ps) (r_p1 : RI p1 0 35) (r_p2 : RI p2 0 5) : Met l yX10_holds (Cond.code yX10_holds cX10_holds 8 (some .boolean) :: gT) ({ frames := 38, cells := 0, slots := 0, locals := 7600 } : Room) (va_Pc [.ref p0, .int p1, .int p2] (PRE D cy z w0 sz)) (va_Qi (fun (r : Int32) (u : Unit) => RI r 0 1 ∧ (r = 0 → True) ∧ (¬ r = 0 → True)) (BB D cy (va_A w0 sz) (fun (u : Unit) => w0)) (va_A w0 sz)) 0 0 (va_A w0 sz) := by
  refine Met.ofW (cc := cX10_holds) (maxL := 8) (ret := (some .boolean)) (by decide) rfl ?_
  intro p e s m args below meth c s₁ B hml hv
  obtain ⟨rfl, hsz, hP, hK, hD0, hSD⟩ := hv
  have hx := B.exec
  have hb := B.bytes
  have hr := B.returns
  have hlocks := B.notSynchronized
  have hts : ∀ w ∈ gT, w.before _ s = true := fun w h => atoms_spec (ws := Cond.code yX10_holds cX10_holds 8 (some .boolean) :: gT) B.pre w (List.mem_cons_of_mem _ h)
  have hown : s.vm.findClass RX10 = some m.cls := findClass_of_methodNamed B.named
  subst hsz
  have hD := hD0.self (sz := s.heap.size)
  generalize hAe : va_A w0 s.heap.size = A at hD hSD ⊢
  have hA : ∀ q : Nat, s.heap.size ≤ q → A q := fun q h => by rw [← hAe]; exact Or.inr h
  have hl := lv_entry ([.ref p0, .int p1, .int p2]) (n := 8) (Nat.le_of_ble_eq_true rfl)
  rw [lg_entry_eq]
  generalize (lg_sl ([.ref p0, .int p1, .int p2]) ++ List.replicate (8 - (lg_sl ([.ref p0, .int p1, .int p2])).length) Slot.unset).toArray = ls at hl ⊢
  have hl : lv_has ls 8 [(0, .ref p0), (1, .int p1), (2, .int p2)] := hl
  refine nameQ (fun Q hQ => ?_)
  have hw : WD D cy GG A s wr_X10_holds__24 wa_X10_holds__24 Ps w0 Ps w0 s.heap [] := ⟨hT, hP, hD, va_S.rf, FR.rf, hT.1, [], (List.append_nil _).symm⟩
  have B312 : ∀ (x3 : Int32) (x4 : Int32) (x5 : Int32) (x6 : Int32) (y0 : Int32) (H : Heap) (locs : List Loc) (ls : Array Slot), RI p1 0 35 → RI p2 0 5 → RI x3 174 314 → RI x4 (-2147483648) 2147483647 → RI x5 (-2147483648) 2147483647 → RI x6 (-2147483648) 2147483647 → RI y0 (-2147483648) 2147483647 → WD D cy GG A s wr_X10_holds__24 wa_X10_holds__24 Ps w0 Ps w0 H locs → lv_has ls 8 [(0, .ref p0), (1, .int p1), (2, .int p2), (3, .int x3), (4, .int x4), (5, .int x5), (6, .int x6)] → W p l e (headSpec (Cond.code yX10_holds cX10_holds 8 (some .boolean) :: gT) ({ frames := 38, cells := 0, slots := 0, locals := 7600 } : Room)).room s m ([.ref p0, .int p1, .int p2] : List Value).toArray below meth c H locs 0 0 Q (F0 m 312 ls [.int y0]) := by
    intro x3 x4 x5 x6 y0 H locs ls r_p1 r_p2 r_x3 r_x4 r_x5 r_x6 r_y0 hw hl
    refine lv_istore (lv' := [(7, .int y0), (0, .ref p0), (1, .int p1), (2, .int p2), (3, .int x3), (4, .int x4), (5, .int x5), (6, .int x6)]) hx hb dX10_holds_312 hl (by decide) rfl (fun ls hl => ?_)
    refine lv_aload_n hx hb dX10_holds_314 rfl (lv_at hl 1 rfl) ?_
    refine tg_get (ci := 10) (ts := ty_MODEL) (C := RX10) (T := TX10) (N := 49) hx hb hts inX10 hown hK hw h_p0 rfl rfl 14 (by decide) (hts _ tw_1151) (fun _ h9 => h9) (ft := vR 34) rfl dX10_holds_315 (fun u_1 hv_u_1 m_u_1 => ?_)
    obtain ⟨vu_1, rfl, h_vu_1⟩ := hv_u_1
    refine lv_iload_n hx hb dX10_holds_318 rfl (lv_at hl 4 rfl) ?_
    refine lv_iconst (v := 3) hx hb dX10_holds_319 (by decide) ?_
    refine lv_iadd hx hb dX10_holds_320 (lv_topi (fun v_2 e_v_2 => ?_))
    obtain ⟨t_v_2, r_v_2⟩ := tq_add (lo := 177) (hi := 317) r_x3 rl_3 (by decide +kernel) e_v_2
    have t_v_2 : v_2.toInt = x3.toInt + 3 := t_v_2
    refine tg_iald (lo := (-2147483648)) (hi := 2147483647) hx hb hK hw h_vu_1 rfl 177 317 r_v_2 (by decide) (by decide +kernel) dX10_holds_321 (fun v_3 r_v_3 m_v_3 o_v_3 => ?_)
    refine lv_bipush (v := 60) hx hb dX10_holds_322 (by decide) ?_
    refine lv_icmp_ne (tgt := 342) hx hb dX10_holds_324 (by decide) (fun c_324 => ?_) (fun c_324 => ?_)
    · refine lv_aload_n hx hb dX10_holds_342 rfl (lv_at hl 1 rfl) ?_
      refine tg_mem (ci := 10) (C := RX10) (T := TX10) (N := 49) hx hb hts inX10 hown hK hw 14 m_u_1 rfl (by decide) (hts _ tw_1151) (fun _ h9 => h9) dX10_holds_343 ?_
      refine lv_iload_n hx hb dX10_holds_346 rfl (lv_at hl 4 rfl) ?_
      refine lv_iconst (v := 3) hx hb dX10_holds_347 (by decide) ?_
      refine lv_iadd hx hb dX10_holds_348 (lv_topi (fun v_4 e_v_4 => ?_))
      obtain ⟨t_v_4, r_v_4⟩ := tq_add (lo := 177) (hi := 317) r_x3 rl_3 (by decide +kernel) e_v_4
      have t_v_4 : v_4.toInt = x3.toInt + 3 := t_v_4
      refine tg_iald (lo := (-2147483648)) (hi := 2147483647) hx hb hK hw h_vu_1 rfl 177 317 r_v_4 (by decide) (by decide +kernel) dX10_holds_349 (fun v_5 r_v_5 m_v_5 o_v_5 => ?_)
      refine lv_bipush (v := 61) hx hb dX10_holds_350 (by decide) ?_
      refine lv_icmp_ne (tgt := 370) hx hb dX10_holds_352 (by decide) (fun c_352 => ?_) (fun c_352 => ?_)
      · refine lv_iload hx hb dX10_holds_370 (lv_at hl 0 rfl) ?_
        refine lv_iload hx hb dX10_holds_372 (lv_at hl 6 rfl) ?_
        refine lv_icmp_le (tgt := 381) hx hb dX10_holds_374 (by decide) (fun c_374 => ?_) (fun c_374 => ?_)
        · refine lv_iconst (v := 0) hx hb dX10_holds_381 (by decide) ?_
          subst hQ
          exact W.zret (v := 0) hx hb hr (rfl) (fun t ht hW => ⟨⟨0, (), rfl, ⟨rl_0.to (by decide), (fun h0 => trivial), (fun _ => trivial)⟩, by rw [ht]; exact hw.2.1, va_K.moved hW.alike hK, hw.2.2.1⟩, hw.2.2.2.1.F ht⟩) hw.2.2.2.1.2.2 dX10_holds_382
        · have r_x5 : RI x5 (-2147483648) 2147483646 := rc_lt1 r_x5 r_y0 (ti_nle c_374) (by decide)
          have r_y0 : RI y0 (-2147483647) 2147483647 := rc_lt2 r_x5 r_y0 (ti_nle c_374) (by decide)
          refine lv_iconst (v := 1) hx hb dX10_holds_377 (by decide) ?_
          refine lv_goto (tgt := 382) hx hb dX10_holds_378 (by decide) ?_
          subst hQ
          exact W.zret (v := 1) hx hb hr (rfl) (fun t ht hW => ⟨⟨1, (), rfl, ⟨rl_1.to (by decide), (fun _ => trivial), (fun h0 => trivial)⟩, by rw [ht]; exact hw.2.1, va_K.moved hW.alike hK, hw.2.2.1⟩, hw.2.2.2.1.F ht⟩) hw.2.2.2.1.2.2 dX10_holds_382
      · have r_v_5 : RI v_5 61 61 := rc_eq1 r_v_5 rl_61 (ti_eq c_352) (by decide)
        refine lv_iload hx hb dX10_holds_355 (lv_at hl 0 rfl) ?_
        refine lv_iload hx hb dX10_holds_357 (lv_at hl 6 rfl) ?_
        refine lv_icmp_ne (tgt := 366) hx hb dX10_holds_359 (by decide) (fun c_359 => ?_) (fun c_359 => ?_)
        · refine lv_iconst (v := 0) hx hb dX10_holds_366 (by decide) ?_
          refine lv_goto (tgt := 382) hx hb dX10_holds_367 (by decide) ?_
          subst hQ
          exact W.zret (v := 0) hx hb hr (rfl) (fun t ht hW => ⟨⟨0, (), rfl, ⟨rl_0.to (by decide), (fun h0 => trivial), (fun _ => trivial)⟩, by rw [ht]; exact hw.2.1, va_K.moved hW.alike hK, hw.2.2.1⟩, hw.2.2.2.1.F ht⟩) hw.2.2.2.1.2.2 dX10_holds_382
        · refine lv_iconst (v := 1) hx hb dX10_holds_362 (by decide) ?_
          refine lv_goto (tgt := 382) hx hb dX10_holds_363 (by decide) ?_
          subst hQ
          exact W.zret (v := 1) hx hb hr (rfl) (fun t ht hW => ⟨⟨1, (), rfl, ⟨rl_1.to (by decide), (fun _ => trivial), (fun h0 => trivial)⟩, by rw [ht]; exact hw.2.1, va_K.moved hW.alike hK, hw.2.2.1⟩, hw.2.2.2.1.F ht⟩) hw.2.2.2.1.2.2 dX10_holds_382
    · have r_v_3 : RI v_3 60 60 := rc_eq1 r_v_3 rl_60 (ti_eq c_324) (by decide)
      refine lv_iload hx hb dX10_holds_327 (lv_at hl 0 rfl) ?_
      refine lv_iload hx hb dX10_holds_329 (lv_at hl 6 rfl) ?_
      refine lv_icmp_ge (tgt := 338) hx hb dX10_holds_331 (by decide) (fun c_331 => ?_) (fun c_331 => ?_)
      · refine lv_iconst (v := 0) hx hb dX10_holds_338 (by decide) ?_
        refine lv_goto (tgt := 382) hx hb dX10_holds_339 (by decide) ?_
        subst hQ
        exact W.zret (v := 0) hx hb hr (rfl) (fun t ht hW => ⟨⟨0, (), rfl, ⟨rl_0.to (by decide), (fun h0 => trivial), (fun _ => trivial)⟩, by rw [ht]; exact hw.2.1, va_K.moved hW.alike hK, hw.2.2.1⟩, hw.2.2.2.1.F ht⟩) hw.2.2.2.1.2.2 dX10_holds_382
      · have r_y0 : RI y0 (-2147483648) 2147483646 := rc_lt1 r_y0 r_x5 (ti_nle c_331) (by decide)
        have r_x5 : RI x5 (-2147483647) 2147483647 := rc_lt2 r_y0 r_x5 (ti_nle c_331) (by decide)
        refine lv_iconst (v := 1) hx hb dX10_holds_334 (by decide) ?_
        refine lv_goto (tgt := 382) hx hb dX10_holds_335 (by decide) ?_
        subst hQ
        exact W.zret (v := 1) hx hb hr (rfl) (fun t ht hW => ⟨⟨1, (), rfl, ⟨rl_1.to (by decide), (fun _ => trivial), (fun h0 => trivial)⟩, by rw [ht]; exact hw.2.1, va_K.moved hW.alike hK, hw.2.2.1⟩, hw.2.2.2.1.F ht⟩) hw.2.2.2.1.2.2 dX10_holds_382
  refine lv_sipush (v := 174) hx hb dX10_holds_0 (by decide) ?_
  refine lv_iconst (v := 4) hx hb dX10_holds_3 (by decide) ?_
  refine lv_iload_n hx hb dX10_holds_4 rfl (lv_at hl 1 rfl) ?_
  refine lv_imul hx hb dX10_holds_5 (lv_topi (fun v_6 e_v_6 => ?_))
  obtain ⟨t_v_6, r_v_6⟩ := tq_mul (lo := 0) (hi := 140) rl_4 r_p1 (by decide +kernel) e_v_6
  have t_v_6 : v_6.toInt = 4 * p1.toInt := t_v_6
  refine lv_iadd hx hb dX10_holds_6 (lv_topi (fun v_7 e_v_7 => ?_))
  obtain ⟨t_v_7, r_v_7⟩ := tq_add (lo := 174) (hi := 314) rl_174 r_v_6 (by decide +kernel) e_v_7
  have t_v_7 : v_7.toInt = 174 + v_6.toInt := t_v_7
  refine lv_istore_n (lv' := [(3, .int v_7), (0, .ref p0), (1, .int p1), (2, .int p2)]) hx hb dX10_holds_7 rfl hl (by decide) rfl (fun ls hl => ?_)
  refine lv_aload_n hx hb dX10_holds_8 rfl (lv_at hl 1 rfl) ?_
  refine tg_get (ci := 10) (ts := ty_MODEL) (C := RX10) (T := TX10) (N := 49) hx hb hts inX10 hown hK hw h_p0 rfl rfl 14 (by decide) (hts _ tw_1151) (fun _ h9 => h9) (ft := vR 34) rfl dX10_holds_9 (fun u_8 hv_u_8 m_u_8 => ?_)
  obtain ⟨vu_8, rfl, h_vu_8⟩ := hv_u_8
  refine lv_iload_n hx hb dX10_holds_12 rfl (lv_at hl 0 rfl) ?_
  refine lv_iconst (v := 1) hx hb dX10_holds_13 (by decide) ?_
  refine lv_iadd hx hb dX10_holds_14 (lv_topi (fun v_9 e_v_9 => ?_))
  obtain ⟨t_v_9, r_v_9⟩ := tq_add (lo := 175) (hi := 315) r_v_7 rl_1 (by decide +kernel) e_v_9
  have t_v_9 : v_9.toInt = v_7.toInt + 1 := t_v_9
  refine tg_iald (lo := (-2147483648)) (hi := 2147483647) hx hb hK hw h_vu_8 rfl 175 315 r_v_9 (by decide) (by decide +kernel) dX10_holds_15 (fun v_10 r_v_10 m_v_10 o_v_10 => ?_)
  refine lv_istore (lv' := [(4, .int v_10), (3, .int v_7), (0, .ref p0), (1, .int p1), (2, .int p2)]) hx hb dX10_holds_16 hl (by decide) rfl (fun ls hl => ?_)
  refine lv_aload_n hx hb dX10_holds_18 rfl (lv_at hl 2 rfl) ?_
  refine tg_mem (ci := 10) (C := RX10) (T := TX10) (N := 49) hx hb hts inX10 hown hK hw 14 m_u_8 rfl (by decide) (hts _ tw_1151) (fun _ h9 => h9) dX10_holds_19 ?_
  refine lv_iload_n hx hb dX10_holds_22 rfl (lv_at hl 1 rfl) ?_
  refine lv_iconst (v := 2) hx hb dX10_holds_23 (by decide) ?_
  refine lv_iadd hx hb dX10_holds_24 (lv_topi (fun v_11 e_v_11 => ?_))
  obtain ⟨t_v_11, r_v_11⟩ := tq_add (lo := 176) (hi := 316) r_v_7 rl_2 (by decide +kernel) e_v_11
  have t_v_11 : v_11.toInt = v_7.toInt + 2 := t_v_11
  refine tg_iald (lo := (-2147483648)) (hi := 2147483647) hx hb hK hw h_vu_8 rfl 176 316 r_v_11 (by decide) (by decide +kernel) dX10_holds_25 (fun v_12 r_v_12 m_v_12 o_v_12 => ?_)
  refine lv_istore (lv' := [(5, .int v_12), (4, .int v_10), (3, .int v_7), (0, .ref p0), (1, .int p1), (2, .int p2)]) hx hb dX10_holds_26 hl (by decide) rfl (fun ls hl => ?_)
  refine lv_aload_n hx hb dX10_holds_28 rfl (lv_at hl 3 rfl) ?_
  refine tg_mem (ci := 10) (C := RX10) (T := TX10) (N := 49) hx hb hts inX10 hown hK hw 14 m_u_8 rfl (by decide) (hts _ tw_1151) (fun _ h9 => h9) dX10_holds_29 ?_
  refine lv_iload_n hx hb dX10_holds_32 rfl (lv_at hl 2 rfl) ?_
  refine tg_iald (lo := (-2147483648)) (hi := 2147483647) hx hb hK hw h_vu_8 rfl 174 314 r_v_7 (by decide) (by decide +kernel) dX10_holds_33 (fun v_13 r_v_13 m_v_13 o_v_13 => ?_)
  by_cases k_34_1 : v_13 = 1
  · refine lv_lookup (tgt := 108) (off := 74) hx hb dX10_holds_34 (by decide) (by rw [k_34_1]; decide) (by decide) ?_
    have r_v_13 : RI v_13 1 1 := by rw [k_34_1]; exact rl_1
    have g_v_10 : 0 ≤ v_10.toInt ∧ v_10.toInt < p1.toInt := by obtain ⟨_, f9, e8, e7, q9, _⟩ := ax_of (k := 14) (t := 34) hw h_p0 rfl (fun _ => rfl); cases FLD.inj hw.2.2.1 e8 m_u_8; have t9 := ARR.ael hw.2.2.1 e7 m_v_13; have x9 := ARR.ael hw.2.2.1 e7 m_v_10; rw [show Int32.toNatClampNeg v_7 = 174 + 4 * Int32.toNatClampNeg p1 from (by have k1 := r_v_7.cl (by decide); have k2 := r_p1.cl (by decide); omega)] at t9; rw [show Int32.toNatClampNeg v_9 = 175 + 4 * Int32.toNatClampNeg p1 from (by have k1 := r_v_9.cl (by decide); have k2 := r_p1.cl (by decide); omega)] at x9; exact RN_child q9 (r_p1.to (by decide)) t9 x9 (r_v_13.to (by decide))
    have r_v_10 : RI v_10 0 34 := ⟨g_v_10.1, by have k1 := r_p1.2; omega⟩
    refine lv_aload_n hx hb dX10_holds_108 rfl (lv_at hl 3 rfl) ?_
    refine lv_iload hx hb dX10_holds_109 (lv_at hl 1 rfl) ?_
    refine lv_iload_n hx hb dX10_holds_111 rfl (lv_at hl 5 rfl) ?_
    refine tk_ir (va_runV (As := [.int v_10, .int p2]) (rest := []) ⟨hx, hb, hml, hown, hts⟩ (c_X10_holds__25 l D cy z s.heap.size Ps w0 hw.1 p0 v_10 p2 h_p0 r_v_10 r_p2) (cwV 2 hts (gV tw_1787 tw_1789 ts_119 tw_15 tw_1790) rfl rfl rfl (by decide +kernel) ⟨Nat.le_of_ble_eq_true rfl, Nat.le_of_ble_eq_true rfl⟩) (tg_preV hw hK hSD hA (ci := 10) (q := (RX10, TX10, 49)) rfl h_p0 rfl) rfl rfl hl.1 rfl (lv_room (Nat.le_of_ble_eq_true rfl)) dX10_holds_112 ⟨Nat.le_of_ble_eq_true rfl, Nat.le_of_ble_eq_true rfl⟩) hw hA (fun v_14  H locs hp_v_14 hw => ?_)
    have r_v_14 : RI v_14 0 1 := hp_v_14.1
    refine lv_if_ne (tgt := 122) hx hb dX10_holds_115 (by decide) (fun c_115 => ?_) (fun c_115 => ?_)
    · have r_v_14 : RI v_14 1 1 := rc_neL r_v_14 rl_0 (ti_ne c_115) (by decide)
      refine lv_iconst (v := 0) hx hb dX10_holds_122 (by decide) ?_
      subst hQ
      exact W.zret (v := 0) hx hb hr (rfl) (fun t ht hW => ⟨⟨0, (), rfl, ⟨rl_0.to (by decide), (fun h0 => trivial), (fun _ => trivial)⟩, by rw [ht]; exact hw.2.1, va_K.moved hW.alike hK, hw.2.2.1⟩, hw.2.2.2.1.F ht⟩) hw.2.2.2.1.2.2 dX10_holds_123
    · have r_v_14 : RI v_14 0 0 := rc_eq1 r_v_14 rl_0 (ti_eq c_115) (by decide)
      refine lv_iconst (v := 1) hx hb dX10_holds_118 (by decide) ?_
      refine lv_goto (tgt := 123) hx hb dX10_holds_119 (by decide) ?_
      subst hQ
      exact W.zret (v := 1) hx hb hr (rfl) (fun t ht hW => ⟨⟨1, (), rfl, ⟨rl_1.to (by decide), (fun _ => trivial), (fun h0 => trivial)⟩, by rw [ht]; exact hw.2.1, va_K.moved hW.alike hK, hw.2.2.1⟩, hw.2.2.2.1.F ht⟩) hw.2.2.2.1.2.2 dX10_holds_123
  · by_cases k_34_2 : v_13 = 2
    · refine lv_lookup (tgt := 124) (off := 90) hx hb dX10_holds_34 (by decide) (by rw [k_34_2]; decide) (by decide) ?_
      have r_v_13 : RI v_13 2 2 := by rw [k_34_2]; exact rl_2
      have g_v_10 : 0 ≤ v_10.toInt ∧ v_10.toInt < p1.toInt := by obtain ⟨_, f9, e8, e7, q9, _⟩ := ax_of (k := 14) (t := 34) hw h_p0 rfl (fun _ => rfl); cases FLD.inj hw.2.2.1 e8 m_u_8; have t9 := ARR.ael hw.2.2.1 e7 m_v_13; have x9 := ARR.ael hw.2.2.1 e7 m_v_10; rw [show Int32.toNatClampNeg v_7 = 174 + 4 * Int32.toNatClampNeg p1 from (by have k1 := r_v_7.cl (by decide); have k2 := r_p1.cl (by decide); omega)] at t9; rw [show Int32.toNatClampNeg v_9 = 175 + 4 * Int32.toNatClampNeg p1 from (by have k1 := r_v_9.cl (by decide); have k2 := r_p1.cl (by decide); omega)] at x9; exact RN_child q9 (r_p1.to (by decide)) t9 x9 (r_v_13.to (by decide))
      have r_v_10 : RI v_10 0 34 := ⟨g_v_10.1, by have k1 := r_p1.2; omega⟩
      have g_v_12 : 0 ≤ v_12.toInt ∧ v_12.toInt < p1.toInt := by obtain ⟨_, f9, e8, e7, q9, _⟩ := ax_of (k := 14) (t := 34) hw h_p0 rfl (fun _ => rfl); cases FLD.inj hw.2.2.1 e8 m_u_8; have t9 := ARR.ael hw.2.2.1 e7 m_v_13; have x9 := ARR.ael hw.2.2.1 e7 m_v_12; rw [show Int32.toNatClampNeg v_7 = 174 + 4 * Int32.toNatClampNeg p1 from (by have k1 := r_v_7.cl (by decide); have k2 := r_p1.cl (by decide); omega)] at t9; rw [show Int32.toNatClampNeg v_11 = 176 + 4 * Int32.toNatClampNeg p1 from (by have k1 := r_v_11.cl (by decide); have k2 := r_p1.cl (by decide); omega)] at x9; exact RN_child2 q9 (r_p1.to (by decide)) t9 x9 (r_v_13.to (by decide))
      have r_v_12 : RI v_12 0 34 := ⟨g_v_12.1, by have k1 := r_p1.2; omega⟩
      refine lv_aload_n hx hb dX10_holds_124 rfl (lv_at hl 3 rfl) ?_
      refine lv_iload hx hb dX10_holds_125 (lv_at hl 1 rfl) ?_
      refine lv_iload_n hx hb dX10_holds_127 rfl (lv_at hl 5 rfl) ?_
      refine tk_ir (va_runV (As := [.int v_10, .int p2]) (rest := []) ⟨hx, hb, hml, hown, hts⟩ (c_X10_holds__25 l D cy z s.heap.size Ps w0 hw.1 p0 v_10 p2 h_p0 r_v_10 r_p2) (cwV 2 hts (gV tw_1787 tw_1789 ts_119 tw_15 tw_1790) rfl rfl rfl (by decide +kernel) ⟨Nat.le_of_ble_eq_true rfl, Nat.le_of_ble_eq_true rfl⟩) (tg_preV hw hK hSD hA (ci := 10) (q := (RX10, TX10, 49)) rfl h_p0 rfl) rfl rfl hl.1 rfl (lv_room (Nat.le_of_ble_eq_true rfl)) dX10_holds_128 ⟨Nat.le_of_ble_eq_true rfl, Nat.le_of_ble_eq_true rfl⟩) hw hA (fun v_15  H locs hp_v_15 hw => ?_)
      have r_v_15 : RI v_15 0 1 := hp_v_15.1
      refine lv_if_eq (tgt := 148) hx hb dX10_holds_131 (by decide) (fun c_131 => ?_) (fun c_131 => ?_)
      · have r_v_15 : RI v_15 0 0 := rc_eq1 r_v_15 rl_0 (ti_eq c_131) (by decide)
        refine lv_iconst (v := 0) hx hb dX10_holds_148 (by decide) ?_
        subst hQ
        exact W.zret (v := 0) hx hb hr (rfl) (fun t ht hW => ⟨⟨0, (), rfl, ⟨rl_0.to (by decide), (fun h0 => trivial), (fun _ => trivial)⟩, by rw [ht]; exact hw.2.1, va_K.moved hW.alike hK, hw.2.2.1⟩, hw.2.2.2.1.F ht⟩) hw.2.2.2.1.2.2 dX10_holds_149
      · have r_v_15 : RI v_15 1 1 := rc_neL r_v_15 rl_0 (ti_ne c_131) (by decide)
        refine lv_aload_n hx hb dX10_holds_134 rfl (lv_at hl 3 rfl) ?_
        refine lv_iload hx hb dX10_holds_135 (lv_at hl 0 rfl) ?_
        refine lv_iload_n hx hb dX10_holds_137 rfl (lv_at hl 5 rfl) ?_
        refine tk_ir (va_runV (As := [.int v_12, .int p2]) (rest := []) ⟨hx, hb, hml, hown, hts⟩ (c_X10_holds__25 l D cy z H.size Ps w0 hw.1 p0 v_12 p2 h_p0 r_v_12 r_p2) (cwV 2 hts (gV tw_1787 tw_1789 ts_119 tw_15 tw_1790) rfl rfl rfl (by decide +kernel) ⟨Nat.le_of_ble_eq_true rfl, Nat.le_of_ble_eq_true rfl⟩) (tg_preV hw hK hSD hA (ci := 10) (q := (RX10, TX10, 49)) rfl h_p0 rfl) rfl rfl hl.1 rfl (lv_room (Nat.le_of_ble_eq_true rfl)) dX10_holds_138 ⟨Nat.le_of_ble_eq_true rfl, Nat.le_of_ble_eq_true rfl⟩) hw hA (fun v_16  H locs hp_v_16 hw => ?_)
        have r_v_16 : RI v_16 0 1 := hp_v_16.1
        refine lv_if_eq (tgt := 148) hx hb dX10_holds_141 (by decide) (fun c_141 => ?_) (fun c_141 => ?_)
        · have r_v_16 : RI v_16 0 0 := rc_eq1 r_v_16 rl_0 (ti_eq c_141) (by decide)
          refine lv_iconst (v := 0) hx hb dX10_holds_148 (by decide) ?_
          subst hQ
          exact W.zret (v := 0) hx hb hr (rfl) (fun t ht hW => ⟨⟨0, (), rfl, ⟨rl_0.to (by decide), (fun h0 => trivial), (fun _ => trivial)⟩, by rw [ht]; exact hw.2.1, va_K.moved hW.alike hK, hw.2.2.1⟩, hw.2.2.2.1.F ht⟩) hw.2.2.2.1.2.2 dX10_holds_149
        · have r_v_16 : RI v_16 1 1 := rc_neL r_v_16 rl_0 (ti_ne c_141) (by decide)
          refine lv_iconst (v := 1) hx hb dX10_holds_144 (by decide) ?_
          refine lv_goto (tgt := 149) hx hb dX10_holds_145 (by decide) ?_
          subst hQ
          exact W.zret (v := 1) hx hb hr (rfl) (fun t ht hW => ⟨⟨1, (), rfl, ⟨rl_1.to (by decide), (fun _ => trivial), (fun h0 => trivial)⟩, by rw [ht]; exact hw.2.1, va_K.moved hW.alike hK, hw.2.2.1⟩, hw.2.2.2.1.F ht⟩) hw.2.2.2.1.2.2 dX10_holds_149
    · by_cases k_34_3 : v_13 = 3
      · refine lv_lookup (tgt := 150) (off := 116) hx hb dX10_holds_34 (by decide) (by rw [k_34_3]; decide) (by decide) ?_
        have r_v_13 : RI v_13 3 3 := by rw [k_34_3]; exact rl_3
        have g_v_10 : 0 ≤ v_10.toInt ∧ v_10.toInt < p1.toInt := by obtain ⟨_, f9, e8, e7, q9, _⟩ := ax_of (k := 14) (t := 34) hw h_p0 rfl (fun _ => rfl); cases FLD.inj hw.2.2.1 e8 m_u_8; have t9 := ARR.ael hw.2.2.1 e7 m_v_13; have x9 := ARR.ael hw.2.2.1 e7 m_v_10; rw [show Int32.toNatClampNeg v_7 = 174 + 4 * Int32.toNatClampNeg p1 from (by have k1 := r_v_7.cl (by decide); have k2 := r_p1.cl (by decide); omega)] at t9; rw [show Int32.toNatClampNeg v_9 = 175 + 4 * Int32.toNatClampNeg p1 from (by have k1 := r_v_9.cl (by decide); have k2 := r_p1.cl (by decide); omega)] at x9; exact RN_child q9 (r_p1.to (by decide)) t9 x9 (r_v_13.to (by decide))
        have r_v_10 : RI v_10 0 34 := ⟨g_v_10.1, by have k1 := r_p1.2; omega⟩
        have g_v_12 : 0 ≤ v_12.toInt ∧ v_12.toInt < p1.toInt := by obtain ⟨_, f9, e8, e7, q9, _⟩ := ax_of (k := 14) (t := 34) hw h_p0 rfl (fun _ => rfl); cases FLD.inj hw.2.2.1 e8 m_u_8; have t9 := ARR.ael hw.2.2.1 e7 m_v_13; have x9 := ARR.ael hw.2.2.1 e7 m_v_12; rw [show Int32.toNatClampNeg v_7 = 174 + 4 * Int32.toNatClampNeg p1 from (by have k1 := r_v_7.cl (by decide); have k2 := r_p1.cl (by decide); omega)] at t9; rw [show Int32.toNatClampNeg v_11 = 176 + 4 * Int32.toNatClampNeg p1 from (by have k1 := r_v_11.cl (by decide); have k2 := r_p1.cl (by decide); omega)] at x9; exact RN_child2 q9 (r_p1.to (by decide)) t9 x9 (r_v_13.to (by decide))
        have r_v_12 : RI v_12 0 34 := ⟨g_v_12.1, by have k1 := r_p1.2; omega⟩
        refine lv_aload_n hx hb dX10_holds_150 rfl (lv_at hl 3 rfl) ?_
        refine lv_iload hx hb dX10_holds_151 (lv_at hl 1 rfl) ?_
        refine lv_iload_n hx hb dX10_holds_153 rfl (lv_at hl 5 rfl) ?_
        refine tk_ir (va_runV (As := [.int v_10, .int p2]) (rest := []) ⟨hx, hb, hml, hown, hts⟩ (c_X10_holds__25 l D cy z s.heap.size Ps w0 hw.1 p0 v_10 p2 h_p0 r_v_10 r_p2) (cwV 2 hts (gV tw_1787 tw_1789 ts_119 tw_15 tw_1790) rfl rfl rfl (by decide +kernel) ⟨Nat.le_of_ble_eq_true rfl, Nat.le_of_ble_eq_true rfl⟩) (tg_preV hw hK hSD hA (ci := 10) (q := (RX10, TX10, 49)) rfl h_p0 rfl) rfl rfl hl.1 rfl (lv_room (Nat.le_of_ble_eq_true rfl)) dX10_holds_154 ⟨Nat.le_of_ble_eq_true rfl, Nat.le_of_ble_eq_true rfl⟩) hw hA (fun v_17  H locs hp_v_17 hw => ?_)
        have r_v_17 : RI v_17 0 1 := hp_v_17.1
        refine lv_if_ne (tgt := 170) hx hb dX10_holds_157 (by decide) (fun c_157 => ?_) (fun c_157 => ?_)
        · have r_v_17 : RI v_17 1 1 := rc_neL r_v_17 rl_0 (ti_ne c_157) (by decide)
          refine lv_iconst (v := 1) hx hb dX10_holds_170 (by decide) ?_
          refine lv_goto (tgt := 175) hx hb dX10_holds_171 (by decide) ?_
          subst hQ
          exact W.zret (v := 1) hx hb hr (rfl) (fun t ht hW => ⟨⟨1, (), rfl, ⟨rl_1.to (by decide), (fun _ => trivial), (fun h0 => trivial)⟩, by rw [ht]; exact hw.2.1, va_K.moved hW.alike hK, hw.2.2.1⟩, hw.2.2.2.1.F ht⟩) hw.2.2.2.1.2.2 dX10_holds_175
        · have r_v_17 : RI v_17 0 0 := rc_eq1 r_v_17 rl_0 (ti_eq c_157) (by decide)
          refine lv_aload_n hx hb dX10_holds_160 rfl (lv_at hl 3 rfl) ?_
          refine lv_iload hx hb dX10_holds_161 (lv_at hl 0 rfl) ?_
          refine lv_iload_n hx hb dX10_holds_163 rfl (lv_at hl 5 rfl) ?_
          refine tk_ir (va_runV (As := [.int v_12, .int p2]) (rest := []) ⟨hx, hb, hml, hown, hts⟩ (c_X10_holds__25 l D cy z H.size Ps w0 hw.1 p0 v_12 p2 h_p0 r_v_12 r_p2) (cwV 2 hts (gV tw_1787 tw_1789 ts_119 tw_15 tw_1790) rfl rfl rfl (by decide +kernel) ⟨Nat.le_of_ble_eq_true rfl, Nat.le_of_ble_eq_true rfl⟩) (tg_preV hw hK hSD hA (ci := 10) (q := (RX10, TX10, 49)) rfl h_p0 rfl) rfl rfl hl.1 rfl (lv_room (Nat.le_of_ble_eq_true rfl)) dX10_holds_164 ⟨Nat.le_of_ble_eq_true rfl, Nat.le_of_ble_eq_true rfl⟩) hw hA (fun v_18  H locs hp_v_18 hw => ?_)
          have r_v_18 : RI v_18 0 1 := hp_v_18.1
          refine lv_if_eq (tgt := 174) hx hb dX10_holds_167 (by decide) (fun c_167 => ?_) (fun c_167 => ?_)
          · have r_v_18 : RI v_18 0 0 := rc_eq1 r_v_18 rl_0 (ti_eq c_167) (by decide)
            refine lv_iconst (v := 0) hx hb dX10_holds_174 (by decide) ?_
            subst hQ
            exact W.zret (v := 0) hx hb hr (rfl) (fun t ht hW => ⟨⟨0, (), rfl, ⟨rl_0.to (by decide), (fun h0 => trivial), (fun _ => trivial)⟩, by rw [ht]; exact hw.2.1, va_K.moved hW.alike hK, hw.2.2.1⟩, hw.2.2.2.1.F ht⟩) hw.2.2.2.1.2.2 dX10_holds_175
          · have r_v_18 : RI v_18 1 1 := rc_neL r_v_18 rl_0 (ti_ne c_167) (by decide)
            refine lv_iconst (v := 1) hx hb dX10_holds_170 (by decide) ?_
            refine lv_goto (tgt := 175) hx hb dX10_holds_171 (by decide) ?_
            subst hQ
            exact W.zret (v := 1) hx hb hr (rfl) (fun t ht hW => ⟨⟨1, (), rfl, ⟨rl_1.to (by decide), (fun _ => trivial), (fun h0 => trivial)⟩, by rw [ht]; exact hw.2.1, va_K.moved hW.alike hK, hw.2.2.1⟩, hw.2.2.2.1.F ht⟩) hw.2.2.2.1.2.2 dX10_holds_175
      · by_cases k_34_69 : v_13 = 69
        · refine lv_lookup (tgt := 176) (off := 142) hx hb dX10_holds_34 (by decide) (by rw [k_34_69]; decide) (by decide) ?_
          have r_v_13 : RI v_13 69 69 := by rw [k_34_69]; exact rl_69
          refine lv_aload_n hx hb dX10_holds_176 rfl (lv_at hl 3 rfl) ?_
          refine lv_iload_n hx hb dX10_holds_177 rfl (lv_at hl 5 rfl) ?_
          refine tk_ir (va_runV (As := [.int p2]) (rest := []) ⟨hx, hb, hml, hown, hts⟩ (c_X10_isOpen l D cy z s.heap.size Ps w0 hw.1 p0 p2 h_p0 (r_p2.to (by decide))) (cwV 1 hts (gV tw_1457 tw_1459 ts_71 tw_15 tw_1460) rfl rfl rfl (by decide +kernel) ⟨Nat.le_of_ble_eq_true rfl, Nat.le_of_ble_eq_true rfl⟩) (tg_preV hw hK hSD hA (ci := 10) (q := (RX10, TX10, 49)) rfl h_p0 rfl) rfl rfl hl.1 rfl (lv_room (Nat.le_of_ble_eq_true rfl)) dX10_holds_178 ⟨Nat.le_of_ble_eq_true rfl, Nat.le_of_ble_eq_true rfl⟩) hw hA (fun v_19  H locs hp_v_19 hw => ?_)
          have r_v_19 : RI v_19 0 1 := hp_v_19.1
          subst hQ
          exact W.zret (v := v_19) hx hb hr (tq_nz (r_v_19.to (by decide))) (fun t ht hW => ⟨⟨v_19, (), rfl, ⟨r_v_19.to (by decide), (fun h0 => trivial), (fun h0 => trivial)⟩, by rw [ht]; exact hw.2.1, va_K.moved hW.alike hK, hw.2.2.1⟩, hw.2.2.2.1.F ht⟩) hw.2.2.2.1.2.2 dX10_holds_181
        · by_cases k_34_70 : v_13 = 70
          · refine lv_lookup (tgt := 182) (off := 148) hx hb dX10_holds_34 (by decide) (by rw [k_34_70]; decide) (by decide) ?_
            have r_v_13 : RI v_13 70 70 := by rw [k_34_70]; exact rl_70
            refine lv_aload_n hx hb dX10_holds_182 rfl (lv_at hl 3 rfl) ?_
            refine lv_iload_n hx hb dX10_holds_183 rfl (lv_at hl 5 rfl) ?_
            refine tk_ir (va_runV (As := [.int p2]) (rest := []) ⟨hx, hb, hml, hown, hts⟩ (c_X10_whatIs l D cy z s.heap.size Ps w0 hw.1 p0 p2 h_p0 r_p2) (cwV 1 hts (gV tw_1449 tw_1451 ts_69 tw_15 tw_1452) rfl rfl rfl (by decide +kernel) ⟨Nat.le_of_ble_eq_true rfl, Nat.le_of_ble_eq_true rfl⟩) (tg_preV hw hK hSD hA (ci := 10) (q := (RX10, TX10, 49)) rfl h_p0 rfl) rfl rfl hl.1 rfl (lv_room (Nat.le_of_ble_eq_true rfl)) dX10_holds_184 ⟨Nat.le_of_ble_eq_true rfl, Nat.le_of_ble_eq_true rfl⟩) hw hA (fun v_20  H locs hp_v_20 hw => ?_)
            have r_v_20 : RI v_20 (-1) 5 := hp_v_20.1
            by_cases c9_v_20 : v_20.toInt < 0
            · have r_v_20 : RI v_20 (-1) (-1) := by unfold RI at r_v_20 ⊢; omega
              have x_NB_p0_p2 := (hp_v_20.2.2.2.2.1 (by omega)).1
              refine lv_iconst (v := (-1)) hx hb dX10_holds_187 (by decide) ?_
              refine lv_icmp_ne (tgt := 195) hx hb dX10_holds_188 (by decide) (fun c_188 => ?_) (fun c_188 => ?_)
              · exact absurd (r_v_20.eq.trans rl_m1.eq.symm) ((ti_ne c_188))
              · refine lv_iconst (v := 1) hx hb dX10_holds_191 (by decide) ?_
                refine lv_goto (tgt := 196) hx hb dX10_holds_192 (by decide) ?_
                subst hQ
                exact W.zret (v := 1) hx hb hr (rfl) (fun t ht hW => ⟨⟨1, (), rfl, ⟨rl_1.to (by decide), (fun _ => trivial), (fun h0 => trivial)⟩, by rw [ht]; exact hw.2.1, va_K.moved hW.alike hK, hw.2.2.1⟩, hw.2.2.2.1.F ht⟩) hw.2.2.2.1.2.2 dX10_holds_196
            · have r_v_20 : RI v_20 0 5 := by unfold RI at r_v_20 ⊢; omega
              have x_WB_p0_p2_v_20 := (hp_v_20.2.2.2.2.2 (by omega)).1
              refine lv_iconst (v := (-1)) hx hb dX10_holds_187 (by decide) ?_
              refine lv_icmp_ne (tgt := 195) hx hb dX10_holds_188 (by decide) (fun c_188 => ?_) (fun c_188 => ?_)
              · refine lv_iconst (v := 0) hx hb dX10_holds_195 (by decide) ?_
                subst hQ
                exact W.zret (v := 0) hx hb hr (rfl) (fun t ht hW => ⟨⟨0, (), rfl, ⟨rl_0.to (by decide), (fun h0 => trivial), (fun _ => trivial)⟩, by rw [ht]; exact hw.2.1, va_K.moved hW.alike hK, hw.2.2.1⟩, hw.2.2.2.1.F ht⟩) hw.2.2.2.1.2.2 dX10_holds_196
              · have r_v_20 : RI v_20 0 (-1) := rc_eq1 r_v_20 rl_m1 (ti_eq c_188) (by decide)
                exact (r_v_20.no (by decide)).elim
          · by_cases k_34_71 : v_13 = 71
            · refine lv_lookup (tgt := 197) (off := 163) hx hb dX10_holds_34 (by decide) (by rw [k_34_71]; decide) (by decide) ?_
              have r_v_13 : RI v_13 71 71 := by rw [k_34_71]; exact rl_71
              refine lv_aload_n hx hb dX10_holds_197 rfl (lv_at hl 3 rfl) ?_
              refine lv_iload_n hx hb dX10_holds_198 rfl (lv_at hl 5 rfl) ?_
              refine tk_ir (va_runV (As := [.int p2]) (rest := []) ⟨hx, hb, hml, hown, hts⟩ (c_X10_sittersOf l D cy z s.heap.size Ps w0 hw.1 p0 p2 h_p0 (r_p2.to (by decide))) (cwV 1 hts (gV tw_1461 tw_1463 ts_72 tw_15 tw_1464) rfl rfl rfl (by decide +kernel) ⟨Nat.le_of_ble_eq_true rfl, Nat.le_of_ble_eq_true rfl⟩) (tg_preV hw hK hSD hA (ci := 10) (q := (RX10, TX10, 49)) rfl h_p0 rfl) rfl rfl hl.1 rfl (lv_room (Nat.le_of_ble_eq_true rfl)) dX10_holds_199 ⟨Nat.le_of_ble_eq_true rfl, Nat.le_of_ble_eq_true rfl⟩) hw hA (fun v_21  H locs hp_v_21 hw => ?_)
              have r_v_21 : RI v_21 (-2147483648) 2147483647 := hp_v_21.1
              refine lv_if_eq (tgt := 209) hx hb dX10_holds_202 (by decide) (fun c_202 => ?_) (fun c_202 => ?_)
              · have r_v_21 : RI v_21 0 0 := rc_eq1 r_v_21 rl_0 (ti_eq c_202) (by decide)
                refine lv_iconst (v := 0) hx hb dX10_holds_209 (by decide) ?_
                subst hQ
                exact W.zret (v := 0) hx hb hr (rfl) (fun t ht hW => ⟨⟨0, (), rfl, ⟨rl_0.to (by decide), (fun h0 => trivial), (fun _ => trivial)⟩, by rw [ht]; exact hw.2.1, va_K.moved hW.alike hK, hw.2.2.1⟩, hw.2.2.2.1.F ht⟩) hw.2.2.2.1.2.2 dX10_holds_210
              · refine lv_iconst (v := 1) hx hb dX10_holds_205 (by decide) ?_
                refine lv_goto (tgt := 210) hx hb dX10_holds_206 (by decide) ?_
                subst hQ
                exact W.zret (v := 1) hx hb hr (rfl) (fun t ht hW => ⟨⟨1, (), rfl, ⟨rl_1.to (by decide), (fun _ => trivial), (fun h0 => trivial)⟩, by rw [ht]; exact hw.2.1, va_K.moved hW.alike hK, hw.2.2.1⟩, hw.2.2.2.1.F ht⟩) hw.2.2.2.1.2.2 dX10_holds_210
            · by_cases k_34_72 : v_13 = 72
              · refine lv_lookup (tgt := 211) (off := 177) hx hb dX10_holds_34 (by decide) (by rw [k_34_72]; decide) (by decide) ?_
                have r_v_13 : RI v_13 72 72 := by rw [k_34_72]; exact rl_72
                refine lv_aload_n hx hb dX10_holds_211 rfl (lv_at hl 3 rfl) ?_
                refine lv_iload_n hx hb dX10_holds_212 rfl (lv_at hl 5 rfl) ?_
                refine tk_ir (va_runV (As := [.int p2]) (rest := []) ⟨hx, hb, hml, hown, hts⟩ (c_X10_whatIs l D cy z s.heap.size Ps w0 hw.1 p0 p2 h_p0 r_p2) (cwV 1 hts (gV tw_1449 tw_1451 ts_69 tw_15 tw_1452) rfl rfl rfl (by decide +kernel) ⟨Nat.le_of_ble_eq_true rfl, Nat.le_of_ble_eq_true rfl⟩) (tg_preV hw hK hSD hA (ci := 10) (q := (RX10, TX10, 49)) rfl h_p0 rfl) rfl rfl hl.1 rfl (lv_room (Nat.le_of_ble_eq_true rfl)) dX10_holds_213 ⟨Nat.le_of_ble_eq_true rfl, Nat.le_of_ble_eq_true rfl⟩) hw hA (fun v_22  H locs hp_v_22 hw => ?_)
                have r_v_22 : RI v_22 (-1) 5 := hp_v_22.1
                by_cases c9_v_22 : v_22.toInt < 0
                · have r_v_22 : RI v_22 (-1) (-1) := by unfold RI at r_v_22 ⊢; omega
                  have x_NB_p0_p2 := (hp_v_22.2.2.2.2.1 (by omega)).1
                  refine lv_iload hx hb dX10_holds_216 (lv_at hl 1 rfl) ?_
                  refine lv_icmp_ne (tgt := 225) hx hb dX10_holds_218 (by decide) (fun c_218 => ?_) (fun c_218 => ?_)
                  · refine lv_iconst (v := 0) hx hb dX10_holds_225 (by decide) ?_
                    subst hQ
                    exact W.zret (v := 0) hx hb hr (rfl) (fun t ht hW => ⟨⟨0, (), rfl, ⟨rl_0.to (by decide), (fun h0 => trivial), (fun _ => trivial)⟩, by rw [ht]; exact hw.2.1, va_K.moved hW.alike hK, hw.2.2.1⟩, hw.2.2.2.1.F ht⟩) hw.2.2.2.1.2.2 dX10_holds_226
                  · have r_v_10 : RI v_10 (-1) (-1) := rc_eq2 r_v_22 r_v_10 (ti_eq c_218) (by decide)
                    refine lv_iconst (v := 1) hx hb dX10_holds_221 (by decide) ?_
                    refine lv_goto (tgt := 226) hx hb dX10_holds_222 (by decide) ?_
                    subst hQ
                    exact W.zret (v := 1) hx hb hr (rfl) (fun t ht hW => ⟨⟨1, (), rfl, ⟨rl_1.to (by decide), (fun _ => trivial), (fun h0 => trivial)⟩, by rw [ht]; exact hw.2.1, va_K.moved hW.alike hK, hw.2.2.1⟩, hw.2.2.2.1.F ht⟩) hw.2.2.2.1.2.2 dX10_holds_226
                · have r_v_22 : RI v_22 0 5 := by unfold RI at r_v_22 ⊢; omega
                  have x_WB_p0_p2_v_22 := (hp_v_22.2.2.2.2.2 (by omega)).1
                  refine lv_iload hx hb dX10_holds_216 (lv_at hl 1 rfl) ?_
                  refine lv_icmp_ne (tgt := 225) hx hb dX10_holds_218 (by decide) (fun c_218 => ?_) (fun c_218 => ?_)
                  · refine lv_iconst (v := 0) hx hb dX10_holds_225 (by decide) ?_
                    subst hQ
                    exact W.zret (v := 0) hx hb hr (rfl) (fun t ht hW => ⟨⟨0, (), rfl, ⟨rl_0.to (by decide), (fun h0 => trivial), (fun _ => trivial)⟩, by rw [ht]; exact hw.2.1, va_K.moved hW.alike hK, hw.2.2.1⟩, hw.2.2.2.1.F ht⟩) hw.2.2.2.1.2.2 dX10_holds_226
                  · have r_v_10 : RI v_10 0 5 := rc_eq2 r_v_22 r_v_10 (ti_eq c_218) (by decide)
                    refine lv_iconst (v := 1) hx hb dX10_holds_221 (by decide) ?_
                    refine lv_goto (tgt := 226) hx hb dX10_holds_222 (by decide) ?_
                    subst hQ
                    exact W.zret (v := 1) hx hb hr (rfl) (fun t ht hW => ⟨⟨1, (), rfl, ⟨rl_1.to (by decide), (fun _ => trivial), (fun h0 => trivial)⟩, by rw [ht]; exact hw.2.1, va_K.moved hW.alike hK, hw.2.2.1⟩, hw.2.2.2.1.F ht⟩) hw.2.2.2.1.2.2 dX10_holds_226
              · by_cases k_34_73 : v_13 = 73
                · refine lv_lookup (tgt := 227) (off := 193) hx hb dX10_holds_34 (by decide) (by rw [k_34_73]; decide) (by decide) ?_
                  have r_v_13 : RI v_13 73 73 := by rw [k_34_73]; exact rl_73
                  refine lv_aload_n hx hb dX10_holds_227 rfl (lv_at hl 3 rfl) ?_
                  refine tg_mem (ci := 10) (C := RX10) (T := TX10) (N := 49) hx hb hts inX10 hown hK hw 14 m_u_8 rfl (by decide) (hts _ tw_1151) (fun _ h9 => h9) dX10_holds_228 ?_
                  refine lv_bipush (v := 86) hx hb dX10_holds_231 (by decide) ?_
                  refine lv_iload_n hx hb dX10_holds_233 rfl (lv_at hl 5 rfl) ?_
                  refine lv_iadd hx hb dX10_holds_234 (lv_topi (fun v_23 e_v_23 => ?_))
                  obtain ⟨t_v_23, r_v_23⟩ := tq_add (lo := 86) (hi := 91) rl_86 r_p2 (by decide +kernel) e_v_23
                  have t_v_23 : v_23.toInt = 86 + p2.toInt := t_v_23
                  refine tg_iald (lo := (-2147483648)) (hi := 2147483647) hx hb hK hw h_vu_8 rfl 86 91 r_v_23 (by decide) (by decide +kernel) dX10_holds_235 (fun v_24 r_v_24 m_v_24 o_v_24 => ?_)
                  refine lv_iload hx hb dX10_holds_236 (lv_at hl 1 rfl) ?_
                  refine lv_icmp_ne (tgt := 245) hx hb dX10_holds_238 (by decide) (fun c_238 => ?_) (fun c_238 => ?_)
                  · refine lv_iconst (v := 0) hx hb dX10_holds_245 (by decide) ?_
                    subst hQ
                    exact W.zret (v := 0) hx hb hr (rfl) (fun t ht hW => ⟨⟨0, (), rfl, ⟨rl_0.to (by decide), (fun h0 => trivial), (fun _ => trivial)⟩, by rw [ht]; exact hw.2.1, va_K.moved hW.alike hK, hw.2.2.1⟩, hw.2.2.2.1.F ht⟩) hw.2.2.2.1.2.2 dX10_holds_246
                  · refine lv_iconst (v := 1) hx hb dX10_holds_241 (by decide) ?_
                    refine lv_goto (tgt := 246) hx hb dX10_holds_242 (by decide) ?_
                    subst hQ
                    exact W.zret (v := 1) hx hb hr (rfl) (fun t ht hW => ⟨⟨1, (), rfl, ⟨rl_1.to (by decide), (fun _ => trivial), (fun h0 => trivial)⟩, by rw [ht]; exact hw.2.1, va_K.moved hW.alike hK, hw.2.2.1⟩, hw.2.2.2.1.F ht⟩) hw.2.2.2.1.2.2 dX10_holds_246
                · refine lv_lookup (tgt := 247) (off := 213) hx hb dX10_holds_34 (by decide) ((lv_osw k_34_1 (by decide)).trans ((lv_osw k_34_2 (by decide)).trans ((lv_osw k_34_3 (by decide)).trans ((lv_osw k_34_69 (by decide)).trans ((lv_osw k_34_70 (by decide)).trans ((lv_osw k_34_71 (by decide)).trans ((lv_osw k_34_72 (by decide)).trans ((lv_osw k_34_73 (by decide)).trans (rfl))))))))) (by decide) ?_
                  refine lv_aload_n hx hb dX10_holds_247 rfl (lv_at hl 3 rfl) ?_
                  refine tg_mem (ci := 10) (C := RX10) (T := TX10) (N := 49) hx hb hts inX10 hown hK hw 14 m_u_8 rfl (by decide) (hts _ tw_1151) (fun _ h9 => h9) dX10_holds_248 ?_
                  refine lv_iload_n hx hb dX10_holds_251 rfl (lv_at hl 2 rfl) ?_
                  refine tg_imem hx hb hK hw h_vu_8 rfl r_v_7 (by decide) m_v_13 dX10_holds_252 ?_
                  refine lv_bipush (v := 50) hx hb dX10_holds_253 (by decide) ?_
                  refine lv_isub hx hb dX10_holds_255 (lv_topi (fun v_26 e_v_26 => ?_))
                  have r_v_26 := ri_any v_26
                  refine lv_istore (lv' := [(6, .int v_26), (5, .int v_12), (4, .int v_10), (3, .int v_7), (0, .ref p0), (1, .int p1), (2, .int p2)]) hx hb dX10_holds_256 hl (by decide) rfl (fun ls hl => ?_)
                  refine lv_iload hx hb dX10_holds_258 (lv_at hl 0 rfl) ?_
                  refine lv_bipush (v := 24) hx hb dX10_holds_260 (by decide) ?_
                  refine lv_icmp_ne (tgt := 273) hx hb dX10_holds_262 (by decide) (fun c_262 => ?_) (fun c_262 => ?_)
                  · refine lv_iload hx hb dX10_holds_273 (lv_at hl 0 rfl) ?_
                    refine lv_bipush (v := 25) hx hb dX10_holds_275 (by decide) ?_
                    refine lv_icmp_ne (tgt := 292) hx hb dX10_holds_277 (by decide) (fun c_277 => ?_) (fun c_277 => ?_)
                    · refine lv_iload hx hb dX10_holds_292 (lv_at hl 0 rfl) ?_
                      refine lv_bipush (v := 26) hx hb dX10_holds_294 (by decide) ?_
                      refine lv_icmp_ne (tgt := 311) hx hb dX10_holds_296 (by decide) (fun c_296 => ?_) (fun c_296 => ?_)
                      · refine lv_iload_n hx hb dX10_holds_311 rfl (lv_at hl 6 rfl) ?_
                        exact B312 v_7 v_10 v_12 v_26 p2 _ _ ls r_p1 r_p2 r_v_7 r_v_10 r_v_12 r_v_26 (r_p2.to (by decide)) hw (lv_sub hl [4, 5, 6, 3, 2, 1, 0] rfl)
                      · have r_v_26 : RI v_26 26 26 := rc_eq1 r_v_26 rl_26 (ti_eq c_296) (by decide)
                        refine lv_aload_n hx hb dX10_holds_299 rfl (lv_at hl 4 rfl) ?_
                        refine tg_mem (ci := 10) (C := RX10) (T := TX10) (N := 49) hx hb hts inX10 hown hK hw 14 m_u_8 rfl (by decide) (hts _ tw_1151) (fun _ h9 => h9) dX10_holds_300 ?_
                        refine lv_bipush (v := 98) hx hb dX10_holds_303 (by decide) ?_
                        refine lv_iload_n hx hb dX10_holds_305 rfl (lv_at hl 6 rfl) ?_
                        refine lv_iadd hx hb dX10_holds_306 (lv_topi (fun v_27 e_v_27 => ?_))
                        obtain ⟨t_v_27, r_v_27⟩ := tq_add (lo := 98) (hi := 103) rl_98 r_p2 (by decide +kernel) e_v_27
                        have t_v_27 : v_27.toInt = 98 + p2.toInt := t_v_27
                        refine tg_iald (lo := (-2147483648)) (hi := 2147483647) hx hb hK hw h_vu_8 rfl 98 103 r_v_27 (by decide) (by decide +kernel) dX10_holds_307 (fun v_28 r_v_28 m_v_28 o_v_28 => ?_)
                        refine lv_goto (tgt := 312) hx hb dX10_holds_308 (by decide) ?_
                        exact B312 v_7 v_10 v_12 v_26 v_28 _ _ ls r_p1 r_p2 r_v_7 r_v_10 r_v_12 (r_v_26.to (by decide)) r_v_28 hw (lv_sub hl [4, 5, 6, 3, 2, 1, 0] rfl)
                    · have r_v_26 : RI v_26 25 25 := rc_eq1 r_v_26 rl_25 (ti_eq c_277) (by decide)
                      refine lv_aload_n hx hb dX10_holds_280 rfl (lv_at hl 4 rfl) ?_
                      refine tg_mem (ci := 10) (C := RX10) (T := TX10) (N := 49) hx hb hts inX10 hown hK hw 14 m_u_8 rfl (by decide) (hts _ tw_1151) (fun _ h9 => h9) dX10_holds_281 ?_
                      refine lv_bipush (v := 92) hx hb dX10_holds_284 (by decide) ?_
                      refine lv_iload_n hx hb dX10_holds_286 rfl (lv_at hl 6 rfl) ?_
                      refine lv_iadd hx hb dX10_holds_287 (lv_topi (fun v_29 e_v_29 => ?_))
                      obtain ⟨t_v_29, r_v_29⟩ := tq_add (lo := 92) (hi := 97) rl_92 r_p2 (by decide +kernel) e_v_29
                      have t_v_29 : v_29.toInt = 92 + p2.toInt := t_v_29
                      refine tg_iald (lo := (-2147483648)) (hi := 2147483647) hx hb hK hw h_vu_8 rfl 92 97 r_v_29 (by decide) (by decide +kernel) dX10_holds_288 (fun v_30 r_v_30 m_v_30 o_v_30 => ?_)
                      refine lv_goto (tgt := 312) hx hb dX10_holds_289 (by decide) ?_
                      exact B312 v_7 v_10 v_12 v_26 v_30 _ _ ls r_p1 r_p2 r_v_7 r_v_10 r_v_12 (r_v_26.to (by decide)) r_v_30 hw (lv_sub hl [4, 5, 6, 3, 2, 1, 0] rfl)
                  · have r_v_26 : RI v_26 24 24 := rc_eq1 r_v_26 rl_24 (ti_eq c_262) (by decide)
                    refine lv_aload_n hx hb dX10_holds_265 rfl (lv_at hl 4 rfl) ?_
                    refine lv_iload_n hx hb dX10_holds_266 rfl (lv_at hl 6 rfl) ?_
                    refine tk_ir (va_runV (As := [.int p2]) (rest := []) ⟨hx, hb, hml, hown, hts⟩ (c_X10_sizeOf l D cy z s.heap.size Ps w0 hw.1 p0 p2 h_p0 r_p2) (cwV 1 hts (gV tw_1453 tw_1455 ts_70 tw_15 tw_1456) rfl rfl rfl (by decide +kernel) ⟨Nat.le_of_ble_eq_true rfl, Nat.le_of_ble_eq_true rfl⟩) (tg_preV hw hK hSD hA (ci := 10) (q := (RX10, TX10, 49)) rfl h_p0 rfl) rfl rfl hl.1 rfl (lv_room (Nat.le_of_ble_eq_true rfl)) dX10_holds_267 ⟨Nat.le_of_ble_eq_true rfl, Nat.le_of_ble_eq_true rfl⟩) hw hA (fun v_31  H locs hp_v_31 hw => ?_)
                    have r_v_31 : RI v_31 (-2147483648) 2147483647 := hp_v_31.1
                    refine lv_goto (tgt := 312) hx hb dX10_holds_270 (by decide) ?_
                    exact B312 v_7 v_10 v_12 v_26 v_31 _ _ ls r_p1 r_p2 r_v_7 r_v_10 r_v_12 (r_v_26.to (by decide)) r_v_31 hw (lv_sub hl [4, 5, 6, 3, 2, 1, 0] rfl)
abbrev wr_X10_holds__23 : List (Nat × Nat) := []
abbrev wa_X10_holds__23 : List Nat := []
set_option maxHeartbeats 4000000 in
set_option maxRecDepth 100000 in
theorem c_X10_holds__23 (l : Launch) (D : va_G) (cy : Nat → ClassId) (z : Nat → Nat) (sz : Nat) (Ps : PSI) (w0 : va_W) (hT : HT cy GG Ps w0) (p0 : Nat) (p1 : Int32) (p2 : Int32) (h_p0 : (p0, 55) ∈ Ps) (r_p1 : RI p1 0 36) (r_p2 : RI p2 0 5) : Met l yX10_holds (Cond.code yX10_holds cX10_holds 8 (some .boolean) :: gT) ({ frames := 39, cells := 0, slots := 0, locals := 7800 } : Room) (va_Pc [.ref p0, .int p1, .int p2] (PRE D cy z w0 sz)) (va_Qi (fun (r : Int32) (u : Unit) => RI r 0 1 ∧ (r = 0 → True) ∧ (¬ r = 0 → True)) (BB D cy (va_A w0 sz) (fun (u : Unit) => w0)) (va_A w0 sz)) 0 0 (va_A w0 sz) := by
  refine Met.ofW (cc := cX10_holds) (maxL := 8) (ret := (some .boolean)) (by decide) rfl ?_
  intro p e s m args below meth c s₁ B hml hv
  obtain ⟨rfl, hsz, hP, hK, hD0, hSD⟩ := hv
  have hx := B.exec
  have hb := B.bytes
  have hr := B.returns
  have hlocks := B.notSynchronized
  have hts : ∀ w ∈ gT, w.before _ s = true := fun w h => atoms_spec (ws := Cond.code yX10_holds cX10_holds 8 (some .boolean) :: gT) B.pre w (List.mem_cons_of_mem _ h)
  have hown : s.vm.findClass RX10 = some m.cls := findClass_of_methodNamed B.named
  subst hsz
  have hD := hD0.self (sz := s.heap.size)
  generalize hAe : va_A w0 s.heap.size = A at hD hSD ⊢
  have hA : ∀ q : Nat, s.heap.size ≤ q → A q := fun q h => by rw [← hAe]; exact Or.inr h
  have hl := lv_entry ([.ref p0, .int p1, .int p2]) (n := 8) (Nat.le_of_ble_eq_true rfl)
  rw [lg_entry_eq]
  generalize (lg_sl ([.ref p0, .int p1, .int p2]) ++ List.replicate (8 - (lg_sl ([.ref p0, .int p1, .int p2])).length) Slot.unset).toArray = ls at hl ⊢
  have hl : lv_has ls 8 [(0, .ref p0), (1, .int p1), (2, .int p2)] := hl
  refine nameQ (fun Q hQ => ?_)
  have hw : WD D cy GG A s wr_X10_holds__23 wa_X10_holds__23 Ps w0 Ps w0 s.heap [] := ⟨hT, hP, hD, va_S.rf, FR.rf, hT.1, [], (List.append_nil _).symm⟩
  have B312 : ∀ (x3 : Int32) (x4 : Int32) (x5 : Int32) (x6 : Int32) (y0 : Int32) (H : Heap) (locs : List Loc) (ls : Array Slot), RI p1 0 36 → RI p2 0 5 → RI x3 174 318 → RI x4 (-2147483648) 2147483647 → RI x5 (-2147483648) 2147483647 → RI x6 (-2147483648) 2147483647 → RI y0 (-2147483648) 2147483647 → WD D cy GG A s wr_X10_holds__23 wa_X10_holds__23 Ps w0 Ps w0 H locs → lv_has ls 8 [(0, .ref p0), (1, .int p1), (2, .int p2), (3, .int x3), (4, .int x4), (5, .int x5), (6, .int x6)] → W p l e (headSpec (Cond.code yX10_holds cX10_holds 8 (some .boolean) :: gT) ({ frames := 39, cells := 0, slots := 0, locals := 7800 } : Room)).room s m ([.ref p0, .int p1, .int p2] : List Value).toArray below meth c H locs 0 0 Q (F0 m 312 ls [.int y0]) := by
    intro x3 x4 x5 x6 y0 H locs ls r_p1 r_p2 r_x3 r_x4 r_x5 r_x6 r_y0 hw hl
    refine lv_istore (lv' := [(7, .int y0), (0, .ref p0), (1, .int p1), (2, .int p2), (3, .int x3), (4, .int x4), (5, .int x5), (6, .int x6)]) hx hb dX10_holds_312 hl (by decide) rfl (fun ls hl => ?_)
    refine lv_aload_n hx hb dX10_holds_314 rfl (lv_at hl 1 rfl) ?_
    refine tg_get (ci := 10) (ts := ty_MODEL) (C := RX10) (T := TX10) (N := 49) hx hb hts inX10 hown hK hw h_p0 rfl rfl 14 (by decide) (hts _ tw_1151) (fun _ h9 => h9) (ft := vR 34) rfl dX10_holds_315 (fun u_1 hv_u_1 m_u_1 => ?_)
    obtain ⟨vu_1, rfl, h_vu_1⟩ := hv_u_1
    refine lv_iload_n hx hb dX10_holds_318 rfl (lv_at hl 4 rfl) ?_
    refine lv_iconst (v := 3) hx hb dX10_holds_319 (by decide) ?_
    refine lv_iadd hx hb dX10_holds_320 (lv_topi (fun v_2 e_v_2 => ?_))
    obtain ⟨t_v_2, r_v_2⟩ := tq_add (lo := 177) (hi := 321) r_x3 rl_3 (by decide +kernel) e_v_2
    have t_v_2 : v_2.toInt = x3.toInt + 3 := t_v_2
    refine tg_iald (lo := (-2147483648)) (hi := 2147483647) hx hb hK hw h_vu_1 rfl 177 321 r_v_2 (by decide) (by decide +kernel) dX10_holds_321 (fun v_3 r_v_3 m_v_3 o_v_3 => ?_)
    refine lv_bipush (v := 60) hx hb dX10_holds_322 (by decide) ?_
    refine lv_icmp_ne (tgt := 342) hx hb dX10_holds_324 (by decide) (fun c_324 => ?_) (fun c_324 => ?_)
    · refine lv_aload_n hx hb dX10_holds_342 rfl (lv_at hl 1 rfl) ?_
      refine tg_mem (ci := 10) (C := RX10) (T := TX10) (N := 49) hx hb hts inX10 hown hK hw 14 m_u_1 rfl (by decide) (hts _ tw_1151) (fun _ h9 => h9) dX10_holds_343 ?_
      refine lv_iload_n hx hb dX10_holds_346 rfl (lv_at hl 4 rfl) ?_
      refine lv_iconst (v := 3) hx hb dX10_holds_347 (by decide) ?_
      refine lv_iadd hx hb dX10_holds_348 (lv_topi (fun v_4 e_v_4 => ?_))
      obtain ⟨t_v_4, r_v_4⟩ := tq_add (lo := 177) (hi := 321) r_x3 rl_3 (by decide +kernel) e_v_4
      have t_v_4 : v_4.toInt = x3.toInt + 3 := t_v_4
      refine tg_iald (lo := (-2147483648)) (hi := 2147483647) hx hb hK hw h_vu_1 rfl 177 321 r_v_4 (by decide) (by decide +kernel) dX10_holds_349 (fun v_5 r_v_5 m_v_5 o_v_5 => ?_)
      refine lv_bipush (v := 61) hx hb dX10_holds_350 (by decide) ?_
      refine lv_icmp_ne (tgt := 370) hx hb dX10_holds_352 (by decide) (fun c_352 => ?_) (fun c_352 => ?_)
      · refine lv_iload hx hb dX10_holds_370 (lv_at hl 0 rfl) ?_
        refine lv_iload hx hb dX10_holds_372 (lv_at hl 6 rfl) ?_
        refine lv_icmp_le (tgt := 381) hx hb dX10_holds_374 (by decide) (fun c_374 => ?_) (fun c_374 => ?_)
        · refine lv_iconst (v := 0) hx hb dX10_holds_381 (by decide) ?_
          subst hQ
          exact W.zret (v := 0) hx hb hr (rfl) (fun t ht hW => ⟨⟨0, (), rfl, ⟨rl_0.to (by decide), (fun h0 => trivial), (fun _ => trivial)⟩, by rw [ht]; exact hw.2.1, va_K.moved hW.alike hK, hw.2.2.1⟩, hw.2.2.2.1.F ht⟩) hw.2.2.2.1.2.2 dX10_holds_382
        · have r_x5 : RI x5 (-2147483648) 2147483646 := rc_lt1 r_x5 r_y0 (ti_nle c_374) (by decide)
          have r_y0 : RI y0 (-2147483647) 2147483647 := rc_lt2 r_x5 r_y0 (ti_nle c_374) (by decide)
          refine lv_iconst (v := 1) hx hb dX10_holds_377 (by decide) ?_
          refine lv_goto (tgt := 382) hx hb dX10_holds_378 (by decide) ?_
          subst hQ
          exact W.zret (v := 1) hx hb hr (rfl) (fun t ht hW => ⟨⟨1, (), rfl, ⟨rl_1.to (by decide), (fun _ => trivial), (fun h0 => trivial)⟩, by rw [ht]; exact hw.2.1, va_K.moved hW.alike hK, hw.2.2.1⟩, hw.2.2.2.1.F ht⟩) hw.2.2.2.1.2.2 dX10_holds_382
      · have r_v_5 : RI v_5 61 61 := rc_eq1 r_v_5 rl_61 (ti_eq c_352) (by decide)
        refine lv_iload hx hb dX10_holds_355 (lv_at hl 0 rfl) ?_
        refine lv_iload hx hb dX10_holds_357 (lv_at hl 6 rfl) ?_
        refine lv_icmp_ne (tgt := 366) hx hb dX10_holds_359 (by decide) (fun c_359 => ?_) (fun c_359 => ?_)
        · refine lv_iconst (v := 0) hx hb dX10_holds_366 (by decide) ?_
          refine lv_goto (tgt := 382) hx hb dX10_holds_367 (by decide) ?_
          subst hQ
          exact W.zret (v := 0) hx hb hr (rfl) (fun t ht hW => ⟨⟨0, (), rfl, ⟨rl_0.to (by decide), (fun h0 => trivial), (fun _ => trivial)⟩, by rw [ht]; exact hw.2.1, va_K.moved hW.alike hK, hw.2.2.1⟩, hw.2.2.2.1.F ht⟩) hw.2.2.2.1.2.2 dX10_holds_382
        · refine lv_iconst (v := 1) hx hb dX10_holds_362 (by decide) ?_
          refine lv_goto (tgt := 382) hx hb dX10_holds_363 (by decide) ?_
          subst hQ
          exact W.zret (v := 1) hx hb hr (rfl) (fun t ht hW => ⟨⟨1, (), rfl, ⟨rl_1.to (by decide), (fun _ => trivial), (fun h0 => trivial)⟩, by rw [ht]; exact hw.2.1, va_K.moved hW.alike hK, hw.2.2.1⟩, hw.2.2.2.1.F ht⟩) hw.2.2.2.1.2.2 dX10_holds_382
    · have r_v_3 : RI v_3 60 60 := rc_eq1 r_v_3 rl_60 (ti_eq c_324) (by decide)
      refine lv_iload hx hb dX10_holds_327 (lv_at hl 0 rfl) ?_
      refine lv_iload hx hb dX10_holds_329 (lv_at hl 6 rfl) ?_
      refine lv_icmp_ge (tgt := 338) hx hb dX10_holds_331 (by decide) (fun c_331 => ?_) (fun c_331 => ?_)
      · refine lv_iconst (v := 0) hx hb dX10_holds_338 (by decide) ?_
        refine lv_goto (tgt := 382) hx hb dX10_holds_339 (by decide) ?_
        subst hQ
        exact W.zret (v := 0) hx hb hr (rfl) (fun t ht hW => ⟨⟨0, (), rfl, ⟨rl_0.to (by decide), (fun h0 => trivial), (fun _ => trivial)⟩, by rw [ht]; exact hw.2.1, va_K.moved hW.alike hK, hw.2.2.1⟩, hw.2.2.2.1.F ht⟩) hw.2.2.2.1.2.2 dX10_holds_382
      · have r_y0 : RI y0 (-2147483648) 2147483646 := rc_lt1 r_y0 r_x5 (ti_nle c_331) (by decide)
        have r_x5 : RI x5 (-2147483647) 2147483647 := rc_lt2 r_y0 r_x5 (ti_nle c_331) (by decide)
        refine lv_iconst (v := 1) hx hb dX10_holds_334 (by decide) ?_
        refine lv_goto (tgt := 382) hx hb dX10_holds_335 (by decide) ?_
        subst hQ
        exact W.zret (v := 1) hx hb hr (rfl) (fun t ht hW => ⟨⟨1, (), rfl, ⟨rl_1.to (by decide), (fun _ => trivial), (fun h0 => trivial)⟩, by rw [ht]; exact hw.2.1, va_K.moved hW.alike hK, hw.2.2.1⟩, hw.2.2.2.1.F ht⟩) hw.2.2.2.1.2.2 dX10_holds_382
  refine lv_sipush (v := 174) hx hb dX10_holds_0 (by decide) ?_
  refine lv_iconst (v := 4) hx hb dX10_holds_3 (by decide) ?_
  refine lv_iload_n hx hb dX10_holds_4 rfl (lv_at hl 1 rfl) ?_
  refine lv_imul hx hb dX10_holds_5 (lv_topi (fun v_6 e_v_6 => ?_))
  obtain ⟨t_v_6, r_v_6⟩ := tq_mul (lo := 0) (hi := 144) rl_4 r_p1 (by decide +kernel) e_v_6
  have t_v_6 : v_6.toInt = 4 * p1.toInt := t_v_6
  refine lv_iadd hx hb dX10_holds_6 (lv_topi (fun v_7 e_v_7 => ?_))
  obtain ⟨t_v_7, r_v_7⟩ := tq_add (lo := 174) (hi := 318) rl_174 r_v_6 (by decide +kernel) e_v_7
  have t_v_7 : v_7.toInt = 174 + v_6.toInt := t_v_7
  refine lv_istore_n (lv' := [(3, .int v_7), (0, .ref p0), (1, .int p1), (2, .int p2)]) hx hb dX10_holds_7 rfl hl (by decide) rfl (fun ls hl => ?_)
  refine lv_aload_n hx hb dX10_holds_8 rfl (lv_at hl 1 rfl) ?_
  refine tg_get (ci := 10) (ts := ty_MODEL) (C := RX10) (T := TX10) (N := 49) hx hb hts inX10 hown hK hw h_p0 rfl rfl 14 (by decide) (hts _ tw_1151) (fun _ h9 => h9) (ft := vR 34) rfl dX10_holds_9 (fun u_8 hv_u_8 m_u_8 => ?_)
  obtain ⟨vu_8, rfl, h_vu_8⟩ := hv_u_8
  refine lv_iload_n hx hb dX10_holds_12 rfl (lv_at hl 0 rfl) ?_
  refine lv_iconst (v := 1) hx hb dX10_holds_13 (by decide) ?_
  refine lv_iadd hx hb dX10_holds_14 (lv_topi (fun v_9 e_v_9 => ?_))
  obtain ⟨t_v_9, r_v_9⟩ := tq_add (lo := 175) (hi := 319) r_v_7 rl_1 (by decide +kernel) e_v_9
  have t_v_9 : v_9.toInt = v_7.toInt + 1 := t_v_9
  refine tg_iald (lo := (-2147483648)) (hi := 2147483647) hx hb hK hw h_vu_8 rfl 175 319 r_v_9 (by decide) (by decide +kernel) dX10_holds_15 (fun v_10 r_v_10 m_v_10 o_v_10 => ?_)
  refine lv_istore (lv' := [(4, .int v_10), (3, .int v_7), (0, .ref p0), (1, .int p1), (2, .int p2)]) hx hb dX10_holds_16 hl (by decide) rfl (fun ls hl => ?_)
  refine lv_aload_n hx hb dX10_holds_18 rfl (lv_at hl 2 rfl) ?_
  refine tg_mem (ci := 10) (C := RX10) (T := TX10) (N := 49) hx hb hts inX10 hown hK hw 14 m_u_8 rfl (by decide) (hts _ tw_1151) (fun _ h9 => h9) dX10_holds_19 ?_
  refine lv_iload_n hx hb dX10_holds_22 rfl (lv_at hl 1 rfl) ?_
  refine lv_iconst (v := 2) hx hb dX10_holds_23 (by decide) ?_
  refine lv_iadd hx hb dX10_holds_24 (lv_topi (fun v_11 e_v_11 => ?_))
  obtain ⟨t_v_11, r_v_11⟩ := tq_add (lo := 176) (hi := 320) r_v_7 rl_2 (by decide +kernel) e_v_11
  have t_v_11 : v_11.toInt = v_7.toInt + 2 := t_v_11
  refine tg_iald (lo := (-2147483648)) (hi := 2147483647) hx hb hK hw h_vu_8 rfl 176 320 r_v_11 (by decide) (by decide +kernel) dX10_holds_25 (fun v_12 r_v_12 m_v_12 o_v_12 => ?_)
  refine lv_istore (lv' := [(5, .int v_12), (4, .int v_10), (3, .int v_7), (0, .ref p0), (1, .int p1), (2, .int p2)]) hx hb dX10_holds_26 hl (by decide) rfl (fun ls hl => ?_)
  refine lv_aload_n hx hb dX10_holds_28 rfl (lv_at hl 3 rfl) ?_
  refine tg_mem (ci := 10) (C := RX10) (T := TX10) (N := 49) hx hb hts inX10 hown hK hw 14 m_u_8 rfl (by decide) (hts _ tw_1151) (fun _ h9 => h9) dX10_holds_29 ?_
  refine lv_iload_n hx hb dX10_holds_32 rfl (lv_at hl 2 rfl) ?_
  refine tg_iald (lo := (-2147483648)) (hi := 2147483647) hx hb hK hw h_vu_8 rfl 174 318 r_v_7 (by decide) (by decide +kernel) dX10_holds_33 (fun v_13 r_v_13 m_v_13 o_v_13 => ?_)
  by_cases k_34_1 : v_13 = 1
  · refine lv_lookup (tgt := 108) (off := 74) hx hb dX10_holds_34 (by decide) (by rw [k_34_1]; decide) (by decide) ?_
    have r_v_13 : RI v_13 1 1 := by rw [k_34_1]; exact rl_1
    have g_v_10 : 0 ≤ v_10.toInt ∧ v_10.toInt < p1.toInt := by obtain ⟨_, f9, e8, e7, q9, _⟩ := ax_of (k := 14) (t := 34) hw h_p0 rfl (fun _ => rfl); cases FLD.inj hw.2.2.1 e8 m_u_8; have t9 := ARR.ael hw.2.2.1 e7 m_v_13; have x9 := ARR.ael hw.2.2.1 e7 m_v_10; rw [show Int32.toNatClampNeg v_7 = 174 + 4 * Int32.toNatClampNeg p1 from (by have k1 := r_v_7.cl (by decide); have k2 := r_p1.cl (by decide); omega)] at t9; rw [show Int32.toNatClampNeg v_9 = 175 + 4 * Int32.toNatClampNeg p1 from (by have k1 := r_v_9.cl (by decide); have k2 := r_p1.cl (by decide); omega)] at x9; exact RN_child q9 (r_p1.to (by decide)) t9 x9 (r_v_13.to (by decide))
    have r_v_10 : RI v_10 0 35 := ⟨g_v_10.1, by have k1 := r_p1.2; omega⟩
    refine lv_aload_n hx hb dX10_holds_108 rfl (lv_at hl 3 rfl) ?_
    refine lv_iload hx hb dX10_holds_109 (lv_at hl 1 rfl) ?_
    refine lv_iload_n hx hb dX10_holds_111 rfl (lv_at hl 5 rfl) ?_
    refine tk_ir (va_runV (As := [.int v_10, .int p2]) (rest := []) ⟨hx, hb, hml, hown, hts⟩ (c_X10_holds__24 l D cy z s.heap.size Ps w0 hw.1 p0 v_10 p2 h_p0 r_v_10 r_p2) (cwV 2 hts (gV tw_1787 tw_1789 ts_119 tw_15 tw_1790) rfl rfl rfl (by decide +kernel) ⟨Nat.le_of_ble_eq_true rfl, Nat.le_of_ble_eq_true rfl⟩) (tg_preV hw hK hSD hA (ci := 10) (q := (RX10, TX10, 49)) rfl h_p0 rfl) rfl rfl hl.1 rfl (lv_room (Nat.le_of_ble_eq_true rfl)) dX10_holds_112 ⟨Nat.le_of_ble_eq_true rfl, Nat.le_of_ble_eq_true rfl⟩) hw hA (fun v_14  H locs hp_v_14 hw => ?_)
    have r_v_14 : RI v_14 0 1 := hp_v_14.1
    refine lv_if_ne (tgt := 122) hx hb dX10_holds_115 (by decide) (fun c_115 => ?_) (fun c_115 => ?_)
    · have r_v_14 : RI v_14 1 1 := rc_neL r_v_14 rl_0 (ti_ne c_115) (by decide)
      refine lv_iconst (v := 0) hx hb dX10_holds_122 (by decide) ?_
      subst hQ
      exact W.zret (v := 0) hx hb hr (rfl) (fun t ht hW => ⟨⟨0, (), rfl, ⟨rl_0.to (by decide), (fun h0 => trivial), (fun _ => trivial)⟩, by rw [ht]; exact hw.2.1, va_K.moved hW.alike hK, hw.2.2.1⟩, hw.2.2.2.1.F ht⟩) hw.2.2.2.1.2.2 dX10_holds_123
    · have r_v_14 : RI v_14 0 0 := rc_eq1 r_v_14 rl_0 (ti_eq c_115) (by decide)
      refine lv_iconst (v := 1) hx hb dX10_holds_118 (by decide) ?_
      refine lv_goto (tgt := 123) hx hb dX10_holds_119 (by decide) ?_
      subst hQ
      exact W.zret (v := 1) hx hb hr (rfl) (fun t ht hW => ⟨⟨1, (), rfl, ⟨rl_1.to (by decide), (fun _ => trivial), (fun h0 => trivial)⟩, by rw [ht]; exact hw.2.1, va_K.moved hW.alike hK, hw.2.2.1⟩, hw.2.2.2.1.F ht⟩) hw.2.2.2.1.2.2 dX10_holds_123
  · by_cases k_34_2 : v_13 = 2
    · refine lv_lookup (tgt := 124) (off := 90) hx hb dX10_holds_34 (by decide) (by rw [k_34_2]; decide) (by decide) ?_
      have r_v_13 : RI v_13 2 2 := by rw [k_34_2]; exact rl_2
      have g_v_10 : 0 ≤ v_10.toInt ∧ v_10.toInt < p1.toInt := by obtain ⟨_, f9, e8, e7, q9, _⟩ := ax_of (k := 14) (t := 34) hw h_p0 rfl (fun _ => rfl); cases FLD.inj hw.2.2.1 e8 m_u_8; have t9 := ARR.ael hw.2.2.1 e7 m_v_13; have x9 := ARR.ael hw.2.2.1 e7 m_v_10; rw [show Int32.toNatClampNeg v_7 = 174 + 4 * Int32.toNatClampNeg p1 from (by have k1 := r_v_7.cl (by decide); have k2 := r_p1.cl (by decide); omega)] at t9; rw [show Int32.toNatClampNeg v_9 = 175 + 4 * Int32.toNatClampNeg p1 from (by have k1 := r_v_9.cl (by decide); have k2 := r_p1.cl (by decide); omega)] at x9; exact RN_child q9 (r_p1.to (by decide)) t9 x9 (r_v_13.to (by decide))
      have r_v_10 : RI v_10 0 35 := ⟨g_v_10.1, by have k1 := r_p1.2; omega⟩
      have g_v_12 : 0 ≤ v_12.toInt ∧ v_12.toInt < p1.toInt := by obtain ⟨_, f9, e8, e7, q9, _⟩ := ax_of (k := 14) (t := 34) hw h_p0 rfl (fun _ => rfl); cases FLD.inj hw.2.2.1 e8 m_u_8; have t9 := ARR.ael hw.2.2.1 e7 m_v_13; have x9 := ARR.ael hw.2.2.1 e7 m_v_12; rw [show Int32.toNatClampNeg v_7 = 174 + 4 * Int32.toNatClampNeg p1 from (by have k1 := r_v_7.cl (by decide); have k2 := r_p1.cl (by decide); omega)] at t9; rw [show Int32.toNatClampNeg v_11 = 176 + 4 * Int32.toNatClampNeg p1 from (by have k1 := r_v_11.cl (by decide); have k2 := r_p1.cl (by decide); omega)] at x9; exact RN_child2 q9 (r_p1.to (by decide)) t9 x9 (r_v_13.to (by decide))
      have r_v_12 : RI v_12 0 35 := ⟨g_v_12.1, by have k1 := r_p1.2; omega⟩
      refine lv_aload_n hx hb dX10_holds_124 rfl (lv_at hl 3 rfl) ?_
      refine lv_iload hx hb dX10_holds_125 (lv_at hl 1 rfl) ?_
      refine lv_iload_n hx hb dX10_holds_127 rfl (lv_at hl 5 rfl) ?_
      refine tk_ir (va_runV (As := [.int v_10, .int p2]) (rest := []) ⟨hx, hb, hml, hown, hts⟩ (c_X10_holds__24 l D cy z s.heap.size Ps w0 hw.1 p0 v_10 p2 h_p0 r_v_10 r_p2) (cwV 2 hts (gV tw_1787 tw_1789 ts_119 tw_15 tw_1790) rfl rfl rfl (by decide +kernel) ⟨Nat.le_of_ble_eq_true rfl, Nat.le_of_ble_eq_true rfl⟩) (tg_preV hw hK hSD hA (ci := 10) (q := (RX10, TX10, 49)) rfl h_p0 rfl) rfl rfl hl.1 rfl (lv_room (Nat.le_of_ble_eq_true rfl)) dX10_holds_128 ⟨Nat.le_of_ble_eq_true rfl, Nat.le_of_ble_eq_true rfl⟩) hw hA (fun v_15  H locs hp_v_15 hw => ?_)
      have r_v_15 : RI v_15 0 1 := hp_v_15.1
      refine lv_if_eq (tgt := 148) hx hb dX10_holds_131 (by decide) (fun c_131 => ?_) (fun c_131 => ?_)
      · have r_v_15 : RI v_15 0 0 := rc_eq1 r_v_15 rl_0 (ti_eq c_131) (by decide)
        refine lv_iconst (v := 0) hx hb dX10_holds_148 (by decide) ?_
        subst hQ
        exact W.zret (v := 0) hx hb hr (rfl) (fun t ht hW => ⟨⟨0, (), rfl, ⟨rl_0.to (by decide), (fun h0 => trivial), (fun _ => trivial)⟩, by rw [ht]; exact hw.2.1, va_K.moved hW.alike hK, hw.2.2.1⟩, hw.2.2.2.1.F ht⟩) hw.2.2.2.1.2.2 dX10_holds_149
      · have r_v_15 : RI v_15 1 1 := rc_neL r_v_15 rl_0 (ti_ne c_131) (by decide)
        refine lv_aload_n hx hb dX10_holds_134 rfl (lv_at hl 3 rfl) ?_
        refine lv_iload hx hb dX10_holds_135 (lv_at hl 0 rfl) ?_
        refine lv_iload_n hx hb dX10_holds_137 rfl (lv_at hl 5 rfl) ?_
        refine tk_ir (va_runV (As := [.int v_12, .int p2]) (rest := []) ⟨hx, hb, hml, hown, hts⟩ (c_X10_holds__24 l D cy z H.size Ps w0 hw.1 p0 v_12 p2 h_p0 r_v_12 r_p2) (cwV 2 hts (gV tw_1787 tw_1789 ts_119 tw_15 tw_1790) rfl rfl rfl (by decide +kernel) ⟨Nat.le_of_ble_eq_true rfl, Nat.le_of_ble_eq_true rfl⟩) (tg_preV hw hK hSD hA (ci := 10) (q := (RX10, TX10, 49)) rfl h_p0 rfl) rfl rfl hl.1 rfl (lv_room (Nat.le_of_ble_eq_true rfl)) dX10_holds_138 ⟨Nat.le_of_ble_eq_true rfl, Nat.le_of_ble_eq_true rfl⟩) hw hA (fun v_16  H locs hp_v_16 hw => ?_)
        have r_v_16 : RI v_16 0 1 := hp_v_16.1
        refine lv_if_eq (tgt := 148) hx hb dX10_holds_141 (by decide) (fun c_141 => ?_) (fun c_141 => ?_)
        · have r_v_16 : RI v_16 0 0 := rc_eq1 r_v_16 rl_0 (ti_eq c_141) (by decide)
          refine lv_iconst (v := 0) hx hb dX10_holds_148 (by decide) ?_
          subst hQ
          exact W.zret (v := 0) hx hb hr (rfl) (fun t ht hW => ⟨⟨0, (), rfl, ⟨rl_0.to (by decide), (fun h0 => trivial), (fun _ => trivial)⟩, by rw [ht]; exact hw.2.1, va_K.moved hW.alike hK, hw.2.2.1⟩, hw.2.2.2.1.F ht⟩) hw.2.2.2.1.2.2 dX10_holds_149
        · have r_v_16 : RI v_16 1 1 := rc_neL r_v_16 rl_0 (ti_ne c_141) (by decide)
          refine lv_iconst (v := 1) hx hb dX10_holds_144 (by decide) ?_
          refine lv_goto (tgt := 149) hx hb dX10_holds_145 (by decide) ?_
          subst hQ
          exact W.zret (v := 1) hx hb hr (rfl) (fun t ht hW => ⟨⟨1, (), rfl, ⟨rl_1.to (by decide), (fun _ => trivial), (fun h0 => trivial)⟩, by rw [ht]; exact hw.2.1, va_K.moved hW.alike hK, hw.2.2.1⟩, hw.2.2.2.1.F ht⟩) hw.2.2.2.1.2.2 dX10_holds_149
    · by_cases k_34_3 : v_13 = 3
      · refine lv_lookup (tgt := 150) (off := 116) hx hb dX10_holds_34 (by decide) (by rw [k_34_3]; decide) (by decide) ?_
        have r_v_13 : RI v_13 3 3 := by rw [k_34_3]; exact rl_3
        have g_v_10 : 0 ≤ v_10.toInt ∧ v_10.toInt < p1.toInt := by obtain ⟨_, f9, e8, e7, q9, _⟩ := ax_of (k := 14) (t := 34) hw h_p0 rfl (fun _ => rfl); cases FLD.inj hw.2.2.1 e8 m_u_8; have t9 := ARR.ael hw.2.2.1 e7 m_v_13; have x9 := ARR.ael hw.2.2.1 e7 m_v_10; rw [show Int32.toNatClampNeg v_7 = 174 + 4 * Int32.toNatClampNeg p1 from (by have k1 := r_v_7.cl (by decide); have k2 := r_p1.cl (by decide); omega)] at t9; rw [show Int32.toNatClampNeg v_9 = 175 + 4 * Int32.toNatClampNeg p1 from (by have k1 := r_v_9.cl (by decide); have k2 := r_p1.cl (by decide); omega)] at x9; exact RN_child q9 (r_p1.to (by decide)) t9 x9 (r_v_13.to (by decide))
        have r_v_10 : RI v_10 0 35 := ⟨g_v_10.1, by have k1 := r_p1.2; omega⟩
        have g_v_12 : 0 ≤ v_12.toInt ∧ v_12.toInt < p1.toInt := by obtain ⟨_, f9, e8, e7, q9, _⟩ := ax_of (k := 14) (t := 34) hw h_p0 rfl (fun _ => rfl); cases FLD.inj hw.2.2.1 e8 m_u_8; have t9 := ARR.ael hw.2.2.1 e7 m_v_13; have x9 := ARR.ael hw.2.2.1 e7 m_v_12; rw [show Int32.toNatClampNeg v_7 = 174 + 4 * Int32.toNatClampNeg p1 from (by have k1 := r_v_7.cl (by decide); have k2 := r_p1.cl (by decide); omega)] at t9; rw [show Int32.toNatClampNeg v_11 = 176 + 4 * Int32.toNatClampNeg p1 from (by have k1 := r_v_11.cl (by decide); have k2 := r_p1.cl (by decide); omega)] at x9; exact RN_child2 q9 (r_p1.to (by decide)) t9 x9 (r_v_13.to (by decide))
        have r_v_12 : RI v_12 0 35 := ⟨g_v_12.1, by have k1 := r_p1.2; omega⟩
        refine lv_aload_n hx hb dX10_holds_150 rfl (lv_at hl 3 rfl) ?_
        refine lv_iload hx hb dX10_holds_151 (lv_at hl 1 rfl) ?_
        refine lv_iload_n hx hb dX10_holds_153 rfl (lv_at hl 5 rfl) ?_
        refine tk_ir (va_runV (As := [.int v_10, .int p2]) (rest := []) ⟨hx, hb, hml, hown, hts⟩ (c_X10_holds__24 l D cy z s.heap.size Ps w0 hw.1 p0 v_10 p2 h_p0 r_v_10 r_p2) (cwV 2 hts (gV tw_1787 tw_1789 ts_119 tw_15 tw_1790) rfl rfl rfl (by decide +kernel) ⟨Nat.le_of_ble_eq_true rfl, Nat.le_of_ble_eq_true rfl⟩) (tg_preV hw hK hSD hA (ci := 10) (q := (RX10, TX10, 49)) rfl h_p0 rfl) rfl rfl hl.1 rfl (lv_room (Nat.le_of_ble_eq_true rfl)) dX10_holds_154 ⟨Nat.le_of_ble_eq_true rfl, Nat.le_of_ble_eq_true rfl⟩) hw hA (fun v_17  H locs hp_v_17 hw => ?_)
        have r_v_17 : RI v_17 0 1 := hp_v_17.1
        refine lv_if_ne (tgt := 170) hx hb dX10_holds_157 (by decide) (fun c_157 => ?_) (fun c_157 => ?_)
        · have r_v_17 : RI v_17 1 1 := rc_neL r_v_17 rl_0 (ti_ne c_157) (by decide)
          refine lv_iconst (v := 1) hx hb dX10_holds_170 (by decide) ?_
          refine lv_goto (tgt := 175) hx hb dX10_holds_171 (by decide) ?_
          subst hQ
          exact W.zret (v := 1) hx hb hr (rfl) (fun t ht hW => ⟨⟨1, (), rfl, ⟨rl_1.to (by decide), (fun _ => trivial), (fun h0 => trivial)⟩, by rw [ht]; exact hw.2.1, va_K.moved hW.alike hK, hw.2.2.1⟩, hw.2.2.2.1.F ht⟩) hw.2.2.2.1.2.2 dX10_holds_175
        · have r_v_17 : RI v_17 0 0 := rc_eq1 r_v_17 rl_0 (ti_eq c_157) (by decide)
          refine lv_aload_n hx hb dX10_holds_160 rfl (lv_at hl 3 rfl) ?_
          refine lv_iload hx hb dX10_holds_161 (lv_at hl 0 rfl) ?_
          refine lv_iload_n hx hb dX10_holds_163 rfl (lv_at hl 5 rfl) ?_
          refine tk_ir (va_runV (As := [.int v_12, .int p2]) (rest := []) ⟨hx, hb, hml, hown, hts⟩ (c_X10_holds__24 l D cy z H.size Ps w0 hw.1 p0 v_12 p2 h_p0 r_v_12 r_p2) (cwV 2 hts (gV tw_1787 tw_1789 ts_119 tw_15 tw_1790) rfl rfl rfl (by decide +kernel) ⟨Nat.le_of_ble_eq_true rfl, Nat.le_of_ble_eq_true rfl⟩) (tg_preV hw hK hSD hA (ci := 10) (q := (RX10, TX10, 49)) rfl h_p0 rfl) rfl rfl hl.1 rfl (lv_room (Nat.le_of_ble_eq_true rfl)) dX10_holds_164 ⟨Nat.le_of_ble_eq_true rfl, Nat.le_of_ble_eq_true rfl⟩) hw hA (fun v_18  H locs hp_v_18 hw => ?_)
          have r_v_18 : RI v_18 0 1 := hp_v_18.1
          refine lv_if_eq (tgt := 174) hx hb dX10_holds_167 (by decide) (fun c_167 => ?_) (fun c_167 => ?_)
          · have r_v_18 : RI v_18 0 0 := rc_eq1 r_v_18 rl_0 (ti_eq c_167) (by decide)
            refine lv_iconst (v := 0) hx hb dX10_holds_174 (by decide) ?_
            subst hQ
            exact W.zret (v := 0) hx hb hr (rfl) (fun t ht hW => ⟨⟨0, (), rfl, ⟨rl_0.to (by decide), (fun h0 => trivial), (fun _ => trivial)⟩, by rw [ht]; exact hw.2.1, va_K.moved hW.alike hK, hw.2.2.1⟩, hw.2.2.2.1.F ht⟩) hw.2.2.2.1.2.2 dX10_holds_175
          · have r_v_18 : RI v_18 1 1 := rc_neL r_v_18 rl_0 (ti_ne c_167) (by decide)
            refine lv_iconst (v := 1) hx hb dX10_holds_170 (by decide) ?_
            refine lv_goto (tgt := 175) hx hb dX10_holds_171 (by decide) ?_
            subst hQ
            exact W.zret (v := 1) hx hb hr (rfl) (fun t ht hW => ⟨⟨1, (), rfl, ⟨rl_1.to (by decide), (fun _ => trivial), (fun h0 => trivial)⟩, by rw [ht]; exact hw.2.1, va_K.moved hW.alike hK, hw.2.2.1⟩, hw.2.2.2.1.F ht⟩) hw.2.2.2.1.2.2 dX10_holds_175
      · by_cases k_34_69 : v_13 = 69
        · refine lv_lookup (tgt := 176) (off := 142) hx hb dX10_holds_34 (by decide) (by rw [k_34_69]; decide) (by decide) ?_
          have r_v_13 : RI v_13 69 69 := by rw [k_34_69]; exact rl_69
          refine lv_aload_n hx hb dX10_holds_176 rfl (lv_at hl 3 rfl) ?_
          refine lv_iload_n hx hb dX10_holds_177 rfl (lv_at hl 5 rfl) ?_
          refine tk_ir (va_runV (As := [.int p2]) (rest := []) ⟨hx, hb, hml, hown, hts⟩ (c_X10_isOpen l D cy z s.heap.size Ps w0 hw.1 p0 p2 h_p0 (r_p2.to (by decide))) (cwV 1 hts (gV tw_1457 tw_1459 ts_71 tw_15 tw_1460) rfl rfl rfl (by decide +kernel) ⟨Nat.le_of_ble_eq_true rfl, Nat.le_of_ble_eq_true rfl⟩) (tg_preV hw hK hSD hA (ci := 10) (q := (RX10, TX10, 49)) rfl h_p0 rfl) rfl rfl hl.1 rfl (lv_room (Nat.le_of_ble_eq_true rfl)) dX10_holds_178 ⟨Nat.le_of_ble_eq_true rfl, Nat.le_of_ble_eq_true rfl⟩) hw hA (fun v_19  H locs hp_v_19 hw => ?_)
          have r_v_19 : RI v_19 0 1 := hp_v_19.1
          subst hQ
          exact W.zret (v := v_19) hx hb hr (tq_nz (r_v_19.to (by decide))) (fun t ht hW => ⟨⟨v_19, (), rfl, ⟨r_v_19.to (by decide), (fun h0 => trivial), (fun h0 => trivial)⟩, by rw [ht]; exact hw.2.1, va_K.moved hW.alike hK, hw.2.2.1⟩, hw.2.2.2.1.F ht⟩) hw.2.2.2.1.2.2 dX10_holds_181
        · by_cases k_34_70 : v_13 = 70
          · refine lv_lookup (tgt := 182) (off := 148) hx hb dX10_holds_34 (by decide) (by rw [k_34_70]; decide) (by decide) ?_
            have r_v_13 : RI v_13 70 70 := by rw [k_34_70]; exact rl_70
            refine lv_aload_n hx hb dX10_holds_182 rfl (lv_at hl 3 rfl) ?_
            refine lv_iload_n hx hb dX10_holds_183 rfl (lv_at hl 5 rfl) ?_
            refine tk_ir (va_runV (As := [.int p2]) (rest := []) ⟨hx, hb, hml, hown, hts⟩ (c_X10_whatIs l D cy z s.heap.size Ps w0 hw.1 p0 p2 h_p0 r_p2) (cwV 1 hts (gV tw_1449 tw_1451 ts_69 tw_15 tw_1452) rfl rfl rfl (by decide +kernel) ⟨Nat.le_of_ble_eq_true rfl, Nat.le_of_ble_eq_true rfl⟩) (tg_preV hw hK hSD hA (ci := 10) (q := (RX10, TX10, 49)) rfl h_p0 rfl) rfl rfl hl.1 rfl (lv_room (Nat.le_of_ble_eq_true rfl)) dX10_holds_184 ⟨Nat.le_of_ble_eq_true rfl, Nat.le_of_ble_eq_true rfl⟩) hw hA (fun v_20  H locs hp_v_20 hw => ?_)
            have r_v_20 : RI v_20 (-1) 5 := hp_v_20.1
            by_cases c9_v_20 : v_20.toInt < 0
            · have r_v_20 : RI v_20 (-1) (-1) := by unfold RI at r_v_20 ⊢; omega
              have x_NB_p0_p2 := (hp_v_20.2.2.2.2.1 (by omega)).1
              refine lv_iconst (v := (-1)) hx hb dX10_holds_187 (by decide) ?_
              refine lv_icmp_ne (tgt := 195) hx hb dX10_holds_188 (by decide) (fun c_188 => ?_) (fun c_188 => ?_)
              · exact absurd (r_v_20.eq.trans rl_m1.eq.symm) ((ti_ne c_188))
              · refine lv_iconst (v := 1) hx hb dX10_holds_191 (by decide) ?_
                refine lv_goto (tgt := 196) hx hb dX10_holds_192 (by decide) ?_
                subst hQ
                exact W.zret (v := 1) hx hb hr (rfl) (fun t ht hW => ⟨⟨1, (), rfl, ⟨rl_1.to (by decide), (fun _ => trivial), (fun h0 => trivial)⟩, by rw [ht]; exact hw.2.1, va_K.moved hW.alike hK, hw.2.2.1⟩, hw.2.2.2.1.F ht⟩) hw.2.2.2.1.2.2 dX10_holds_196
            · have r_v_20 : RI v_20 0 5 := by unfold RI at r_v_20 ⊢; omega
              have x_WB_p0_p2_v_20 := (hp_v_20.2.2.2.2.2 (by omega)).1
              refine lv_iconst (v := (-1)) hx hb dX10_holds_187 (by decide) ?_
              refine lv_icmp_ne (tgt := 195) hx hb dX10_holds_188 (by decide) (fun c_188 => ?_) (fun c_188 => ?_)
              · refine lv_iconst (v := 0) hx hb dX10_holds_195 (by decide) ?_
                subst hQ
                exact W.zret (v := 0) hx hb hr (rfl) (fun t ht hW => ⟨⟨0, (), rfl, ⟨rl_0.to (by decide), (fun h0 => trivial), (fun _ => trivial)⟩, by rw [ht]; exact hw.2.1, va_K.moved hW.alike hK, hw.2.2.1⟩, hw.2.2.2.1.F ht⟩) hw.2.2.2.1.2.2 dX10_holds_196
              · have r_v_20 : RI v_20 0 (-1) := rc_eq1 r_v_20 rl_m1 (ti_eq c_188) (by decide)
                exact (r_v_20.no (by decide)).elim
          · by_cases k_34_71 : v_13 = 71
            · refine lv_lookup (tgt := 197) (off := 163) hx hb dX10_holds_34 (by decide) (by rw [k_34_71]; decide) (by decide) ?_
              have r_v_13 : RI v_13 71 71 := by rw [k_34_71]; exact rl_71
              refine lv_aload_n hx hb dX10_holds_197 rfl (lv_at hl 3 rfl) ?_
              refine lv_iload_n hx hb dX10_holds_198 rfl (lv_at hl 5 rfl) ?_
              refine tk_ir (va_runV (As := [.int p2]) (rest := []) ⟨hx, hb, hml, hown, hts⟩ (c_X10_sittersOf l D cy z s.heap.size Ps w0 hw.1 p0 p2 h_p0 (r_p2.to (by decide))) (cwV 1 hts (gV tw_1461 tw_1463 ts_72 tw_15 tw_1464) rfl rfl rfl (by decide +kernel) ⟨Nat.le_of_ble_eq_true rfl, Nat.le_of_ble_eq_true rfl⟩) (tg_preV hw hK hSD hA (ci := 10) (q := (RX10, TX10, 49)) rfl h_p0 rfl) rfl rfl hl.1 rfl (lv_room (Nat.le_of_ble_eq_true rfl)) dX10_holds_199 ⟨Nat.le_of_ble_eq_true rfl, Nat.le_of_ble_eq_true rfl⟩) hw hA (fun v_21  H locs hp_v_21 hw => ?_)
              have r_v_21 : RI v_21 (-2147483648) 2147483647 := hp_v_21.1
              refine lv_if_eq (tgt := 209) hx hb dX10_holds_202 (by decide) (fun c_202 => ?_) (fun c_202 => ?_)
              · have r_v_21 : RI v_21 0 0 := rc_eq1 r_v_21 rl_0 (ti_eq c_202) (by decide)
                refine lv_iconst (v := 0) hx hb dX10_holds_209 (by decide) ?_
                subst hQ
                exact W.zret (v := 0) hx hb hr (rfl) (fun t ht hW => ⟨⟨0, (), rfl, ⟨rl_0.to (by decide), (fun h0 => trivial), (fun _ => trivial)⟩, by rw [ht]; exact hw.2.1, va_K.moved hW.alike hK, hw.2.2.1⟩, hw.2.2.2.1.F ht⟩) hw.2.2.2.1.2.2 dX10_holds_210
              · refine lv_iconst (v := 1) hx hb dX10_holds_205 (by decide) ?_
                refine lv_goto (tgt := 210) hx hb dX10_holds_206 (by decide) ?_
                subst hQ
                exact W.zret (v := 1) hx hb hr (rfl) (fun t ht hW => ⟨⟨1, (), rfl, ⟨rl_1.to (by decide), (fun _ => trivial), (fun h0 => trivial)⟩, by rw [ht]; exact hw.2.1, va_K.moved hW.alike hK, hw.2.2.1⟩, hw.2.2.2.1.F ht⟩) hw.2.2.2.1.2.2 dX10_holds_210
            · by_cases k_34_72 : v_13 = 72
              · refine lv_lookup (tgt := 211) (off := 177) hx hb dX10_holds_34 (by decide) (by rw [k_34_72]; decide) (by decide) ?_
                have r_v_13 : RI v_13 72 72 := by rw [k_34_72]; exact rl_72
                refine lv_aload_n hx hb dX10_holds_211 rfl (lv_at hl 3 rfl) ?_
                refine lv_iload_n hx hb dX10_holds_212 rfl (lv_at hl 5 rfl) ?_
                refine tk_ir (va_runV (As := [.int p2]) (rest := []) ⟨hx, hb, hml, hown, hts⟩ (c_X10_whatIs l D cy z s.heap.size Ps w0 hw.1 p0 p2 h_p0 r_p2) (cwV 1 hts (gV tw_1449 tw_1451 ts_69 tw_15 tw_1452) rfl rfl rfl (by decide +kernel) ⟨Nat.le_of_ble_eq_true rfl, Nat.le_of_ble_eq_true rfl⟩) (tg_preV hw hK hSD hA (ci := 10) (q := (RX10, TX10, 49)) rfl h_p0 rfl) rfl rfl hl.1 rfl (lv_room (Nat.le_of_ble_eq_true rfl)) dX10_holds_213 ⟨Nat.le_of_ble_eq_true rfl, Nat.le_of_ble_eq_true rfl⟩) hw hA (fun v_22  H locs hp_v_22 hw => ?_)
                have r_v_22 : RI v_22 (-1) 5 := hp_v_22.1
                by_cases c9_v_22 : v_22.toInt < 0
                · have r_v_22 : RI v_22 (-1) (-1) := by unfold RI at r_v_22 ⊢; omega
                  have x_NB_p0_p2 := (hp_v_22.2.2.2.2.1 (by omega)).1
                  refine lv_iload hx hb dX10_holds_216 (lv_at hl 1 rfl) ?_
                  refine lv_icmp_ne (tgt := 225) hx hb dX10_holds_218 (by decide) (fun c_218 => ?_) (fun c_218 => ?_)
                  · refine lv_iconst (v := 0) hx hb dX10_holds_225 (by decide) ?_
                    subst hQ
                    exact W.zret (v := 0) hx hb hr (rfl) (fun t ht hW => ⟨⟨0, (), rfl, ⟨rl_0.to (by decide), (fun h0 => trivial), (fun _ => trivial)⟩, by rw [ht]; exact hw.2.1, va_K.moved hW.alike hK, hw.2.2.1⟩, hw.2.2.2.1.F ht⟩) hw.2.2.2.1.2.2 dX10_holds_226
                  · have r_v_10 : RI v_10 (-1) (-1) := rc_eq2 r_v_22 r_v_10 (ti_eq c_218) (by decide)
                    refine lv_iconst (v := 1) hx hb dX10_holds_221 (by decide) ?_
                    refine lv_goto (tgt := 226) hx hb dX10_holds_222 (by decide) ?_
                    subst hQ
                    exact W.zret (v := 1) hx hb hr (rfl) (fun t ht hW => ⟨⟨1, (), rfl, ⟨rl_1.to (by decide), (fun _ => trivial), (fun h0 => trivial)⟩, by rw [ht]; exact hw.2.1, va_K.moved hW.alike hK, hw.2.2.1⟩, hw.2.2.2.1.F ht⟩) hw.2.2.2.1.2.2 dX10_holds_226
                · have r_v_22 : RI v_22 0 5 := by unfold RI at r_v_22 ⊢; omega
                  have x_WB_p0_p2_v_22 := (hp_v_22.2.2.2.2.2 (by omega)).1
                  refine lv_iload hx hb dX10_holds_216 (lv_at hl 1 rfl) ?_
                  refine lv_icmp_ne (tgt := 225) hx hb dX10_holds_218 (by decide) (fun c_218 => ?_) (fun c_218 => ?_)
                  · refine lv_iconst (v := 0) hx hb dX10_holds_225 (by decide) ?_
                    subst hQ
                    exact W.zret (v := 0) hx hb hr (rfl) (fun t ht hW => ⟨⟨0, (), rfl, ⟨rl_0.to (by decide), (fun h0 => trivial), (fun _ => trivial)⟩, by rw [ht]; exact hw.2.1, va_K.moved hW.alike hK, hw.2.2.1⟩, hw.2.2.2.1.F ht⟩) hw.2.2.2.1.2.2 dX10_holds_226
                  · have r_v_10 : RI v_10 0 5 := rc_eq2 r_v_22 r_v_10 (ti_eq c_218) (by decide)
                    refine lv_iconst (v := 1) hx hb dX10_holds_221 (by decide) ?_
                    refine lv_goto (tgt := 226) hx hb dX10_holds_222 (by decide) ?_
                    subst hQ
                    exact W.zret (v := 1) hx hb hr (rfl) (fun t ht hW => ⟨⟨1, (), rfl, ⟨rl_1.to (by decide), (fun _ => trivial), (fun h0 => trivial)⟩, by rw [ht]; exact hw.2.1, va_K.moved hW.alike hK, hw.2.2.1⟩, hw.2.2.2.1.F ht⟩) hw.2.2.2.1.2.2 dX10_holds_226
              · by_cases k_34_73 : v_13 = 73
                · refine lv_lookup (tgt := 227) (off := 193) hx hb dX10_holds_34 (by decide) (by rw [k_34_73]; decide) (by decide) ?_
                  have r_v_13 : RI v_13 73 73 := by rw [k_34_73]; exact rl_73
                  refine lv_aload_n hx hb dX10_holds_227 rfl (lv_at hl 3 rfl) ?_
                  refine tg_mem (ci := 10) (C := RX10) (T := TX10) (N := 49) hx hb hts inX10 hown hK hw 14 m_u_8 rfl (by decide) (hts _ tw_1151) (fun _ h9 => h9) dX10_holds_228 ?_
                  refine lv_bipush (v := 86) hx hb dX10_holds_231 (by decide) ?_
                  refine lv_iload_n hx hb dX10_holds_233 rfl (lv_at hl 5 rfl) ?_
                  refine lv_iadd hx hb dX10_holds_234 (lv_topi (fun v_23 e_v_23 => ?_))
                  obtain ⟨t_v_23, r_v_23⟩ := tq_add (lo := 86) (hi := 91) rl_86 r_p2 (by decide +kernel) e_v_23
                  have t_v_23 : v_23.toInt = 86 + p2.toInt := t_v_23
                  refine tg_iald (lo := (-2147483648)) (hi := 2147483647) hx hb hK hw h_vu_8 rfl 86 91 r_v_23 (by decide) (by decide +kernel) dX10_holds_235 (fun v_24 r_v_24 m_v_24 o_v_24 => ?_)
                  refine lv_iload hx hb dX10_holds_236 (lv_at hl 1 rfl) ?_
                  refine lv_icmp_ne (tgt := 245) hx hb dX10_holds_238 (by decide) (fun c_238 => ?_) (fun c_238 => ?_)
                  · refine lv_iconst (v := 0) hx hb dX10_holds_245 (by decide) ?_
                    subst hQ
                    exact W.zret (v := 0) hx hb hr (rfl) (fun t ht hW => ⟨⟨0, (), rfl, ⟨rl_0.to (by decide), (fun h0 => trivial), (fun _ => trivial)⟩, by rw [ht]; exact hw.2.1, va_K.moved hW.alike hK, hw.2.2.1⟩, hw.2.2.2.1.F ht⟩) hw.2.2.2.1.2.2 dX10_holds_246
                  · refine lv_iconst (v := 1) hx hb dX10_holds_241 (by decide) ?_
                    refine lv_goto (tgt := 246) hx hb dX10_holds_242 (by decide) ?_
                    subst hQ
                    exact W.zret (v := 1) hx hb hr (rfl) (fun t ht hW => ⟨⟨1, (), rfl, ⟨rl_1.to (by decide), (fun _ => trivial), (fun h0 => trivial)⟩, by rw [ht]; exact hw.2.1, va_K.moved hW.alike hK, hw.2.2.1⟩, hw.2.2.2.1.F ht⟩) hw.2.2.2.1.2.2 dX10_holds_246
                · refine lv_lookup (tgt := 247) (off := 213) hx hb dX10_holds_34 (by decide) ((lv_osw k_34_1 (by decide)).trans ((lv_osw k_34_2 (by decide)).trans ((lv_osw k_34_3 (by decide)).trans ((lv_osw k_34_69 (by decide)).trans ((lv_osw k_34_70 (by decide)).trans ((lv_osw k_34_71 (by decide)).trans ((lv_osw k_34_72 (by decide)).trans ((lv_osw k_34_73 (by decide)).trans (rfl))))))))) (by decide) ?_
                  refine lv_aload_n hx hb dX10_holds_247 rfl (lv_at hl 3 rfl) ?_
                  refine tg_mem (ci := 10) (C := RX10) (T := TX10) (N := 49) hx hb hts inX10 hown hK hw 14 m_u_8 rfl (by decide) (hts _ tw_1151) (fun _ h9 => h9) dX10_holds_248 ?_
                  refine lv_iload_n hx hb dX10_holds_251 rfl (lv_at hl 2 rfl) ?_
                  refine tg_imem hx hb hK hw h_vu_8 rfl r_v_7 (by decide) m_v_13 dX10_holds_252 ?_
                  refine lv_bipush (v := 50) hx hb dX10_holds_253 (by decide) ?_
                  refine lv_isub hx hb dX10_holds_255 (lv_topi (fun v_26 e_v_26 => ?_))
                  have r_v_26 := ri_any v_26
                  refine lv_istore (lv' := [(6, .int v_26), (5, .int v_12), (4, .int v_10), (3, .int v_7), (0, .ref p0), (1, .int p1), (2, .int p2)]) hx hb dX10_holds_256 hl (by decide) rfl (fun ls hl => ?_)
                  refine lv_iload hx hb dX10_holds_258 (lv_at hl 0 rfl) ?_
                  refine lv_bipush (v := 24) hx hb dX10_holds_260 (by decide) ?_
                  refine lv_icmp_ne (tgt := 273) hx hb dX10_holds_262 (by decide) (fun c_262 => ?_) (fun c_262 => ?_)
                  · refine lv_iload hx hb dX10_holds_273 (lv_at hl 0 rfl) ?_
                    refine lv_bipush (v := 25) hx hb dX10_holds_275 (by decide) ?_
                    refine lv_icmp_ne (tgt := 292) hx hb dX10_holds_277 (by decide) (fun c_277 => ?_) (fun c_277 => ?_)
                    · refine lv_iload hx hb dX10_holds_292 (lv_at hl 0 rfl) ?_
                      refine lv_bipush (v := 26) hx hb dX10_holds_294 (by decide) ?_
                      refine lv_icmp_ne (tgt := 311) hx hb dX10_holds_296 (by decide) (fun c_296 => ?_) (fun c_296 => ?_)
                      · refine lv_iload_n hx hb dX10_holds_311 rfl (lv_at hl 6 rfl) ?_
                        exact B312 v_7 v_10 v_12 v_26 p2 _ _ ls r_p1 r_p2 r_v_7 r_v_10 r_v_12 r_v_26 (r_p2.to (by decide)) hw (lv_sub hl [4, 5, 6, 3, 2, 1, 0] rfl)
                      · have r_v_26 : RI v_26 26 26 := rc_eq1 r_v_26 rl_26 (ti_eq c_296) (by decide)
                        refine lv_aload_n hx hb dX10_holds_299 rfl (lv_at hl 4 rfl) ?_
                        refine tg_mem (ci := 10) (C := RX10) (T := TX10) (N := 49) hx hb hts inX10 hown hK hw 14 m_u_8 rfl (by decide) (hts _ tw_1151) (fun _ h9 => h9) dX10_holds_300 ?_
                        refine lv_bipush (v := 98) hx hb dX10_holds_303 (by decide) ?_
                        refine lv_iload_n hx hb dX10_holds_305 rfl (lv_at hl 6 rfl) ?_
                        refine lv_iadd hx hb dX10_holds_306 (lv_topi (fun v_27 e_v_27 => ?_))
                        obtain ⟨t_v_27, r_v_27⟩ := tq_add (lo := 98) (hi := 103) rl_98 r_p2 (by decide +kernel) e_v_27
                        have t_v_27 : v_27.toInt = 98 + p2.toInt := t_v_27
                        refine tg_iald (lo := (-2147483648)) (hi := 2147483647) hx hb hK hw h_vu_8 rfl 98 103 r_v_27 (by decide) (by decide +kernel) dX10_holds_307 (fun v_28 r_v_28 m_v_28 o_v_28 => ?_)
                        refine lv_goto (tgt := 312) hx hb dX10_holds_308 (by decide) ?_
                        exact B312 v_7 v_10 v_12 v_26 v_28 _ _ ls r_p1 r_p2 r_v_7 r_v_10 r_v_12 (r_v_26.to (by decide)) r_v_28 hw (lv_sub hl [4, 5, 6, 3, 2, 1, 0] rfl)
                    · have r_v_26 : RI v_26 25 25 := rc_eq1 r_v_26 rl_25 (ti_eq c_277) (by decide)
                      refine lv_aload_n hx hb dX10_holds_280 rfl (lv_at hl 4 rfl) ?_
                      refine tg_mem (ci := 10) (C := RX10) (T := TX10) (N := 49) hx hb hts inX10 hown hK hw 14 m_u_8 rfl (by decide) (hts _ tw_1151) (fun _ h9 => h9) dX10_holds_281 ?_
                      refine lv_bipush (v := 92) hx hb dX10_holds_284 (by decide) ?_
                      refine lv_iload_n hx hb dX10_holds_286 rfl (lv_at hl 6 rfl) ?_
                      refine lv_iadd hx hb dX10_holds_287 (lv_topi (fun v_29 e_v_29 => ?_))
                      obtain ⟨t_v_29, r_v_29⟩ := tq_add (lo := 92) (hi := 97) rl_92 r_p2 (by decide +kernel) e_v_29
                      have t_v_29 : v_29.toInt = 92 + p2.toInt := t_v_29
                      refine tg_iald (lo := (-2147483648)) (hi := 2147483647) hx hb hK hw h_vu_8 rfl 92 97 r_v_29 (by decide) (by decide +kernel) dX10_holds_288 (fun v_30 r_v_30 m_v_30 o_v_30 => ?_)
                      refine lv_goto (tgt := 312) hx hb dX10_holds_289 (by decide) ?_
                      exact B312 v_7 v_10 v_12 v_26 v_30 _ _ ls r_p1 r_p2 r_v_7 r_v_10 r_v_12 (r_v_26.to (by decide)) r_v_30 hw (lv_sub hl [4, 5, 6, 3, 2, 1, 0] rfl)
                  · have r_v_26 : RI v_26 24 24 := rc_eq1 r_v_26 rl_24 (ti_eq c_262) (by decide)
                    refine lv_aload_n hx hb dX10_holds_265 rfl (lv_at hl 4 rfl) ?_
                    refine lv_iload_n hx hb dX10_holds_266 rfl (lv_at hl 6 rfl) ?_
                    refine tk_ir (va_runV (As := [.int p2]) (rest := []) ⟨hx, hb, hml, hown, hts⟩ (c_X10_sizeOf l D cy z s.heap.size Ps w0 hw.1 p0 p2 h_p0 r_p2) (cwV 1 hts (gV tw_1453 tw_1455 ts_70 tw_15 tw_1456) rfl rfl rfl (by decide +kernel) ⟨Nat.le_of_ble_eq_true rfl, Nat.le_of_ble_eq_true rfl⟩) (tg_preV hw hK hSD hA (ci := 10) (q := (RX10, TX10, 49)) rfl h_p0 rfl) rfl rfl hl.1 rfl (lv_room (Nat.le_of_ble_eq_true rfl)) dX10_holds_267 ⟨Nat.le_of_ble_eq_true rfl, Nat.le_of_ble_eq_true rfl⟩) hw hA (fun v_31  H locs hp_v_31 hw => ?_)
                    have r_v_31 : RI v_31 (-2147483648) 2147483647 := hp_v_31.1
                    refine lv_goto (tgt := 312) hx hb dX10_holds_270 (by decide) ?_
                    exact B312 v_7 v_10 v_12 v_26 v_31 _ _ ls r_p1 r_p2 r_v_7 r_v_10 r_v_12 (r_v_26.to (by decide)) r_v_31 hw (lv_sub hl [4, 5, 6, 3, 2, 1, 0] rfl)
abbrev wr_X10_holds__22 : List (Nat × Nat) := []
abbrev wa_X10_holds__22 : List Nat := []
set_option maxHeartbeats 4000000 in
set_option maxRecDepth 100000 in
theorem c_X10_holds__22 (l : Launch) (D : va_G) (cy : Nat → ClassId) (z : Nat → Nat) (sz : Nat) (Ps : PSI) (w0 : va_W) (hT : HT cy GG Ps w0) (p0 : Nat) (p1 : Int32) (p2 : Int32) (h_p0 : (p0, 55) ∈ Ps) (r_p1 : RI p1 0 37) (r_p2 : RI p2 0 5) : Met l yX10_holds (Cond.code yX10_holds cX10_holds 8 (some .boolean) :: gT) ({ frames := 40, cells := 0, slots := 0, locals := 8000 } : Room) (va_Pc [.ref p0, .int p1, .int p2] (PRE D cy z w0 sz)) (va_Qi (fun (r : Int32) (u : Unit) => RI r 0 1 ∧ (r = 0 → True) ∧ (¬ r = 0 → True)) (BB D cy (va_A w0 sz) (fun (u : Unit) => w0)) (va_A w0 sz)) 0 0 (va_A w0 sz) := by
  refine Met.ofW (cc := cX10_holds) (maxL := 8) (ret := (some .boolean)) (by decide) rfl ?_
  intro p e s m args below meth c s₁ B hml hv
  obtain ⟨rfl, hsz, hP, hK, hD0, hSD⟩ := hv
  have hx := B.exec
  have hb := B.bytes
  have hr := B.returns
  have hlocks := B.notSynchronized
  have hts : ∀ w ∈ gT, w.before _ s = true := fun w h => atoms_spec (ws := Cond.code yX10_holds cX10_holds 8 (some .boolean) :: gT) B.pre w (List.mem_cons_of_mem _ h)
  have hown : s.vm.findClass RX10 = some m.cls := findClass_of_methodNamed B.named
  subst hsz
  have hD := hD0.self (sz := s.heap.size)
  generalize hAe : va_A w0 s.heap.size = A at hD hSD ⊢
  have hA : ∀ q : Nat, s.heap.size ≤ q → A q := fun q h => by rw [← hAe]; exact Or.inr h
  have hl := lv_entry ([.ref p0, .int p1, .int p2]) (n := 8) (Nat.le_of_ble_eq_true rfl)
  rw [lg_entry_eq]
  generalize (lg_sl ([.ref p0, .int p1, .int p2]) ++ List.replicate (8 - (lg_sl ([.ref p0, .int p1, .int p2])).length) Slot.unset).toArray = ls at hl ⊢
  have hl : lv_has ls 8 [(0, .ref p0), (1, .int p1), (2, .int p2)] := hl
  refine nameQ (fun Q hQ => ?_)
  have hw : WD D cy GG A s wr_X10_holds__22 wa_X10_holds__22 Ps w0 Ps w0 s.heap [] := ⟨hT, hP, hD, va_S.rf, FR.rf, hT.1, [], (List.append_nil _).symm⟩
  have B312 : ∀ (x3 : Int32) (x4 : Int32) (x5 : Int32) (x6 : Int32) (y0 : Int32) (H : Heap) (locs : List Loc) (ls : Array Slot), RI p1 0 37 → RI p2 0 5 → RI x3 174 322 → RI x4 (-2147483648) 2147483647 → RI x5 (-2147483648) 2147483647 → RI x6 (-2147483648) 2147483647 → RI y0 (-2147483648) 2147483647 → WD D cy GG A s wr_X10_holds__22 wa_X10_holds__22 Ps w0 Ps w0 H locs → lv_has ls 8 [(0, .ref p0), (1, .int p1), (2, .int p2), (3, .int x3), (4, .int x4), (5, .int x5), (6, .int x6)] → W p l e (headSpec (Cond.code yX10_holds cX10_holds 8 (some .boolean) :: gT) ({ frames := 40, cells := 0, slots := 0, locals := 8000 } : Room)).room s m ([.ref p0, .int p1, .int p2] : List Value).toArray below meth c H locs 0 0 Q (F0 m 312 ls [.int y0]) := by
    intro x3 x4 x5 x6 y0 H locs ls r_p1 r_p2 r_x3 r_x4 r_x5 r_x6 r_y0 hw hl
    refine lv_istore (lv' := [(7, .int y0), (0, .ref p0), (1, .int p1), (2, .int p2), (3, .int x3), (4, .int x4), (5, .int x5), (6, .int x6)]) hx hb dX10_holds_312 hl (by decide) rfl (fun ls hl => ?_)
    refine lv_aload_n hx hb dX10_holds_314 rfl (lv_at hl 1 rfl) ?_
    refine tg_get (ci := 10) (ts := ty_MODEL) (C := RX10) (T := TX10) (N := 49) hx hb hts inX10 hown hK hw h_p0 rfl rfl 14 (by decide) (hts _ tw_1151) (fun _ h9 => h9) (ft := vR 34) rfl dX10_holds_315 (fun u_1 hv_u_1 m_u_1 => ?_)
    obtain ⟨vu_1, rfl, h_vu_1⟩ := hv_u_1
    refine lv_iload_n hx hb dX10_holds_318 rfl (lv_at hl 4 rfl) ?_
    refine lv_iconst (v := 3) hx hb dX10_holds_319 (by decide) ?_
    refine lv_iadd hx hb dX10_holds_320 (lv_topi (fun v_2 e_v_2 => ?_))
    obtain ⟨t_v_2, r_v_2⟩ := tq_add (lo := 177) (hi := 325) r_x3 rl_3 (by decide +kernel) e_v_2
    have t_v_2 : v_2.toInt = x3.toInt + 3 := t_v_2
    refine tg_iald (lo := (-2147483648)) (hi := 2147483647) hx hb hK hw h_vu_1 rfl 177 325 r_v_2 (by decide) (by decide +kernel) dX10_holds_321 (fun v_3 r_v_3 m_v_3 o_v_3 => ?_)
    refine lv_bipush (v := 60) hx hb dX10_holds_322 (by decide) ?_
    refine lv_icmp_ne (tgt := 342) hx hb dX10_holds_324 (by decide) (fun c_324 => ?_) (fun c_324 => ?_)
    · refine lv_aload_n hx hb dX10_holds_342 rfl (lv_at hl 1 rfl) ?_
      refine tg_mem (ci := 10) (C := RX10) (T := TX10) (N := 49) hx hb hts inX10 hown hK hw 14 m_u_1 rfl (by decide) (hts _ tw_1151) (fun _ h9 => h9) dX10_holds_343 ?_
      refine lv_iload_n hx hb dX10_holds_346 rfl (lv_at hl 4 rfl) ?_
      refine lv_iconst (v := 3) hx hb dX10_holds_347 (by decide) ?_
      refine lv_iadd hx hb dX10_holds_348 (lv_topi (fun v_4 e_v_4 => ?_))
      obtain ⟨t_v_4, r_v_4⟩ := tq_add (lo := 177) (hi := 325) r_x3 rl_3 (by decide +kernel) e_v_4
      have t_v_4 : v_4.toInt = x3.toInt + 3 := t_v_4
      refine tg_iald (lo := (-2147483648)) (hi := 2147483647) hx hb hK hw h_vu_1 rfl 177 325 r_v_4 (by decide) (by decide +kernel) dX10_holds_349 (fun v_5 r_v_5 m_v_5 o_v_5 => ?_)
      refine lv_bipush (v := 61) hx hb dX10_holds_350 (by decide) ?_
      refine lv_icmp_ne (tgt := 370) hx hb dX10_holds_352 (by decide) (fun c_352 => ?_) (fun c_352 => ?_)
      · refine lv_iload hx hb dX10_holds_370 (lv_at hl 0 rfl) ?_
        refine lv_iload hx hb dX10_holds_372 (lv_at hl 6 rfl) ?_
        refine lv_icmp_le (tgt := 381) hx hb dX10_holds_374 (by decide) (fun c_374 => ?_) (fun c_374 => ?_)
        · refine lv_iconst (v := 0) hx hb dX10_holds_381 (by decide) ?_
          subst hQ
          exact W.zret (v := 0) hx hb hr (rfl) (fun t ht hW => ⟨⟨0, (), rfl, ⟨rl_0.to (by decide), (fun h0 => trivial), (fun _ => trivial)⟩, by rw [ht]; exact hw.2.1, va_K.moved hW.alike hK, hw.2.2.1⟩, hw.2.2.2.1.F ht⟩) hw.2.2.2.1.2.2 dX10_holds_382
        · have r_x5 : RI x5 (-2147483648) 2147483646 := rc_lt1 r_x5 r_y0 (ti_nle c_374) (by decide)
          have r_y0 : RI y0 (-2147483647) 2147483647 := rc_lt2 r_x5 r_y0 (ti_nle c_374) (by decide)
          refine lv_iconst (v := 1) hx hb dX10_holds_377 (by decide) ?_
          refine lv_goto (tgt := 382) hx hb dX10_holds_378 (by decide) ?_
          subst hQ
          exact W.zret (v := 1) hx hb hr (rfl) (fun t ht hW => ⟨⟨1, (), rfl, ⟨rl_1.to (by decide), (fun _ => trivial), (fun h0 => trivial)⟩, by rw [ht]; exact hw.2.1, va_K.moved hW.alike hK, hw.2.2.1⟩, hw.2.2.2.1.F ht⟩) hw.2.2.2.1.2.2 dX10_holds_382
      · have r_v_5 : RI v_5 61 61 := rc_eq1 r_v_5 rl_61 (ti_eq c_352) (by decide)
        refine lv_iload hx hb dX10_holds_355 (lv_at hl 0 rfl) ?_
        refine lv_iload hx hb dX10_holds_357 (lv_at hl 6 rfl) ?_
        refine lv_icmp_ne (tgt := 366) hx hb dX10_holds_359 (by decide) (fun c_359 => ?_) (fun c_359 => ?_)
        · refine lv_iconst (v := 0) hx hb dX10_holds_366 (by decide) ?_
          refine lv_goto (tgt := 382) hx hb dX10_holds_367 (by decide) ?_
          subst hQ
          exact W.zret (v := 0) hx hb hr (rfl) (fun t ht hW => ⟨⟨0, (), rfl, ⟨rl_0.to (by decide), (fun h0 => trivial), (fun _ => trivial)⟩, by rw [ht]; exact hw.2.1, va_K.moved hW.alike hK, hw.2.2.1⟩, hw.2.2.2.1.F ht⟩) hw.2.2.2.1.2.2 dX10_holds_382
        · refine lv_iconst (v := 1) hx hb dX10_holds_362 (by decide) ?_
          refine lv_goto (tgt := 382) hx hb dX10_holds_363 (by decide) ?_
          subst hQ
          exact W.zret (v := 1) hx hb hr (rfl) (fun t ht hW => ⟨⟨1, (), rfl, ⟨rl_1.to (by decide), (fun _ => trivial), (fun h0 => trivial)⟩, by rw [ht]; exact hw.2.1, va_K.moved hW.alike hK, hw.2.2.1⟩, hw.2.2.2.1.F ht⟩) hw.2.2.2.1.2.2 dX10_holds_382
    · have r_v_3 : RI v_3 60 60 := rc_eq1 r_v_3 rl_60 (ti_eq c_324) (by decide)
      refine lv_iload hx hb dX10_holds_327 (lv_at hl 0 rfl) ?_
      refine lv_iload hx hb dX10_holds_329 (lv_at hl 6 rfl) ?_
      refine lv_icmp_ge (tgt := 338) hx hb dX10_holds_331 (by decide) (fun c_331 => ?_) (fun c_331 => ?_)
      · refine lv_iconst (v := 0) hx hb dX10_holds_338 (by decide) ?_
        refine lv_goto (tgt := 382) hx hb dX10_holds_339 (by decide) ?_
        subst hQ
        exact W.zret (v := 0) hx hb hr (rfl) (fun t ht hW => ⟨⟨0, (), rfl, ⟨rl_0.to (by decide), (fun h0 => trivial), (fun _ => trivial)⟩, by rw [ht]; exact hw.2.1, va_K.moved hW.alike hK, hw.2.2.1⟩, hw.2.2.2.1.F ht⟩) hw.2.2.2.1.2.2 dX10_holds_382
      · have r_y0 : RI y0 (-2147483648) 2147483646 := rc_lt1 r_y0 r_x5 (ti_nle c_331) (by decide)
        have r_x5 : RI x5 (-2147483647) 2147483647 := rc_lt2 r_y0 r_x5 (ti_nle c_331) (by decide)
        refine lv_iconst (v := 1) hx hb dX10_holds_334 (by decide) ?_
        refine lv_goto (tgt := 382) hx hb dX10_holds_335 (by decide) ?_
        subst hQ
        exact W.zret (v := 1) hx hb hr (rfl) (fun t ht hW => ⟨⟨1, (), rfl, ⟨rl_1.to (by decide), (fun _ => trivial), (fun h0 => trivial)⟩, by rw [ht]; exact hw.2.1, va_K.moved hW.alike hK, hw.2.2.1⟩, hw.2.2.2.1.F ht⟩) hw.2.2.2.1.2.2 dX10_holds_382
  refine lv_sipush (v := 174) hx hb dX10_holds_0 (by decide) ?_
  refine lv_iconst (v := 4) hx hb dX10_holds_3 (by decide) ?_
  refine lv_iload_n hx hb dX10_holds_4 rfl (lv_at hl 1 rfl) ?_
  refine lv_imul hx hb dX10_holds_5 (lv_topi (fun v_6 e_v_6 => ?_))
  obtain ⟨t_v_6, r_v_6⟩ := tq_mul (lo := 0) (hi := 148) rl_4 r_p1 (by decide +kernel) e_v_6
  have t_v_6 : v_6.toInt = 4 * p1.toInt := t_v_6
  refine lv_iadd hx hb dX10_holds_6 (lv_topi (fun v_7 e_v_7 => ?_))
  obtain ⟨t_v_7, r_v_7⟩ := tq_add (lo := 174) (hi := 322) rl_174 r_v_6 (by decide +kernel) e_v_7
  have t_v_7 : v_7.toInt = 174 + v_6.toInt := t_v_7
  refine lv_istore_n (lv' := [(3, .int v_7), (0, .ref p0), (1, .int p1), (2, .int p2)]) hx hb dX10_holds_7 rfl hl (by decide) rfl (fun ls hl => ?_)
  refine lv_aload_n hx hb dX10_holds_8 rfl (lv_at hl 1 rfl) ?_
  refine tg_get (ci := 10) (ts := ty_MODEL) (C := RX10) (T := TX10) (N := 49) hx hb hts inX10 hown hK hw h_p0 rfl rfl 14 (by decide) (hts _ tw_1151) (fun _ h9 => h9) (ft := vR 34) rfl dX10_holds_9 (fun u_8 hv_u_8 m_u_8 => ?_)
  obtain ⟨vu_8, rfl, h_vu_8⟩ := hv_u_8
  refine lv_iload_n hx hb dX10_holds_12 rfl (lv_at hl 0 rfl) ?_
  refine lv_iconst (v := 1) hx hb dX10_holds_13 (by decide) ?_
  refine lv_iadd hx hb dX10_holds_14 (lv_topi (fun v_9 e_v_9 => ?_))
  obtain ⟨t_v_9, r_v_9⟩ := tq_add (lo := 175) (hi := 323) r_v_7 rl_1 (by decide +kernel) e_v_9
  have t_v_9 : v_9.toInt = v_7.toInt + 1 := t_v_9
  refine tg_iald (lo := (-2147483648)) (hi := 2147483647) hx hb hK hw h_vu_8 rfl 175 323 r_v_9 (by decide) (by decide +kernel) dX10_holds_15 (fun v_10 r_v_10 m_v_10 o_v_10 => ?_)
  refine lv_istore (lv' := [(4, .int v_10), (3, .int v_7), (0, .ref p0), (1, .int p1), (2, .int p2)]) hx hb dX10_holds_16 hl (by decide) rfl (fun ls hl => ?_)
  refine lv_aload_n hx hb dX10_holds_18 rfl (lv_at hl 2 rfl) ?_
  refine tg_mem (ci := 10) (C := RX10) (T := TX10) (N := 49) hx hb hts inX10 hown hK hw 14 m_u_8 rfl (by decide) (hts _ tw_1151) (fun _ h9 => h9) dX10_holds_19 ?_
  refine lv_iload_n hx hb dX10_holds_22 rfl (lv_at hl 1 rfl) ?_
  refine lv_iconst (v := 2) hx hb dX10_holds_23 (by decide) ?_
  refine lv_iadd hx hb dX10_holds_24 (lv_topi (fun v_11 e_v_11 => ?_))
  obtain ⟨t_v_11, r_v_11⟩ := tq_add (lo := 176) (hi := 324) r_v_7 rl_2 (by decide +kernel) e_v_11
  have t_v_11 : v_11.toInt = v_7.toInt + 2 := t_v_11
  refine tg_iald (lo := (-2147483648)) (hi := 2147483647) hx hb hK hw h_vu_8 rfl 176 324 r_v_11 (by decide) (by decide +kernel) dX10_holds_25 (fun v_12 r_v_12 m_v_12 o_v_12 => ?_)
  refine lv_istore (lv' := [(5, .int v_12), (4, .int v_10), (3, .int v_7), (0, .ref p0), (1, .int p1), (2, .int p2)]) hx hb dX10_holds_26 hl (by decide) rfl (fun ls hl => ?_)
  refine lv_aload_n hx hb dX10_holds_28 rfl (lv_at hl 3 rfl) ?_
  refine tg_mem (ci := 10) (C := RX10) (T := TX10) (N := 49) hx hb hts inX10 hown hK hw 14 m_u_8 rfl (by decide) (hts _ tw_1151) (fun _ h9 => h9) dX10_holds_29 ?_
  refine lv_iload_n hx hb dX10_holds_32 rfl (lv_at hl 2 rfl) ?_
  refine tg_iald (lo := (-2147483648)) (hi := 2147483647) hx hb hK hw h_vu_8 rfl 174 322 r_v_7 (by decide) (by decide +kernel) dX10_holds_33 (fun v_13 r_v_13 m_v_13 o_v_13 => ?_)
  by_cases k_34_1 : v_13 = 1
  · refine lv_lookup (tgt := 108) (off := 74) hx hb dX10_holds_34 (by decide) (by rw [k_34_1]; decide) (by decide) ?_
    have r_v_13 : RI v_13 1 1 := by rw [k_34_1]; exact rl_1
    have g_v_10 : 0 ≤ v_10.toInt ∧ v_10.toInt < p1.toInt := by obtain ⟨_, f9, e8, e7, q9, _⟩ := ax_of (k := 14) (t := 34) hw h_p0 rfl (fun _ => rfl); cases FLD.inj hw.2.2.1 e8 m_u_8; have t9 := ARR.ael hw.2.2.1 e7 m_v_13; have x9 := ARR.ael hw.2.2.1 e7 m_v_10; rw [show Int32.toNatClampNeg v_7 = 174 + 4 * Int32.toNatClampNeg p1 from (by have k1 := r_v_7.cl (by decide); have k2 := r_p1.cl (by decide); omega)] at t9; rw [show Int32.toNatClampNeg v_9 = 175 + 4 * Int32.toNatClampNeg p1 from (by have k1 := r_v_9.cl (by decide); have k2 := r_p1.cl (by decide); omega)] at x9; exact RN_child q9 (r_p1.to (by decide)) t9 x9 (r_v_13.to (by decide))
    have r_v_10 : RI v_10 0 36 := ⟨g_v_10.1, by have k1 := r_p1.2; omega⟩
    refine lv_aload_n hx hb dX10_holds_108 rfl (lv_at hl 3 rfl) ?_
    refine lv_iload hx hb dX10_holds_109 (lv_at hl 1 rfl) ?_
    refine lv_iload_n hx hb dX10_holds_111 rfl (lv_at hl 5 rfl) ?_
    refine tk_ir (va_runV (As := [.int v_10, .int p2]) (rest := []) ⟨hx, hb, hml, hown, hts⟩ (c_X10_holds__23 l D cy z s.heap.size Ps w0 hw.1 p0 v_10 p2 h_p0 r_v_10 r_p2) (cwV 2 hts (gV tw_1787 tw_1789 ts_119 tw_15 tw_1790) rfl rfl rfl (by decide +kernel) ⟨Nat.le_of_ble_eq_true rfl, Nat.le_of_ble_eq_true rfl⟩) (tg_preV hw hK hSD hA (ci := 10) (q := (RX10, TX10, 49)) rfl h_p0 rfl) rfl rfl hl.1 rfl (lv_room (Nat.le_of_ble_eq_true rfl)) dX10_holds_112 ⟨Nat.le_of_ble_eq_true rfl, Nat.le_of_ble_eq_true rfl⟩) hw hA (fun v_14  H locs hp_v_14 hw => ?_)
    have r_v_14 : RI v_14 0 1 := hp_v_14.1
    refine lv_if_ne (tgt := 122) hx hb dX10_holds_115 (by decide) (fun c_115 => ?_) (fun c_115 => ?_)
    · have r_v_14 : RI v_14 1 1 := rc_neL r_v_14 rl_0 (ti_ne c_115) (by decide)
      refine lv_iconst (v := 0) hx hb dX10_holds_122 (by decide) ?_
      subst hQ
      exact W.zret (v := 0) hx hb hr (rfl) (fun t ht hW => ⟨⟨0, (), rfl, ⟨rl_0.to (by decide), (fun h0 => trivial), (fun _ => trivial)⟩, by rw [ht]; exact hw.2.1, va_K.moved hW.alike hK, hw.2.2.1⟩, hw.2.2.2.1.F ht⟩) hw.2.2.2.1.2.2 dX10_holds_123
    · have r_v_14 : RI v_14 0 0 := rc_eq1 r_v_14 rl_0 (ti_eq c_115) (by decide)
      refine lv_iconst (v := 1) hx hb dX10_holds_118 (by decide) ?_
      refine lv_goto (tgt := 123) hx hb dX10_holds_119 (by decide) ?_
      subst hQ
      exact W.zret (v := 1) hx hb hr (rfl) (fun t ht hW => ⟨⟨1, (), rfl, ⟨rl_1.to (by decide), (fun _ => trivial), (fun h0 => trivial)⟩, by rw [ht]; exact hw.2.1, va_K.moved hW.alike hK, hw.2.2.1⟩, hw.2.2.2.1.F ht⟩) hw.2.2.2.1.2.2 dX10_holds_123
  · by_cases k_34_2 : v_13 = 2
    · refine lv_lookup (tgt := 124) (off := 90) hx hb dX10_holds_34 (by decide) (by rw [k_34_2]; decide) (by decide) ?_
      have r_v_13 : RI v_13 2 2 := by rw [k_34_2]; exact rl_2
      have g_v_10 : 0 ≤ v_10.toInt ∧ v_10.toInt < p1.toInt := by obtain ⟨_, f9, e8, e7, q9, _⟩ := ax_of (k := 14) (t := 34) hw h_p0 rfl (fun _ => rfl); cases FLD.inj hw.2.2.1 e8 m_u_8; have t9 := ARR.ael hw.2.2.1 e7 m_v_13; have x9 := ARR.ael hw.2.2.1 e7 m_v_10; rw [show Int32.toNatClampNeg v_7 = 174 + 4 * Int32.toNatClampNeg p1 from (by have k1 := r_v_7.cl (by decide); have k2 := r_p1.cl (by decide); omega)] at t9; rw [show Int32.toNatClampNeg v_9 = 175 + 4 * Int32.toNatClampNeg p1 from (by have k1 := r_v_9.cl (by decide); have k2 := r_p1.cl (by decide); omega)] at x9; exact RN_child q9 (r_p1.to (by decide)) t9 x9 (r_v_13.to (by decide))
      have r_v_10 : RI v_10 0 36 := ⟨g_v_10.1, by have k1 := r_p1.2; omega⟩
      have g_v_12 : 0 ≤ v_12.toInt ∧ v_12.toInt < p1.toInt := by obtain ⟨_, f9, e8, e7, q9, _⟩ := ax_of (k := 14) (t := 34) hw h_p0 rfl (fun _ => rfl); cases FLD.inj hw.2.2.1 e8 m_u_8; have t9 := ARR.ael hw.2.2.1 e7 m_v_13; have x9 := ARR.ael hw.2.2.1 e7 m_v_12; rw [show Int32.toNatClampNeg v_7 = 174 + 4 * Int32.toNatClampNeg p1 from (by have k1 := r_v_7.cl (by decide); have k2 := r_p1.cl (by decide); omega)] at t9; rw [show Int32.toNatClampNeg v_11 = 176 + 4 * Int32.toNatClampNeg p1 from (by have k1 := r_v_11.cl (by decide); have k2 := r_p1.cl (by decide); omega)] at x9; exact RN_child2 q9 (r_p1.to (by decide)) t9 x9 (r_v_13.to (by decide))
      have r_v_12 : RI v_12 0 36 := ⟨g_v_12.1, by have k1 := r_p1.2; omega⟩
      refine lv_aload_n hx hb dX10_holds_124 rfl (lv_at hl 3 rfl) ?_
      refine lv_iload hx hb dX10_holds_125 (lv_at hl 1 rfl) ?_
      refine lv_iload_n hx hb dX10_holds_127 rfl (lv_at hl 5 rfl) ?_
      refine tk_ir (va_runV (As := [.int v_10, .int p2]) (rest := []) ⟨hx, hb, hml, hown, hts⟩ (c_X10_holds__23 l D cy z s.heap.size Ps w0 hw.1 p0 v_10 p2 h_p0 r_v_10 r_p2) (cwV 2 hts (gV tw_1787 tw_1789 ts_119 tw_15 tw_1790) rfl rfl rfl (by decide +kernel) ⟨Nat.le_of_ble_eq_true rfl, Nat.le_of_ble_eq_true rfl⟩) (tg_preV hw hK hSD hA (ci := 10) (q := (RX10, TX10, 49)) rfl h_p0 rfl) rfl rfl hl.1 rfl (lv_room (Nat.le_of_ble_eq_true rfl)) dX10_holds_128 ⟨Nat.le_of_ble_eq_true rfl, Nat.le_of_ble_eq_true rfl⟩) hw hA (fun v_15  H locs hp_v_15 hw => ?_)
      have r_v_15 : RI v_15 0 1 := hp_v_15.1
      refine lv_if_eq (tgt := 148) hx hb dX10_holds_131 (by decide) (fun c_131 => ?_) (fun c_131 => ?_)
      · have r_v_15 : RI v_15 0 0 := rc_eq1 r_v_15 rl_0 (ti_eq c_131) (by decide)
        refine lv_iconst (v := 0) hx hb dX10_holds_148 (by decide) ?_
        subst hQ
        exact W.zret (v := 0) hx hb hr (rfl) (fun t ht hW => ⟨⟨0, (), rfl, ⟨rl_0.to (by decide), (fun h0 => trivial), (fun _ => trivial)⟩, by rw [ht]; exact hw.2.1, va_K.moved hW.alike hK, hw.2.2.1⟩, hw.2.2.2.1.F ht⟩) hw.2.2.2.1.2.2 dX10_holds_149
      · have r_v_15 : RI v_15 1 1 := rc_neL r_v_15 rl_0 (ti_ne c_131) (by decide)
        refine lv_aload_n hx hb dX10_holds_134 rfl (lv_at hl 3 rfl) ?_
        refine lv_iload hx hb dX10_holds_135 (lv_at hl 0 rfl) ?_
        refine lv_iload_n hx hb dX10_holds_137 rfl (lv_at hl 5 rfl) ?_
        refine tk_ir (va_runV (As := [.int v_12, .int p2]) (rest := []) ⟨hx, hb, hml, hown, hts⟩ (c_X10_holds__23 l D cy z H.size Ps w0 hw.1 p0 v_12 p2 h_p0 r_v_12 r_p2) (cwV 2 hts (gV tw_1787 tw_1789 ts_119 tw_15 tw_1790) rfl rfl rfl (by decide +kernel) ⟨Nat.le_of_ble_eq_true rfl, Nat.le_of_ble_eq_true rfl⟩) (tg_preV hw hK hSD hA (ci := 10) (q := (RX10, TX10, 49)) rfl h_p0 rfl) rfl rfl hl.1 rfl (lv_room (Nat.le_of_ble_eq_true rfl)) dX10_holds_138 ⟨Nat.le_of_ble_eq_true rfl, Nat.le_of_ble_eq_true rfl⟩) hw hA (fun v_16  H locs hp_v_16 hw => ?_)
        have r_v_16 : RI v_16 0 1 := hp_v_16.1
        refine lv_if_eq (tgt := 148) hx hb dX10_holds_141 (by decide) (fun c_141 => ?_) (fun c_141 => ?_)
        · have r_v_16 : RI v_16 0 0 := rc_eq1 r_v_16 rl_0 (ti_eq c_141) (by decide)
          refine lv_iconst (v := 0) hx hb dX10_holds_148 (by decide) ?_
          subst hQ
          exact W.zret (v := 0) hx hb hr (rfl) (fun t ht hW => ⟨⟨0, (), rfl, ⟨rl_0.to (by decide), (fun h0 => trivial), (fun _ => trivial)⟩, by rw [ht]; exact hw.2.1, va_K.moved hW.alike hK, hw.2.2.1⟩, hw.2.2.2.1.F ht⟩) hw.2.2.2.1.2.2 dX10_holds_149
        · have r_v_16 : RI v_16 1 1 := rc_neL r_v_16 rl_0 (ti_ne c_141) (by decide)
          refine lv_iconst (v := 1) hx hb dX10_holds_144 (by decide) ?_
          refine lv_goto (tgt := 149) hx hb dX10_holds_145 (by decide) ?_
          subst hQ
          exact W.zret (v := 1) hx hb hr (rfl) (fun t ht hW => ⟨⟨1, (), rfl, ⟨rl_1.to (by decide), (fun _ => trivial), (fun h0 => trivial)⟩, by rw [ht]; exact hw.2.1, va_K.moved hW.alike hK, hw.2.2.1⟩, hw.2.2.2.1.F ht⟩) hw.2.2.2.1.2.2 dX10_holds_149
    · by_cases k_34_3 : v_13 = 3
      · refine lv_lookup (tgt := 150) (off := 116) hx hb dX10_holds_34 (by decide) (by rw [k_34_3]; decide) (by decide) ?_
        have r_v_13 : RI v_13 3 3 := by rw [k_34_3]; exact rl_3
        have g_v_10 : 0 ≤ v_10.toInt ∧ v_10.toInt < p1.toInt := by obtain ⟨_, f9, e8, e7, q9, _⟩ := ax_of (k := 14) (t := 34) hw h_p0 rfl (fun _ => rfl); cases FLD.inj hw.2.2.1 e8 m_u_8; have t9 := ARR.ael hw.2.2.1 e7 m_v_13; have x9 := ARR.ael hw.2.2.1 e7 m_v_10; rw [show Int32.toNatClampNeg v_7 = 174 + 4 * Int32.toNatClampNeg p1 from (by have k1 := r_v_7.cl (by decide); have k2 := r_p1.cl (by decide); omega)] at t9; rw [show Int32.toNatClampNeg v_9 = 175 + 4 * Int32.toNatClampNeg p1 from (by have k1 := r_v_9.cl (by decide); have k2 := r_p1.cl (by decide); omega)] at x9; exact RN_child q9 (r_p1.to (by decide)) t9 x9 (r_v_13.to (by decide))
        have r_v_10 : RI v_10 0 36 := ⟨g_v_10.1, by have k1 := r_p1.2; omega⟩
        have g_v_12 : 0 ≤ v_12.toInt ∧ v_12.toInt < p1.toInt := by obtain ⟨_, f9, e8, e7, q9, _⟩ := ax_of (k := 14) (t := 34) hw h_p0 rfl (fun _ => rfl); cases FLD.inj hw.2.2.1 e8 m_u_8; have t9 := ARR.ael hw.2.2.1 e7 m_v_13; have x9 := ARR.ael hw.2.2.1 e7 m_v_12; rw [show Int32.toNatClampNeg v_7 = 174 + 4 * Int32.toNatClampNeg p1 from (by have k1 := r_v_7.cl (by decide); have k2 := r_p1.cl (by decide); omega)] at t9; rw [show Int32.toNatClampNeg v_11 = 176 + 4 * Int32.toNatClampNeg p1 from (by have k1 := r_v_11.cl (by decide); have k2 := r_p1.cl (by decide); omega)] at x9; exact RN_child2 q9 (r_p1.to (by decide)) t9 x9 (r_v_13.to (by decide))
        have r_v_12 : RI v_12 0 36 := ⟨g_v_12.1, by have k1 := r_p1.2; omega⟩
        refine lv_aload_n hx hb dX10_holds_150 rfl (lv_at hl 3 rfl) ?_
        refine lv_iload hx hb dX10_holds_151 (lv_at hl 1 rfl) ?_
        refine lv_iload_n hx hb dX10_holds_153 rfl (lv_at hl 5 rfl) ?_
        refine tk_ir (va_runV (As := [.int v_10, .int p2]) (rest := []) ⟨hx, hb, hml, hown, hts⟩ (c_X10_holds__23 l D cy z s.heap.size Ps w0 hw.1 p0 v_10 p2 h_p0 r_v_10 r_p2) (cwV 2 hts (gV tw_1787 tw_1789 ts_119 tw_15 tw_1790) rfl rfl rfl (by decide +kernel) ⟨Nat.le_of_ble_eq_true rfl, Nat.le_of_ble_eq_true rfl⟩) (tg_preV hw hK hSD hA (ci := 10) (q := (RX10, TX10, 49)) rfl h_p0 rfl) rfl rfl hl.1 rfl (lv_room (Nat.le_of_ble_eq_true rfl)) dX10_holds_154 ⟨Nat.le_of_ble_eq_true rfl, Nat.le_of_ble_eq_true rfl⟩) hw hA (fun v_17  H locs hp_v_17 hw => ?_)
        have r_v_17 : RI v_17 0 1 := hp_v_17.1
        refine lv_if_ne (tgt := 170) hx hb dX10_holds_157 (by decide) (fun c_157 => ?_) (fun c_157 => ?_)
        · have r_v_17 : RI v_17 1 1 := rc_neL r_v_17 rl_0 (ti_ne c_157) (by decide)
          refine lv_iconst (v := 1) hx hb dX10_holds_170 (by decide) ?_
          refine lv_goto (tgt := 175) hx hb dX10_holds_171 (by decide) ?_
          subst hQ
          exact W.zret (v := 1) hx hb hr (rfl) (fun t ht hW => ⟨⟨1, (), rfl, ⟨rl_1.to (by decide), (fun _ => trivial), (fun h0 => trivial)⟩, by rw [ht]; exact hw.2.1, va_K.moved hW.alike hK, hw.2.2.1⟩, hw.2.2.2.1.F ht⟩) hw.2.2.2.1.2.2 dX10_holds_175
        · have r_v_17 : RI v_17 0 0 := rc_eq1 r_v_17 rl_0 (ti_eq c_157) (by decide)
          refine lv_aload_n hx hb dX10_holds_160 rfl (lv_at hl 3 rfl) ?_
          refine lv_iload hx hb dX10_holds_161 (lv_at hl 0 rfl) ?_
          refine lv_iload_n hx hb dX10_holds_163 rfl (lv_at hl 5 rfl) ?_
          refine tk_ir (va_runV (As := [.int v_12, .int p2]) (rest := []) ⟨hx, hb, hml, hown, hts⟩ (c_X10_holds__23 l D cy z H.size Ps w0 hw.1 p0 v_12 p2 h_p0 r_v_12 r_p2) (cwV 2 hts (gV tw_1787 tw_1789 ts_119 tw_15 tw_1790) rfl rfl rfl (by decide +kernel) ⟨Nat.le_of_ble_eq_true rfl, Nat.le_of_ble_eq_true rfl⟩) (tg_preV hw hK hSD hA (ci := 10) (q := (RX10, TX10, 49)) rfl h_p0 rfl) rfl rfl hl.1 rfl (lv_room (Nat.le_of_ble_eq_true rfl)) dX10_holds_164 ⟨Nat.le_of_ble_eq_true rfl, Nat.le_of_ble_eq_true rfl⟩) hw hA (fun v_18  H locs hp_v_18 hw => ?_)
          have r_v_18 : RI v_18 0 1 := hp_v_18.1
          refine lv_if_eq (tgt := 174) hx hb dX10_holds_167 (by decide) (fun c_167 => ?_) (fun c_167 => ?_)
          · have r_v_18 : RI v_18 0 0 := rc_eq1 r_v_18 rl_0 (ti_eq c_167) (by decide)
            refine lv_iconst (v := 0) hx hb dX10_holds_174 (by decide) ?_
            subst hQ
            exact W.zret (v := 0) hx hb hr (rfl) (fun t ht hW => ⟨⟨0, (), rfl, ⟨rl_0.to (by decide), (fun h0 => trivial), (fun _ => trivial)⟩, by rw [ht]; exact hw.2.1, va_K.moved hW.alike hK, hw.2.2.1⟩, hw.2.2.2.1.F ht⟩) hw.2.2.2.1.2.2 dX10_holds_175
          · have r_v_18 : RI v_18 1 1 := rc_neL r_v_18 rl_0 (ti_ne c_167) (by decide)
            refine lv_iconst (v := 1) hx hb dX10_holds_170 (by decide) ?_
            refine lv_goto (tgt := 175) hx hb dX10_holds_171 (by decide) ?_
            subst hQ
            exact W.zret (v := 1) hx hb hr (rfl) (fun t ht hW => ⟨⟨1, (), rfl, ⟨rl_1.to (by decide), (fun _ => trivial), (fun h0 => trivial)⟩, by rw [ht]; exact hw.2.1, va_K.moved hW.alike hK, hw.2.2.1⟩, hw.2.2.2.1.F ht⟩) hw.2.2.2.1.2.2 dX10_holds_175
      · by_cases k_34_69 : v_13 = 69
        · refine lv_lookup (tgt := 176) (off := 142) hx hb dX10_holds_34 (by decide) (by rw [k_34_69]; decide) (by decide) ?_
          have r_v_13 : RI v_13 69 69 := by rw [k_34_69]; exact rl_69
          refine lv_aload_n hx hb dX10_holds_176 rfl (lv_at hl 3 rfl) ?_
          refine lv_iload_n hx hb dX10_holds_177 rfl (lv_at hl 5 rfl) ?_
          refine tk_ir (va_runV (As := [.int p2]) (rest := []) ⟨hx, hb, hml, hown, hts⟩ (c_X10_isOpen l D cy z s.heap.size Ps w0 hw.1 p0 p2 h_p0 (r_p2.to (by decide))) (cwV 1 hts (gV tw_1457 tw_1459 ts_71 tw_15 tw_1460) rfl rfl rfl (by decide +kernel) ⟨Nat.le_of_ble_eq_true rfl, Nat.le_of_ble_eq_true rfl⟩) (tg_preV hw hK hSD hA (ci := 10) (q := (RX10, TX10, 49)) rfl h_p0 rfl) rfl rfl hl.1 rfl (lv_room (Nat.le_of_ble_eq_true rfl)) dX10_holds_178 ⟨Nat.le_of_ble_eq_true rfl, Nat.le_of_ble_eq_true rfl⟩) hw hA (fun v_19  H locs hp_v_19 hw => ?_)
          have r_v_19 : RI v_19 0 1 := hp_v_19.1
          subst hQ
          exact W.zret (v := v_19) hx hb hr (tq_nz (r_v_19.to (by decide))) (fun t ht hW => ⟨⟨v_19, (), rfl, ⟨r_v_19.to (by decide), (fun h0 => trivial), (fun h0 => trivial)⟩, by rw [ht]; exact hw.2.1, va_K.moved hW.alike hK, hw.2.2.1⟩, hw.2.2.2.1.F ht⟩) hw.2.2.2.1.2.2 dX10_holds_181
        · by_cases k_34_70 : v_13 = 70
          · refine lv_lookup (tgt := 182) (off := 148) hx hb dX10_holds_34 (by decide) (by rw [k_34_70]; decide) (by decide) ?_
            have r_v_13 : RI v_13 70 70 := by rw [k_34_70]; exact rl_70
            refine lv_aload_n hx hb dX10_holds_182 rfl (lv_at hl 3 rfl) ?_
            refine lv_iload_n hx hb dX10_holds_183 rfl (lv_at hl 5 rfl) ?_
            refine tk_ir (va_runV (As := [.int p2]) (rest := []) ⟨hx, hb, hml, hown, hts⟩ (c_X10_whatIs l D cy z s.heap.size Ps w0 hw.1 p0 p2 h_p0 r_p2) (cwV 1 hts (gV tw_1449 tw_1451 ts_69 tw_15 tw_1452) rfl rfl rfl (by decide +kernel) ⟨Nat.le_of_ble_eq_true rfl, Nat.le_of_ble_eq_true rfl⟩) (tg_preV hw hK hSD hA (ci := 10) (q := (RX10, TX10, 49)) rfl h_p0 rfl) rfl rfl hl.1 rfl (lv_room (Nat.le_of_ble_eq_true rfl)) dX10_holds_184 ⟨Nat.le_of_ble_eq_true rfl, Nat.le_of_ble_eq_true rfl⟩) hw hA (fun v_20  H locs hp_v_20 hw => ?_)
            have r_v_20 : RI v_20 (-1) 5 := hp_v_20.1
            by_cases c9_v_20 : v_20.toInt < 0
            · have r_v_20 : RI v_20 (-1) (-1) := by unfold RI at r_v_20 ⊢; omega
              have x_NB_p0_p2 := (hp_v_20.2.2.2.2.1 (by omega)).1
              refine lv_iconst (v := (-1)) hx hb dX10_holds_187 (by decide) ?_
              refine lv_icmp_ne (tgt := 195) hx hb dX10_holds_188 (by decide) (fun c_188 => ?_) (fun c_188 => ?_)
              · exact absurd (r_v_20.eq.trans rl_m1.eq.symm) ((ti_ne c_188))
              · refine lv_iconst (v := 1) hx hb dX10_holds_191 (by decide) ?_
                refine lv_goto (tgt := 196) hx hb dX10_holds_192 (by decide) ?_
                subst hQ
                exact W.zret (v := 1) hx hb hr (rfl) (fun t ht hW => ⟨⟨1, (), rfl, ⟨rl_1.to (by decide), (fun _ => trivial), (fun h0 => trivial)⟩, by rw [ht]; exact hw.2.1, va_K.moved hW.alike hK, hw.2.2.1⟩, hw.2.2.2.1.F ht⟩) hw.2.2.2.1.2.2 dX10_holds_196
            · have r_v_20 : RI v_20 0 5 := by unfold RI at r_v_20 ⊢; omega
              have x_WB_p0_p2_v_20 := (hp_v_20.2.2.2.2.2 (by omega)).1
              refine lv_iconst (v := (-1)) hx hb dX10_holds_187 (by decide) ?_
              refine lv_icmp_ne (tgt := 195) hx hb dX10_holds_188 (by decide) (fun c_188 => ?_) (fun c_188 => ?_)
              · refine lv_iconst (v := 0) hx hb dX10_holds_195 (by decide) ?_
                subst hQ
                exact W.zret (v := 0) hx hb hr (rfl) (fun t ht hW => ⟨⟨0, (), rfl, ⟨rl_0.to (by decide), (fun h0 => trivial), (fun _ => trivial)⟩, by rw [ht]; exact hw.2.1, va_K.moved hW.alike hK, hw.2.2.1⟩, hw.2.2.2.1.F ht⟩) hw.2.2.2.1.2.2 dX10_holds_196
              · have r_v_20 : RI v_20 0 (-1) := rc_eq1 r_v_20 rl_m1 (ti_eq c_188) (by decide)
                exact (r_v_20.no (by decide)).elim
          · by_cases k_34_71 : v_13 = 71
            · refine lv_lookup (tgt := 197) (off := 163) hx hb dX10_holds_34 (by decide) (by rw [k_34_71]; decide) (by decide) ?_
              have r_v_13 : RI v_13 71 71 := by rw [k_34_71]; exact rl_71
              refine lv_aload_n hx hb dX10_holds_197 rfl (lv_at hl 3 rfl) ?_
              refine lv_iload_n hx hb dX10_holds_198 rfl (lv_at hl 5 rfl) ?_
              refine tk_ir (va_runV (As := [.int p2]) (rest := []) ⟨hx, hb, hml, hown, hts⟩ (c_X10_sittersOf l D cy z s.heap.size Ps w0 hw.1 p0 p2 h_p0 (r_p2.to (by decide))) (cwV 1 hts (gV tw_1461 tw_1463 ts_72 tw_15 tw_1464) rfl rfl rfl (by decide +kernel) ⟨Nat.le_of_ble_eq_true rfl, Nat.le_of_ble_eq_true rfl⟩) (tg_preV hw hK hSD hA (ci := 10) (q := (RX10, TX10, 49)) rfl h_p0 rfl) rfl rfl hl.1 rfl (lv_room (Nat.le_of_ble_eq_true rfl)) dX10_holds_199 ⟨Nat.le_of_ble_eq_true rfl, Nat.le_of_ble_eq_true rfl⟩) hw hA (fun v_21  H locs hp_v_21 hw => ?_)
              have r_v_21 : RI v_21 (-2147483648) 2147483647 := hp_v_21.1
              refine lv_if_eq (tgt := 209) hx hb dX10_holds_202 (by decide) (fun c_202 => ?_) (fun c_202 => ?_)
              · have r_v_21 : RI v_21 0 0 := rc_eq1 r_v_21 rl_0 (ti_eq c_202) (by decide)
                refine lv_iconst (v := 0) hx hb dX10_holds_209 (by decide) ?_
                subst hQ
                exact W.zret (v := 0) hx hb hr (rfl) (fun t ht hW => ⟨⟨0, (), rfl, ⟨rl_0.to (by decide), (fun h0 => trivial), (fun _ => trivial)⟩, by rw [ht]; exact hw.2.1, va_K.moved hW.alike hK, hw.2.2.1⟩, hw.2.2.2.1.F ht⟩) hw.2.2.2.1.2.2 dX10_holds_210
              · refine lv_iconst (v := 1) hx hb dX10_holds_205 (by decide) ?_
                refine lv_goto (tgt := 210) hx hb dX10_holds_206 (by decide) ?_
                subst hQ
                exact W.zret (v := 1) hx hb hr (rfl) (fun t ht hW => ⟨⟨1, (), rfl, ⟨rl_1.to (by decide), (fun _ => trivial), (fun h0 => trivial)⟩, by rw [ht]; exact hw.2.1, va_K.moved hW.alike hK, hw.2.2.1⟩, hw.2.2.2.1.F ht⟩) hw.2.2.2.1.2.2 dX10_holds_210
            · by_cases k_34_72 : v_13 = 72
              · refine lv_lookup (tgt := 211) (off := 177) hx hb dX10_holds_34 (by decide) (by rw [k_34_72]; decide) (by decide) ?_
                have r_v_13 : RI v_13 72 72 := by rw [k_34_72]; exact rl_72
                refine lv_aload_n hx hb dX10_holds_211 rfl (lv_at hl 3 rfl) ?_
                refine lv_iload_n hx hb dX10_holds_212 rfl (lv_at hl 5 rfl) ?_
                refine tk_ir (va_runV (As := [.int p2]) (rest := []) ⟨hx, hb, hml, hown, hts⟩ (c_X10_whatIs l D cy z s.heap.size Ps w0 hw.1 p0 p2 h_p0 r_p2) (cwV 1 hts (gV tw_1449 tw_1451 ts_69 tw_15 tw_1452) rfl rfl rfl (by decide +kernel) ⟨Nat.le_of_ble_eq_true rfl, Nat.le_of_ble_eq_true rfl⟩) (tg_preV hw hK hSD hA (ci := 10) (q := (RX10, TX10, 49)) rfl h_p0 rfl) rfl rfl hl.1 rfl (lv_room (Nat.le_of_ble_eq_true rfl)) dX10_holds_213 ⟨Nat.le_of_ble_eq_true rfl, Nat.le_of_ble_eq_true rfl⟩) hw hA (fun v_22  H locs hp_v_22 hw => ?_)
                have r_v_22 : RI v_22 (-1) 5 := hp_v_22.1
                by_cases c9_v_22 : v_22.toInt < 0
                · have r_v_22 : RI v_22 (-1) (-1) := by unfold RI at r_v_22 ⊢; omega
                  have x_NB_p0_p2 := (hp_v_22.2.2.2.2.1 (by omega)).1
                  refine lv_iload hx hb dX10_holds_216 (lv_at hl 1 rfl) ?_
                  refine lv_icmp_ne (tgt := 225) hx hb dX10_holds_218 (by decide) (fun c_218 => ?_) (fun c_218 => ?_)
                  · refine lv_iconst (v := 0) hx hb dX10_holds_225 (by decide) ?_
                    subst hQ
                    exact W.zret (v := 0) hx hb hr (rfl) (fun t ht hW => ⟨⟨0, (), rfl, ⟨rl_0.to (by decide), (fun h0 => trivial), (fun _ => trivial)⟩, by rw [ht]; exact hw.2.1, va_K.moved hW.alike hK, hw.2.2.1⟩, hw.2.2.2.1.F ht⟩) hw.2.2.2.1.2.2 dX10_holds_226
                  · have r_v_10 : RI v_10 (-1) (-1) := rc_eq2 r_v_22 r_v_10 (ti_eq c_218) (by decide)
                    refine lv_iconst (v := 1) hx hb dX10_holds_221 (by decide) ?_
                    refine lv_goto (tgt := 226) hx hb dX10_holds_222 (by decide) ?_
                    subst hQ
                    exact W.zret (v := 1) hx hb hr (rfl) (fun t ht hW => ⟨⟨1, (), rfl, ⟨rl_1.to (by decide), (fun _ => trivial), (fun h0 => trivial)⟩, by rw [ht]; exact hw.2.1, va_K.moved hW.alike hK, hw.2.2.1⟩, hw.2.2.2.1.F ht⟩) hw.2.2.2.1.2.2 dX10_holds_226
                · have r_v_22 : RI v_22 0 5 := by unfold RI at r_v_22 ⊢; omega
                  have x_WB_p0_p2_v_22 := (hp_v_22.2.2.2.2.2 (by omega)).1
                  refine lv_iload hx hb dX10_holds_216 (lv_at hl 1 rfl) ?_
                  refine lv_icmp_ne (tgt := 225) hx hb dX10_holds_218 (by decide) (fun c_218 => ?_) (fun c_218 => ?_)
                  · refine lv_iconst (v := 0) hx hb dX10_holds_225 (by decide) ?_
                    subst hQ
                    exact W.zret (v := 0) hx hb hr (rfl) (fun t ht hW => ⟨⟨0, (), rfl, ⟨rl_0.to (by decide), (fun h0 => trivial), (fun _ => trivial)⟩, by rw [ht]; exact hw.2.1, va_K.moved hW.alike hK, hw.2.2.1⟩, hw.2.2.2.1.F ht⟩) hw.2.2.2.1.2.2 dX10_holds_226
                  · have r_v_10 : RI v_10 0 5 := rc_eq2 r_v_22 r_v_10 (ti_eq c_218) (by decide)
                    refine lv_iconst (v := 1) hx hb dX10_holds_221 (by decide) ?_
                    refine lv_goto (tgt := 226) hx hb dX10_holds_222 (by decide) ?_
                    subst hQ
                    exact W.zret (v := 1) hx hb hr (rfl) (fun t ht hW => ⟨⟨1, (), rfl, ⟨rl_1.to (by decide), (fun _ => trivial), (fun h0 => trivial)⟩, by rw [ht]; exact hw.2.1, va_K.moved hW.alike hK, hw.2.2.1⟩, hw.2.2.2.1.F ht⟩) hw.2.2.2.1.2.2 dX10_holds_226
              · by_cases k_34_73 : v_13 = 73
                · refine lv_lookup (tgt := 227) (off := 193) hx hb dX10_holds_34 (by decide) (by rw [k_34_73]; decide) (by decide) ?_
                  have r_v_13 : RI v_13 73 73 := by rw [k_34_73]; exact rl_73
                  refine lv_aload_n hx hb dX10_holds_227 rfl (lv_at hl 3 rfl) ?_
                  refine tg_mem (ci := 10) (C := RX10) (T := TX10) (N := 49) hx hb hts inX10 hown hK hw 14 m_u_8 rfl (by decide) (hts _ tw_1151) (fun _ h9 => h9) dX10_holds_228 ?_
                  refine lv_bipush (v := 86) hx hb dX10_holds_231 (by decide) ?_
                  refine lv_iload_n hx hb dX10_holds_233 rfl (lv_at hl 5 rfl) ?_
                  refine lv_iadd hx hb dX10_holds_234 (lv_topi (fun v_23 e_v_23 => ?_))
                  obtain ⟨t_v_23, r_v_23⟩ := tq_add (lo := 86) (hi := 91) rl_86 r_p2 (by decide +kernel) e_v_23
                  have t_v_23 : v_23.toInt = 86 + p2.toInt := t_v_23
                  refine tg_iald (lo := (-2147483648)) (hi := 2147483647) hx hb hK hw h_vu_8 rfl 86 91 r_v_23 (by decide) (by decide +kernel) dX10_holds_235 (fun v_24 r_v_24 m_v_24 o_v_24 => ?_)
                  refine lv_iload hx hb dX10_holds_236 (lv_at hl 1 rfl) ?_
                  refine lv_icmp_ne (tgt := 245) hx hb dX10_holds_238 (by decide) (fun c_238 => ?_) (fun c_238 => ?_)
                  · refine lv_iconst (v := 0) hx hb dX10_holds_245 (by decide) ?_
                    subst hQ
                    exact W.zret (v := 0) hx hb hr (rfl) (fun t ht hW => ⟨⟨0, (), rfl, ⟨rl_0.to (by decide), (fun h0 => trivial), (fun _ => trivial)⟩, by rw [ht]; exact hw.2.1, va_K.moved hW.alike hK, hw.2.2.1⟩, hw.2.2.2.1.F ht⟩) hw.2.2.2.1.2.2 dX10_holds_246
                  · refine lv_iconst (v := 1) hx hb dX10_holds_241 (by decide) ?_
                    refine lv_goto (tgt := 246) hx hb dX10_holds_242 (by decide) ?_
                    subst hQ
                    exact W.zret (v := 1) hx hb hr (rfl) (fun t ht hW => ⟨⟨1, (), rfl, ⟨rl_1.to (by decide), (fun _ => trivial), (fun h0 => trivial)⟩, by rw [ht]; exact hw.2.1, va_K.moved hW.alike hK, hw.2.2.1⟩, hw.2.2.2.1.F ht⟩) hw.2.2.2.1.2.2 dX10_holds_246
                · refine lv_lookup (tgt := 247) (off := 213) hx hb dX10_holds_34 (by decide) ((lv_osw k_34_1 (by decide)).trans ((lv_osw k_34_2 (by decide)).trans ((lv_osw k_34_3 (by decide)).trans ((lv_osw k_34_69 (by decide)).trans ((lv_osw k_34_70 (by decide)).trans ((lv_osw k_34_71 (by decide)).trans ((lv_osw k_34_72 (by decide)).trans ((lv_osw k_34_73 (by decide)).trans (rfl))))))))) (by decide) ?_
                  refine lv_aload_n hx hb dX10_holds_247 rfl (lv_at hl 3 rfl) ?_
                  refine tg_mem (ci := 10) (C := RX10) (T := TX10) (N := 49) hx hb hts inX10 hown hK hw 14 m_u_8 rfl (by decide) (hts _ tw_1151) (fun _ h9 => h9) dX10_holds_248 ?_
                  refine lv_iload_n hx hb dX10_holds_251 rfl (lv_at hl 2 rfl) ?_
                  refine tg_imem hx hb hK hw h_vu_8 rfl r_v_7 (by decide) m_v_13 dX10_holds_252 ?_
                  refine lv_bipush (v := 50) hx hb dX10_holds_253 (by decide) ?_
                  refine lv_isub hx hb dX10_holds_255 (lv_topi (fun v_26 e_v_26 => ?_))
                  have r_v_26 := ri_any v_26
                  refine lv_istore (lv' := [(6, .int v_26), (5, .int v_12), (4, .int v_10), (3, .int v_7), (0, .ref p0), (1, .int p1), (2, .int p2)]) hx hb dX10_holds_256 hl (by decide) rfl (fun ls hl => ?_)
                  refine lv_iload hx hb dX10_holds_258 (lv_at hl 0 rfl) ?_
                  refine lv_bipush (v := 24) hx hb dX10_holds_260 (by decide) ?_
                  refine lv_icmp_ne (tgt := 273) hx hb dX10_holds_262 (by decide) (fun c_262 => ?_) (fun c_262 => ?_)
                  · refine lv_iload hx hb dX10_holds_273 (lv_at hl 0 rfl) ?_
                    refine lv_bipush (v := 25) hx hb dX10_holds_275 (by decide) ?_
                    refine lv_icmp_ne (tgt := 292) hx hb dX10_holds_277 (by decide) (fun c_277 => ?_) (fun c_277 => ?_)
                    · refine lv_iload hx hb dX10_holds_292 (lv_at hl 0 rfl) ?_
                      refine lv_bipush (v := 26) hx hb dX10_holds_294 (by decide) ?_
                      refine lv_icmp_ne (tgt := 311) hx hb dX10_holds_296 (by decide) (fun c_296 => ?_) (fun c_296 => ?_)
                      · refine lv_iload_n hx hb dX10_holds_311 rfl (lv_at hl 6 rfl) ?_
                        exact B312 v_7 v_10 v_12 v_26 p2 _ _ ls r_p1 r_p2 r_v_7 r_v_10 r_v_12 r_v_26 (r_p2.to (by decide)) hw (lv_sub hl [4, 5, 6, 3, 2, 1, 0] rfl)
                      · have r_v_26 : RI v_26 26 26 := rc_eq1 r_v_26 rl_26 (ti_eq c_296) (by decide)
                        refine lv_aload_n hx hb dX10_holds_299 rfl (lv_at hl 4 rfl) ?_
                        refine tg_mem (ci := 10) (C := RX10) (T := TX10) (N := 49) hx hb hts inX10 hown hK hw 14 m_u_8 rfl (by decide) (hts _ tw_1151) (fun _ h9 => h9) dX10_holds_300 ?_
                        refine lv_bipush (v := 98) hx hb dX10_holds_303 (by decide) ?_
                        refine lv_iload_n hx hb dX10_holds_305 rfl (lv_at hl 6 rfl) ?_
                        refine lv_iadd hx hb dX10_holds_306 (lv_topi (fun v_27 e_v_27 => ?_))
                        obtain ⟨t_v_27, r_v_27⟩ := tq_add (lo := 98) (hi := 103) rl_98 r_p2 (by decide +kernel) e_v_27
                        have t_v_27 : v_27.toInt = 98 + p2.toInt := t_v_27
                        refine tg_iald (lo := (-2147483648)) (hi := 2147483647) hx hb hK hw h_vu_8 rfl 98 103 r_v_27 (by decide) (by decide +kernel) dX10_holds_307 (fun v_28 r_v_28 m_v_28 o_v_28 => ?_)
                        refine lv_goto (tgt := 312) hx hb dX10_holds_308 (by decide) ?_
                        exact B312 v_7 v_10 v_12 v_26 v_28 _ _ ls r_p1 r_p2 r_v_7 r_v_10 r_v_12 (r_v_26.to (by decide)) r_v_28 hw (lv_sub hl [4, 5, 6, 3, 2, 1, 0] rfl)
                    · have r_v_26 : RI v_26 25 25 := rc_eq1 r_v_26 rl_25 (ti_eq c_277) (by decide)
                      refine lv_aload_n hx hb dX10_holds_280 rfl (lv_at hl 4 rfl) ?_
                      refine tg_mem (ci := 10) (C := RX10) (T := TX10) (N := 49) hx hb hts inX10 hown hK hw 14 m_u_8 rfl (by decide) (hts _ tw_1151) (fun _ h9 => h9) dX10_holds_281 ?_
                      refine lv_bipush (v := 92) hx hb dX10_holds_284 (by decide) ?_
                      refine lv_iload_n hx hb dX10_holds_286 rfl (lv_at hl 6 rfl) ?_
                      refine lv_iadd hx hb dX10_holds_287 (lv_topi (fun v_29 e_v_29 => ?_))
                      obtain ⟨t_v_29, r_v_29⟩ := tq_add (lo := 92) (hi := 97) rl_92 r_p2 (by decide +kernel) e_v_29
                      have t_v_29 : v_29.toInt = 92 + p2.toInt := t_v_29
                      refine tg_iald (lo := (-2147483648)) (hi := 2147483647) hx hb hK hw h_vu_8 rfl 92 97 r_v_29 (by decide) (by decide +kernel) dX10_holds_288 (fun v_30 r_v_30 m_v_30 o_v_30 => ?_)
                      refine lv_goto (tgt := 312) hx hb dX10_holds_289 (by decide) ?_
                      exact B312 v_7 v_10 v_12 v_26 v_30 _ _ ls r_p1 r_p2 r_v_7 r_v_10 r_v_12 (r_v_26.to (by decide)) r_v_30 hw (lv_sub hl [4, 5, 6, 3, 2, 1, 0] rfl)
                  · have r_v_26 : RI v_26 24 24 := rc_eq1 r_v_26 rl_24 (ti_eq c_262) (by decide)
                    refine lv_aload_n hx hb dX10_holds_265 rfl (lv_at hl 4 rfl) ?_
                    refine lv_iload_n hx hb dX10_holds_266 rfl (lv_at hl 6 rfl) ?_
                    refine tk_ir (va_runV (As := [.int p2]) (rest := []) ⟨hx, hb, hml, hown, hts⟩ (c_X10_sizeOf l D cy z s.heap.size Ps w0 hw.1 p0 p2 h_p0 r_p2) (cwV 1 hts (gV tw_1453 tw_1455 ts_70 tw_15 tw_1456) rfl rfl rfl (by decide +kernel) ⟨Nat.le_of_ble_eq_true rfl, Nat.le_of_ble_eq_true rfl⟩) (tg_preV hw hK hSD hA (ci := 10) (q := (RX10, TX10, 49)) rfl h_p0 rfl) rfl rfl hl.1 rfl (lv_room (Nat.le_of_ble_eq_true rfl)) dX10_holds_267 ⟨Nat.le_of_ble_eq_true rfl, Nat.le_of_ble_eq_true rfl⟩) hw hA (fun v_31  H locs hp_v_31 hw => ?_)
                    have r_v_31 : RI v_31 (-2147483648) 2147483647 := hp_v_31.1
                    refine lv_goto (tgt := 312) hx hb dX10_holds_270 (by decide) ?_
                    exact B312 v_7 v_10 v_12 v_26 v_31 _ _ ls r_p1 r_p2 r_v_7 r_v_10 r_v_12 (r_v_26.to (by decide)) r_v_31 hw (lv_sub hl [4, 5, 6, 3, 2, 1, 0] rfl)
abbrev wr_X10_holds__21 : List (Nat × Nat) := []
abbrev wa_X10_holds__21 : List Nat := []
set_option maxHeartbeats 4000000 in
set_option maxRecDepth 100000 in
theorem c_X10_holds__21 (l : Launch) (D : va_G) (cy : Nat → ClassId) (z : Nat → Nat) (sz : Nat) (Ps : PSI) (w0 : va_W) (hT : HT cy GG Ps w0) (p0 : Nat) (p1 : Int32) (p2 : Int32) (h_p0 : (p0, 55) ∈ Ps) (r_p1 : RI p1 0 38) (r_p2 : RI p2 0 5) : Met l yX10_holds (Cond.code yX10_holds cX10_holds 8 (some .boolean) :: gT) ({ frames := 41, cells := 0, slots := 0, locals := 8200 } : Room) (va_Pc [.ref p0, .int p1, .int p2] (PRE D cy z w0 sz)) (va_Qi (fun (r : Int32) (u : Unit) => RI r 0 1 ∧ (r = 0 → True) ∧ (¬ r = 0 → True)) (BB D cy (va_A w0 sz) (fun (u : Unit) => w0)) (va_A w0 sz)) 0 0 (va_A w0 sz) := by
  refine Met.ofW (cc := cX10_holds) (maxL := 8) (ret := (some .boolean)) (by decide) rfl ?_
  intro p e s m args below meth c s₁ B hml hv
  obtain ⟨rfl, hsz, hP, hK, hD0, hSD⟩ := hv
  have hx := B.exec
  have hb := B.bytes
  have hr := B.returns
  have hlocks := B.notSynchronized
  have hts : ∀ w ∈ gT, w.before _ s = true := fun w h => atoms_spec (ws := Cond.code yX10_holds cX10_holds 8 (some .boolean) :: gT) B.pre w (List.mem_cons_of_mem _ h)
  have hown : s.vm.findClass RX10 = some m.cls := findClass_of_methodNamed B.named
  subst hsz
  have hD := hD0.self (sz := s.heap.size)
  generalize hAe : va_A w0 s.heap.size = A at hD hSD ⊢
  have hA : ∀ q : Nat, s.heap.size ≤ q → A q := fun q h => by rw [← hAe]; exact Or.inr h
  have hl := lv_entry ([.ref p0, .int p1, .int p2]) (n := 8) (Nat.le_of_ble_eq_true rfl)
  rw [lg_entry_eq]
  generalize (lg_sl ([.ref p0, .int p1, .int p2]) ++ List.replicate (8 - (lg_sl ([.ref p0, .int p1, .int p2])).length) Slot.unset).toArray = ls at hl ⊢
  have hl : lv_has ls 8 [(0, .ref p0), (1, .int p1), (2, .int p2)] := hl
  refine nameQ (fun Q hQ => ?_)
  have hw : WD D cy GG A s wr_X10_holds__21 wa_X10_holds__21 Ps w0 Ps w0 s.heap [] := ⟨hT, hP, hD, va_S.rf, FR.rf, hT.1, [], (List.append_nil _).symm⟩
  have B312 : ∀ (x3 : Int32) (x4 : Int32) (x5 : Int32) (x6 : Int32) (y0 : Int32) (H : Heap) (locs : List Loc) (ls : Array Slot), RI p1 0 38 → RI p2 0 5 → RI x3 174 326 → RI x4 (-2147483648) 2147483647 → RI x5 (-2147483648) 2147483647 → RI x6 (-2147483648) 2147483647 → RI y0 (-2147483648) 2147483647 → WD D cy GG A s wr_X10_holds__21 wa_X10_holds__21 Ps w0 Ps w0 H locs → lv_has ls 8 [(0, .ref p0), (1, .int p1), (2, .int p2), (3, .int x3), (4, .int x4), (5, .int x5), (6, .int x6)] → W p l e (headSpec (Cond.code yX10_holds cX10_holds 8 (some .boolean) :: gT) ({ frames := 41, cells := 0, slots := 0, locals := 8200 } : Room)).room s m ([.ref p0, .int p1, .int p2] : List Value).toArray below meth c H locs 0 0 Q (F0 m 312 ls [.int y0]) := by
    intro x3 x4 x5 x6 y0 H locs ls r_p1 r_p2 r_x3 r_x4 r_x5 r_x6 r_y0 hw hl
    refine lv_istore (lv' := [(7, .int y0), (0, .ref p0), (1, .int p1), (2, .int p2), (3, .int x3), (4, .int x4), (5, .int x5), (6, .int x6)]) hx hb dX10_holds_312 hl (by decide) rfl (fun ls hl => ?_)
    refine lv_aload_n hx hb dX10_holds_314 rfl (lv_at hl 1 rfl) ?_
    refine tg_get (ci := 10) (ts := ty_MODEL) (C := RX10) (T := TX10) (N := 49) hx hb hts inX10 hown hK hw h_p0 rfl rfl 14 (by decide) (hts _ tw_1151) (fun _ h9 => h9) (ft := vR 34) rfl dX10_holds_315 (fun u_1 hv_u_1 m_u_1 => ?_)
    obtain ⟨vu_1, rfl, h_vu_1⟩ := hv_u_1
    refine lv_iload_n hx hb dX10_holds_318 rfl (lv_at hl 4 rfl) ?_
    refine lv_iconst (v := 3) hx hb dX10_holds_319 (by decide) ?_
    refine lv_iadd hx hb dX10_holds_320 (lv_topi (fun v_2 e_v_2 => ?_))
    obtain ⟨t_v_2, r_v_2⟩ := tq_add (lo := 177) (hi := 329) r_x3 rl_3 (by decide +kernel) e_v_2
    have t_v_2 : v_2.toInt = x3.toInt + 3 := t_v_2
    refine tg_iald (lo := (-2147483648)) (hi := 2147483647) hx hb hK hw h_vu_1 rfl 177 329 r_v_2 (by decide) (by decide +kernel) dX10_holds_321 (fun v_3 r_v_3 m_v_3 o_v_3 => ?_)
    refine lv_bipush (v := 60) hx hb dX10_holds_322 (by decide) ?_
    refine lv_icmp_ne (tgt := 342) hx hb dX10_holds_324 (by decide) (fun c_324 => ?_) (fun c_324 => ?_)
    · refine lv_aload_n hx hb dX10_holds_342 rfl (lv_at hl 1 rfl) ?_
      refine tg_mem (ci := 10) (C := RX10) (T := TX10) (N := 49) hx hb hts inX10 hown hK hw 14 m_u_1 rfl (by decide) (hts _ tw_1151) (fun _ h9 => h9) dX10_holds_343 ?_
      refine lv_iload_n hx hb dX10_holds_346 rfl (lv_at hl 4 rfl) ?_
      refine lv_iconst (v := 3) hx hb dX10_holds_347 (by decide) ?_
      refine lv_iadd hx hb dX10_holds_348 (lv_topi (fun v_4 e_v_4 => ?_))
      obtain ⟨t_v_4, r_v_4⟩ := tq_add (lo := 177) (hi := 329) r_x3 rl_3 (by decide +kernel) e_v_4
      have t_v_4 : v_4.toInt = x3.toInt + 3 := t_v_4
      refine tg_iald (lo := (-2147483648)) (hi := 2147483647) hx hb hK hw h_vu_1 rfl 177 329 r_v_4 (by decide) (by decide +kernel) dX10_holds_349 (fun v_5 r_v_5 m_v_5 o_v_5 => ?_)
      refine lv_bipush (v := 61) hx hb dX10_holds_350 (by decide) ?_
      refine lv_icmp_ne (tgt := 370) hx hb dX10_holds_352 (by decide) (fun c_352 => ?_) (fun c_352 => ?_)
      · refine lv_iload hx hb dX10_holds_370 (lv_at hl 0 rfl) ?_
        refine lv_iload hx hb dX10_holds_372 (lv_at hl 6 rfl) ?_
        refine lv_icmp_le (tgt := 381) hx hb dX10_holds_374 (by decide) (fun c_374 => ?_) (fun c_374 => ?_)
        · refine lv_iconst (v := 0) hx hb dX10_holds_381 (by decide) ?_
          subst hQ
          exact W.zret (v := 0) hx hb hr (rfl) (fun t ht hW => ⟨⟨0, (), rfl, ⟨rl_0.to (by decide), (fun h0 => trivial), (fun _ => trivial)⟩, by rw [ht]; exact hw.2.1, va_K.moved hW.alike hK, hw.2.2.1⟩, hw.2.2.2.1.F ht⟩) hw.2.2.2.1.2.2 dX10_holds_382
        · have r_x5 : RI x5 (-2147483648) 2147483646 := rc_lt1 r_x5 r_y0 (ti_nle c_374) (by decide)
          have r_y0 : RI y0 (-2147483647) 2147483647 := rc_lt2 r_x5 r_y0 (ti_nle c_374) (by decide)
          refine lv_iconst (v := 1) hx hb dX10_holds_377 (by decide) ?_
          refine lv_goto (tgt := 382) hx hb dX10_holds_378 (by decide) ?_
          subst hQ
          exact W.zret (v := 1) hx hb hr (rfl) (fun t ht hW => ⟨⟨1, (), rfl, ⟨rl_1.to (by decide), (fun _ => trivial), (fun h0 => trivial)⟩, by rw [ht]; exact hw.2.1, va_K.moved hW.alike hK, hw.2.2.1⟩, hw.2.2.2.1.F ht⟩) hw.2.2.2.1.2.2 dX10_holds_382
      · have r_v_5 : RI v_5 61 61 := rc_eq1 r_v_5 rl_61 (ti_eq c_352) (by decide)
        refine lv_iload hx hb dX10_holds_355 (lv_at hl 0 rfl) ?_
        refine lv_iload hx hb dX10_holds_357 (lv_at hl 6 rfl) ?_
        refine lv_icmp_ne (tgt := 366) hx hb dX10_holds_359 (by decide) (fun c_359 => ?_) (fun c_359 => ?_)
        · refine lv_iconst (v := 0) hx hb dX10_holds_366 (by decide) ?_
          refine lv_goto (tgt := 382) hx hb dX10_holds_367 (by decide) ?_
          subst hQ
          exact W.zret (v := 0) hx hb hr (rfl) (fun t ht hW => ⟨⟨0, (), rfl, ⟨rl_0.to (by decide), (fun h0 => trivial), (fun _ => trivial)⟩, by rw [ht]; exact hw.2.1, va_K.moved hW.alike hK, hw.2.2.1⟩, hw.2.2.2.1.F ht⟩) hw.2.2.2.1.2.2 dX10_holds_382
        · refine lv_iconst (v := 1) hx hb dX10_holds_362 (by decide) ?_
          refine lv_goto (tgt := 382) hx hb dX10_holds_363 (by decide) ?_
          subst hQ
          exact W.zret (v := 1) hx hb hr (rfl) (fun t ht hW => ⟨⟨1, (), rfl, ⟨rl_1.to (by decide), (fun _ => trivial), (fun h0 => trivial)⟩, by rw [ht]; exact hw.2.1, va_K.moved hW.alike hK, hw.2.2.1⟩, hw.2.2.2.1.F ht⟩) hw.2.2.2.1.2.2 dX10_holds_382
    · have r_v_3 : RI v_3 60 60 := rc_eq1 r_v_3 rl_60 (ti_eq c_324) (by decide)
      refine lv_iload hx hb dX10_holds_327 (lv_at hl 0 rfl) ?_
      refine lv_iload hx hb dX10_holds_329 (lv_at hl 6 rfl) ?_
      refine lv_icmp_ge (tgt := 338) hx hb dX10_holds_331 (by decide) (fun c_331 => ?_) (fun c_331 => ?_)
      · refine lv_iconst (v := 0) hx hb dX10_holds_338 (by decide) ?_
        refine lv_goto (tgt := 382) hx hb dX10_holds_339 (by decide) ?_
        subst hQ
        exact W.zret (v := 0) hx hb hr (rfl) (fun t ht hW => ⟨⟨0, (), rfl, ⟨rl_0.to (by decide), (fun h0 => trivial), (fun _ => trivial)⟩, by rw [ht]; exact hw.2.1, va_K.moved hW.alike hK, hw.2.2.1⟩, hw.2.2.2.1.F ht⟩) hw.2.2.2.1.2.2 dX10_holds_382
      · have r_y0 : RI y0 (-2147483648) 2147483646 := rc_lt1 r_y0 r_x5 (ti_nle c_331) (by decide)
        have r_x5 : RI x5 (-2147483647) 2147483647 := rc_lt2 r_y0 r_x5 (ti_nle c_331) (by decide)
        refine lv_iconst (v := 1) hx hb dX10_holds_334 (by decide) ?_
        refine lv_goto (tgt := 382) hx hb dX10_holds_335 (by decide) ?_
        subst hQ
        exact W.zret (v := 1) hx hb hr (rfl) (fun t ht hW => ⟨⟨1, (), rfl, ⟨rl_1.to (by decide), (fun _ => trivial), (fun h0 => trivial)⟩, by rw [ht]; exact hw.2.1, va_K.moved hW.alike hK, hw.2.2.1⟩, hw.2.2.2.1.F ht⟩) hw.2.2.2.1.2.2 dX10_holds_382
  refine lv_sipush (v := 174) hx hb dX10_holds_0 (by decide) ?_
  refine lv_iconst (v := 4) hx hb dX10_holds_3 (by decide) ?_
  refine lv_iload_n hx hb dX10_holds_4 rfl (lv_at hl 1 rfl) ?_
  refine lv_imul hx hb dX10_holds_5 (lv_topi (fun v_6 e_v_6 => ?_))
  obtain ⟨t_v_6, r_v_6⟩ := tq_mul (lo := 0) (hi := 152) rl_4 r_p1 (by decide +kernel) e_v_6
  have t_v_6 : v_6.toInt = 4 * p1.toInt := t_v_6
  refine lv_iadd hx hb dX10_holds_6 (lv_topi (fun v_7 e_v_7 => ?_))
  obtain ⟨t_v_7, r_v_7⟩ := tq_add (lo := 174) (hi := 326) rl_174 r_v_6 (by decide +kernel) e_v_7
  have t_v_7 : v_7.toInt = 174 + v_6.toInt := t_v_7
  refine lv_istore_n (lv' := [(3, .int v_7), (0, .ref p0), (1, .int p1), (2, .int p2)]) hx hb dX10_holds_7 rfl hl (by decide) rfl (fun ls hl => ?_)
  refine lv_aload_n hx hb dX10_holds_8 rfl (lv_at hl 1 rfl) ?_
  refine tg_get (ci := 10) (ts := ty_MODEL) (C := RX10) (T := TX10) (N := 49) hx hb hts inX10 hown hK hw h_p0 rfl rfl 14 (by decide) (hts _ tw_1151) (fun _ h9 => h9) (ft := vR 34) rfl dX10_holds_9 (fun u_8 hv_u_8 m_u_8 => ?_)
  obtain ⟨vu_8, rfl, h_vu_8⟩ := hv_u_8
  refine lv_iload_n hx hb dX10_holds_12 rfl (lv_at hl 0 rfl) ?_
  refine lv_iconst (v := 1) hx hb dX10_holds_13 (by decide) ?_
  refine lv_iadd hx hb dX10_holds_14 (lv_topi (fun v_9 e_v_9 => ?_))
  obtain ⟨t_v_9, r_v_9⟩ := tq_add (lo := 175) (hi := 327) r_v_7 rl_1 (by decide +kernel) e_v_9
  have t_v_9 : v_9.toInt = v_7.toInt + 1 := t_v_9
  refine tg_iald (lo := (-2147483648)) (hi := 2147483647) hx hb hK hw h_vu_8 rfl 175 327 r_v_9 (by decide) (by decide +kernel) dX10_holds_15 (fun v_10 r_v_10 m_v_10 o_v_10 => ?_)
  refine lv_istore (lv' := [(4, .int v_10), (3, .int v_7), (0, .ref p0), (1, .int p1), (2, .int p2)]) hx hb dX10_holds_16 hl (by decide) rfl (fun ls hl => ?_)
  refine lv_aload_n hx hb dX10_holds_18 rfl (lv_at hl 2 rfl) ?_
  refine tg_mem (ci := 10) (C := RX10) (T := TX10) (N := 49) hx hb hts inX10 hown hK hw 14 m_u_8 rfl (by decide) (hts _ tw_1151) (fun _ h9 => h9) dX10_holds_19 ?_
  refine lv_iload_n hx hb dX10_holds_22 rfl (lv_at hl 1 rfl) ?_
  refine lv_iconst (v := 2) hx hb dX10_holds_23 (by decide) ?_
  refine lv_iadd hx hb dX10_holds_24 (lv_topi (fun v_11 e_v_11 => ?_))
  obtain ⟨t_v_11, r_v_11⟩ := tq_add (lo := 176) (hi := 328) r_v_7 rl_2 (by decide +kernel) e_v_11
  have t_v_11 : v_11.toInt = v_7.toInt + 2 := t_v_11
  refine tg_iald (lo := (-2147483648)) (hi := 2147483647) hx hb hK hw h_vu_8 rfl 176 328 r_v_11 (by decide) (by decide +kernel) dX10_holds_25 (fun v_12 r_v_12 m_v_12 o_v_12 => ?_)
  refine lv_istore (lv' := [(5, .int v_12), (4, .int v_10), (3, .int v_7), (0, .ref p0), (1, .int p1), (2, .int p2)]) hx hb dX10_holds_26 hl (by decide) rfl (fun ls hl => ?_)
  refine lv_aload_n hx hb dX10_holds_28 rfl (lv_at hl 3 rfl) ?_
  refine tg_mem (ci := 10) (C := RX10) (T := TX10) (N := 49) hx hb hts inX10 hown hK hw 14 m_u_8 rfl (by decide) (hts _ tw_1151) (fun _ h9 => h9) dX10_holds_29 ?_
  refine lv_iload_n hx hb dX10_holds_32 rfl (lv_at hl 2 rfl) ?_
  refine tg_iald (lo := (-2147483648)) (hi := 2147483647) hx hb hK hw h_vu_8 rfl 174 326 r_v_7 (by decide) (by decide +kernel) dX10_holds_33 (fun v_13 r_v_13 m_v_13 o_v_13 => ?_)
  by_cases k_34_1 : v_13 = 1
  · refine lv_lookup (tgt := 108) (off := 74) hx hb dX10_holds_34 (by decide) (by rw [k_34_1]; decide) (by decide) ?_
    have r_v_13 : RI v_13 1 1 := by rw [k_34_1]; exact rl_1
    have g_v_10 : 0 ≤ v_10.toInt ∧ v_10.toInt < p1.toInt := by obtain ⟨_, f9, e8, e7, q9, _⟩ := ax_of (k := 14) (t := 34) hw h_p0 rfl (fun _ => rfl); cases FLD.inj hw.2.2.1 e8 m_u_8; have t9 := ARR.ael hw.2.2.1 e7 m_v_13; have x9 := ARR.ael hw.2.2.1 e7 m_v_10; rw [show Int32.toNatClampNeg v_7 = 174 + 4 * Int32.toNatClampNeg p1 from (by have k1 := r_v_7.cl (by decide); have k2 := r_p1.cl (by decide); omega)] at t9; rw [show Int32.toNatClampNeg v_9 = 175 + 4 * Int32.toNatClampNeg p1 from (by have k1 := r_v_9.cl (by decide); have k2 := r_p1.cl (by decide); omega)] at x9; exact RN_child q9 (r_p1.to (by decide)) t9 x9 (r_v_13.to (by decide))
    have r_v_10 : RI v_10 0 37 := ⟨g_v_10.1, by have k1 := r_p1.2; omega⟩
    refine lv_aload_n hx hb dX10_holds_108 rfl (lv_at hl 3 rfl) ?_
    refine lv_iload hx hb dX10_holds_109 (lv_at hl 1 rfl) ?_
    refine lv_iload_n hx hb dX10_holds_111 rfl (lv_at hl 5 rfl) ?_
    refine tk_ir (va_runV (As := [.int v_10, .int p2]) (rest := []) ⟨hx, hb, hml, hown, hts⟩ (c_X10_holds__22 l D cy z s.heap.size Ps w0 hw.1 p0 v_10 p2 h_p0 r_v_10 r_p2) (cwV 2 hts (gV tw_1787 tw_1789 ts_119 tw_15 tw_1790) rfl rfl rfl (by decide +kernel) ⟨Nat.le_of_ble_eq_true rfl, Nat.le_of_ble_eq_true rfl⟩) (tg_preV hw hK hSD hA (ci := 10) (q := (RX10, TX10, 49)) rfl h_p0 rfl) rfl rfl hl.1 rfl (lv_room (Nat.le_of_ble_eq_true rfl)) dX10_holds_112 ⟨Nat.le_of_ble_eq_true rfl, Nat.le_of_ble_eq_true rfl⟩) hw hA (fun v_14  H locs hp_v_14 hw => ?_)
    have r_v_14 : RI v_14 0 1 := hp_v_14.1
    refine lv_if_ne (tgt := 122) hx hb dX10_holds_115 (by decide) (fun c_115 => ?_) (fun c_115 => ?_)
    · have r_v_14 : RI v_14 1 1 := rc_neL r_v_14 rl_0 (ti_ne c_115) (by decide)
      refine lv_iconst (v := 0) hx hb dX10_holds_122 (by decide) ?_
      subst hQ
      exact W.zret (v := 0) hx hb hr (rfl) (fun t ht hW => ⟨⟨0, (), rfl, ⟨rl_0.to (by decide), (fun h0 => trivial), (fun _ => trivial)⟩, by rw [ht]; exact hw.2.1, va_K.moved hW.alike hK, hw.2.2.1⟩, hw.2.2.2.1.F ht⟩) hw.2.2.2.1.2.2 dX10_holds_123
    · have r_v_14 : RI v_14 0 0 := rc_eq1 r_v_14 rl_0 (ti_eq c_115) (by decide)
      refine lv_iconst (v := 1) hx hb dX10_holds_118 (by decide) ?_
      refine lv_goto (tgt := 123) hx hb dX10_holds_119 (by decide) ?_
      subst hQ
      exact W.zret (v := 1) hx hb hr (rfl) (fun t ht hW => ⟨⟨1, (), rfl, ⟨rl_1.to (by decide), (fun _ => trivial), (fun h0 => trivial)⟩, by rw [ht]; exact hw.2.1, va_K.moved hW.alike hK, hw.2.2.1⟩, hw.2.2.2.1.F ht⟩) hw.2.2.2.1.2.2 dX10_holds_123
  · by_cases k_34_2 : v_13 = 2
    · refine lv_lookup (tgt := 124) (off := 90) hx hb dX10_holds_34 (by decide) (by rw [k_34_2]; decide) (by decide) ?_
      have r_v_13 : RI v_13 2 2 := by rw [k_34_2]; exact rl_2
      have g_v_10 : 0 ≤ v_10.toInt ∧ v_10.toInt < p1.toInt := by obtain ⟨_, f9, e8, e7, q9, _⟩ := ax_of (k := 14) (t := 34) hw h_p0 rfl (fun _ => rfl); cases FLD.inj hw.2.2.1 e8 m_u_8; have t9 := ARR.ael hw.2.2.1 e7 m_v_13; have x9 := ARR.ael hw.2.2.1 e7 m_v_10; rw [show Int32.toNatClampNeg v_7 = 174 + 4 * Int32.toNatClampNeg p1 from (by have k1 := r_v_7.cl (by decide); have k2 := r_p1.cl (by decide); omega)] at t9; rw [show Int32.toNatClampNeg v_9 = 175 + 4 * Int32.toNatClampNeg p1 from (by have k1 := r_v_9.cl (by decide); have k2 := r_p1.cl (by decide); omega)] at x9; exact RN_child q9 (r_p1.to (by decide)) t9 x9 (r_v_13.to (by decide))
      have r_v_10 : RI v_10 0 37 := ⟨g_v_10.1, by have k1 := r_p1.2; omega⟩
      have g_v_12 : 0 ≤ v_12.toInt ∧ v_12.toInt < p1.toInt := by obtain ⟨_, f9, e8, e7, q9, _⟩ := ax_of (k := 14) (t := 34) hw h_p0 rfl (fun _ => rfl); cases FLD.inj hw.2.2.1 e8 m_u_8; have t9 := ARR.ael hw.2.2.1 e7 m_v_13; have x9 := ARR.ael hw.2.2.1 e7 m_v_12; rw [show Int32.toNatClampNeg v_7 = 174 + 4 * Int32.toNatClampNeg p1 from (by have k1 := r_v_7.cl (by decide); have k2 := r_p1.cl (by decide); omega)] at t9; rw [show Int32.toNatClampNeg v_11 = 176 + 4 * Int32.toNatClampNeg p1 from (by have k1 := r_v_11.cl (by decide); have k2 := r_p1.cl (by decide); omega)] at x9; exact RN_child2 q9 (r_p1.to (by decide)) t9 x9 (r_v_13.to (by decide))
      have r_v_12 : RI v_12 0 37 := ⟨g_v_12.1, by have k1 := r_p1.2; omega⟩
      refine lv_aload_n hx hb dX10_holds_124 rfl (lv_at hl 3 rfl) ?_
      refine lv_iload hx hb dX10_holds_125 (lv_at hl 1 rfl) ?_
      refine lv_iload_n hx hb dX10_holds_127 rfl (lv_at hl 5 rfl) ?_
      refine tk_ir (va_runV (As := [.int v_10, .int p2]) (rest := []) ⟨hx, hb, hml, hown, hts⟩ (c_X10_holds__22 l D cy z s.heap.size Ps w0 hw.1 p0 v_10 p2 h_p0 r_v_10 r_p2) (cwV 2 hts (gV tw_1787 tw_1789 ts_119 tw_15 tw_1790) rfl rfl rfl (by decide +kernel) ⟨Nat.le_of_ble_eq_true rfl, Nat.le_of_ble_eq_true rfl⟩) (tg_preV hw hK hSD hA (ci := 10) (q := (RX10, TX10, 49)) rfl h_p0 rfl) rfl rfl hl.1 rfl (lv_room (Nat.le_of_ble_eq_true rfl)) dX10_holds_128 ⟨Nat.le_of_ble_eq_true rfl, Nat.le_of_ble_eq_true rfl⟩) hw hA (fun v_15  H locs hp_v_15 hw => ?_)
      have r_v_15 : RI v_15 0 1 := hp_v_15.1
      refine lv_if_eq (tgt := 148) hx hb dX10_holds_131 (by decide) (fun c_131 => ?_) (fun c_131 => ?_)
      · have r_v_15 : RI v_15 0 0 := rc_eq1 r_v_15 rl_0 (ti_eq c_131) (by decide)
        refine lv_iconst (v := 0) hx hb dX10_holds_148 (by decide) ?_
        subst hQ
        exact W.zret (v := 0) hx hb hr (rfl) (fun t ht hW => ⟨⟨0, (), rfl, ⟨rl_0.to (by decide), (fun h0 => trivial), (fun _ => trivial)⟩, by rw [ht]; exact hw.2.1, va_K.moved hW.alike hK, hw.2.2.1⟩, hw.2.2.2.1.F ht⟩) hw.2.2.2.1.2.2 dX10_holds_149
      · have r_v_15 : RI v_15 1 1 := rc_neL r_v_15 rl_0 (ti_ne c_131) (by decide)
        refine lv_aload_n hx hb dX10_holds_134 rfl (lv_at hl 3 rfl) ?_
        refine lv_iload hx hb dX10_holds_135 (lv_at hl 0 rfl) ?_
        refine lv_iload_n hx hb dX10_holds_137 rfl (lv_at hl 5 rfl) ?_
        refine tk_ir (va_runV (As := [.int v_12, .int p2]) (rest := []) ⟨hx, hb, hml, hown, hts⟩ (c_X10_holds__22 l D cy z H.size Ps w0 hw.1 p0 v_12 p2 h_p0 r_v_12 r_p2) (cwV 2 hts (gV tw_1787 tw_1789 ts_119 tw_15 tw_1790) rfl rfl rfl (by decide +kernel) ⟨Nat.le_of_ble_eq_true rfl, Nat.le_of_ble_eq_true rfl⟩) (tg_preV hw hK hSD hA (ci := 10) (q := (RX10, TX10, 49)) rfl h_p0 rfl) rfl rfl hl.1 rfl (lv_room (Nat.le_of_ble_eq_true rfl)) dX10_holds_138 ⟨Nat.le_of_ble_eq_true rfl, Nat.le_of_ble_eq_true rfl⟩) hw hA (fun v_16  H locs hp_v_16 hw => ?_)
        have r_v_16 : RI v_16 0 1 := hp_v_16.1
        refine lv_if_eq (tgt := 148) hx hb dX10_holds_141 (by decide) (fun c_141 => ?_) (fun c_141 => ?_)
        · have r_v_16 : RI v_16 0 0 := rc_eq1 r_v_16 rl_0 (ti_eq c_141) (by decide)
          refine lv_iconst (v := 0) hx hb dX10_holds_148 (by decide) ?_
          subst hQ
          exact W.zret (v := 0) hx hb hr (rfl) (fun t ht hW => ⟨⟨0, (), rfl, ⟨rl_0.to (by decide), (fun h0 => trivial), (fun _ => trivial)⟩, by rw [ht]; exact hw.2.1, va_K.moved hW.alike hK, hw.2.2.1⟩, hw.2.2.2.1.F ht⟩) hw.2.2.2.1.2.2 dX10_holds_149
        · have r_v_16 : RI v_16 1 1 := rc_neL r_v_16 rl_0 (ti_ne c_141) (by decide)
          refine lv_iconst (v := 1) hx hb dX10_holds_144 (by decide) ?_
          refine lv_goto (tgt := 149) hx hb dX10_holds_145 (by decide) ?_
          subst hQ
          exact W.zret (v := 1) hx hb hr (rfl) (fun t ht hW => ⟨⟨1, (), rfl, ⟨rl_1.to (by decide), (fun _ => trivial), (fun h0 => trivial)⟩, by rw [ht]; exact hw.2.1, va_K.moved hW.alike hK, hw.2.2.1⟩, hw.2.2.2.1.F ht⟩) hw.2.2.2.1.2.2 dX10_holds_149
    · by_cases k_34_3 : v_13 = 3
      · refine lv_lookup (tgt := 150) (off := 116) hx hb dX10_holds_34 (by decide) (by rw [k_34_3]; decide) (by decide) ?_
        have r_v_13 : RI v_13 3 3 := by rw [k_34_3]; exact rl_3
        have g_v_10 : 0 ≤ v_10.toInt ∧ v_10.toInt < p1.toInt := by obtain ⟨_, f9, e8, e7, q9, _⟩ := ax_of (k := 14) (t := 34) hw h_p0 rfl (fun _ => rfl); cases FLD.inj hw.2.2.1 e8 m_u_8; have t9 := ARR.ael hw.2.2.1 e7 m_v_13; have x9 := ARR.ael hw.2.2.1 e7 m_v_10; rw [show Int32.toNatClampNeg v_7 = 174 + 4 * Int32.toNatClampNeg p1 from (by have k1 := r_v_7.cl (by decide); have k2 := r_p1.cl (by decide); omega)] at t9; rw [show Int32.toNatClampNeg v_9 = 175 + 4 * Int32.toNatClampNeg p1 from (by have k1 := r_v_9.cl (by decide); have k2 := r_p1.cl (by decide); omega)] at x9; exact RN_child q9 (r_p1.to (by decide)) t9 x9 (r_v_13.to (by decide))
        have r_v_10 : RI v_10 0 37 := ⟨g_v_10.1, by have k1 := r_p1.2; omega⟩
        have g_v_12 : 0 ≤ v_12.toInt ∧ v_12.toInt < p1.toInt := by obtain ⟨_, f9, e8, e7, q9, _⟩ := ax_of (k := 14) (t := 34) hw h_p0 rfl (fun _ => rfl); cases FLD.inj hw.2.2.1 e8 m_u_8; have t9 := ARR.ael hw.2.2.1 e7 m_v_13; have x9 := ARR.ael hw.2.2.1 e7 m_v_12; rw [show Int32.toNatClampNeg v_7 = 174 + 4 * Int32.toNatClampNeg p1 from (by have k1 := r_v_7.cl (by decide); have k2 := r_p1.cl (by decide); omega)] at t9; rw [show Int32.toNatClampNeg v_11 = 176 + 4 * Int32.toNatClampNeg p1 from (by have k1 := r_v_11.cl (by decide); have k2 := r_p1.cl (by decide); omega)] at x9; exact RN_child2 q9 (r_p1.to (by decide)) t9 x9 (r_v_13.to (by decide))
        have r_v_12 : RI v_12 0 37 := ⟨g_v_12.1, by have k1 := r_p1.2; omega⟩
        refine lv_aload_n hx hb dX10_holds_150 rfl (lv_at hl 3 rfl) ?_
        refine lv_iload hx hb dX10_holds_151 (lv_at hl 1 rfl) ?_
        refine lv_iload_n hx hb dX10_holds_153 rfl (lv_at hl 5 rfl) ?_
        refine tk_ir (va_runV (As := [.int v_10, .int p2]) (rest := []) ⟨hx, hb, hml, hown, hts⟩ (c_X10_holds__22 l D cy z s.heap.size Ps w0 hw.1 p0 v_10 p2 h_p0 r_v_10 r_p2) (cwV 2 hts (gV tw_1787 tw_1789 ts_119 tw_15 tw_1790) rfl rfl rfl (by decide +kernel) ⟨Nat.le_of_ble_eq_true rfl, Nat.le_of_ble_eq_true rfl⟩) (tg_preV hw hK hSD hA (ci := 10) (q := (RX10, TX10, 49)) rfl h_p0 rfl) rfl rfl hl.1 rfl (lv_room (Nat.le_of_ble_eq_true rfl)) dX10_holds_154 ⟨Nat.le_of_ble_eq_true rfl, Nat.le_of_ble_eq_true rfl⟩) hw hA (fun v_17  H locs hp_v_17 hw => ?_)
        have r_v_17 : RI v_17 0 1 := hp_v_17.1
        refine lv_if_ne (tgt := 170) hx hb dX10_holds_157 (by decide) (fun c_157 => ?_) (fun c_157 => ?_)
        · have r_v_17 : RI v_17 1 1 := rc_neL r_v_17 rl_0 (ti_ne c_157) (by decide)
          refine lv_iconst (v := 1) hx hb dX10_holds_170 (by decide) ?_
          refine lv_goto (tgt := 175) hx hb dX10_holds_171 (by decide) ?_
          subst hQ
          exact W.zret (v := 1) hx hb hr (rfl) (fun t ht hW => ⟨⟨1, (), rfl, ⟨rl_1.to (by decide), (fun _ => trivial), (fun h0 => trivial)⟩, by rw [ht]; exact hw.2.1, va_K.moved hW.alike hK, hw.2.2.1⟩, hw.2.2.2.1.F ht⟩) hw.2.2.2.1.2.2 dX10_holds_175
        · have r_v_17 : RI v_17 0 0 := rc_eq1 r_v_17 rl_0 (ti_eq c_157) (by decide)
          refine lv_aload_n hx hb dX10_holds_160 rfl (lv_at hl 3 rfl) ?_
          refine lv_iload hx hb dX10_holds_161 (lv_at hl 0 rfl) ?_
          refine lv_iload_n hx hb dX10_holds_163 rfl (lv_at hl 5 rfl) ?_
          refine tk_ir (va_runV (As := [.int v_12, .int p2]) (rest := []) ⟨hx, hb, hml, hown, hts⟩ (c_X10_holds__22 l D cy z H.size Ps w0 hw.1 p0 v_12 p2 h_p0 r_v_12 r_p2) (cwV 2 hts (gV tw_1787 tw_1789 ts_119 tw_15 tw_1790) rfl rfl rfl (by decide +kernel) ⟨Nat.le_of_ble_eq_true rfl, Nat.le_of_ble_eq_true rfl⟩) (tg_preV hw hK hSD hA (ci := 10) (q := (RX10, TX10, 49)) rfl h_p0 rfl) rfl rfl hl.1 rfl (lv_room (Nat.le_of_ble_eq_true rfl)) dX10_holds_164 ⟨Nat.le_of_ble_eq_true rfl, Nat.le_of_ble_eq_true rfl⟩) hw hA (fun v_18  H locs hp_v_18 hw => ?_)
          have r_v_18 : RI v_18 0 1 := hp_v_18.1
          refine lv_if_eq (tgt := 174) hx hb dX10_holds_167 (by decide) (fun c_167 => ?_) (fun c_167 => ?_)
          · have r_v_18 : RI v_18 0 0 := rc_eq1 r_v_18 rl_0 (ti_eq c_167) (by decide)
            refine lv_iconst (v := 0) hx hb dX10_holds_174 (by decide) ?_
            subst hQ
            exact W.zret (v := 0) hx hb hr (rfl) (fun t ht hW => ⟨⟨0, (), rfl, ⟨rl_0.to (by decide), (fun h0 => trivial), (fun _ => trivial)⟩, by rw [ht]; exact hw.2.1, va_K.moved hW.alike hK, hw.2.2.1⟩, hw.2.2.2.1.F ht⟩) hw.2.2.2.1.2.2 dX10_holds_175
          · have r_v_18 : RI v_18 1 1 := rc_neL r_v_18 rl_0 (ti_ne c_167) (by decide)
            refine lv_iconst (v := 1) hx hb dX10_holds_170 (by decide) ?_
            refine lv_goto (tgt := 175) hx hb dX10_holds_171 (by decide) ?_
            subst hQ
            exact W.zret (v := 1) hx hb hr (rfl) (fun t ht hW => ⟨⟨1, (), rfl, ⟨rl_1.to (by decide), (fun _ => trivial), (fun h0 => trivial)⟩, by rw [ht]; exact hw.2.1, va_K.moved hW.alike hK, hw.2.2.1⟩, hw.2.2.2.1.F ht⟩) hw.2.2.2.1.2.2 dX10_holds_175
      · by_cases k_34_69 : v_13 = 69
        · refine lv_lookup (tgt := 176) (off := 142) hx hb dX10_holds_34 (by decide) (by rw [k_34_69]; decide) (by decide) ?_
          have r_v_13 : RI v_13 69 69 := by rw [k_34_69]; exact rl_69
          refine lv_aload_n hx hb dX10_holds_176 rfl (lv_at hl 3 rfl) ?_
          refine lv_iload_n hx hb dX10_holds_177 rfl (lv_at hl 5 rfl) ?_
          refine tk_ir (va_runV (As := [.int p2]) (rest := []) ⟨hx, hb, hml, hown, hts⟩ (c_X10_isOpen l D cy z s.heap.size Ps w0 hw.1 p0 p2 h_p0 (r_p2.to (by decide))) (cwV 1 hts (gV tw_1457 tw_1459 ts_71 tw_15 tw_1460) rfl rfl rfl (by decide +kernel) ⟨Nat.le_of_ble_eq_true rfl, Nat.le_of_ble_eq_true rfl⟩) (tg_preV hw hK hSD hA (ci := 10) (q := (RX10, TX10, 49)) rfl h_p0 rfl) rfl rfl hl.1 rfl (lv_room (Nat.le_of_ble_eq_true rfl)) dX10_holds_178 ⟨Nat.le_of_ble_eq_true rfl, Nat.le_of_ble_eq_true rfl⟩) hw hA (fun v_19  H locs hp_v_19 hw => ?_)
          have r_v_19 : RI v_19 0 1 := hp_v_19.1
          subst hQ
          exact W.zret (v := v_19) hx hb hr (tq_nz (r_v_19.to (by decide))) (fun t ht hW => ⟨⟨v_19, (), rfl, ⟨r_v_19.to (by decide), (fun h0 => trivial), (fun h0 => trivial)⟩, by rw [ht]; exact hw.2.1, va_K.moved hW.alike hK, hw.2.2.1⟩, hw.2.2.2.1.F ht⟩) hw.2.2.2.1.2.2 dX10_holds_181
        · by_cases k_34_70 : v_13 = 70
          · refine lv_lookup (tgt := 182) (off := 148) hx hb dX10_holds_34 (by decide) (by rw [k_34_70]; decide) (by decide) ?_
            have r_v_13 : RI v_13 70 70 := by rw [k_34_70]; exact rl_70
            refine lv_aload_n hx hb dX10_holds_182 rfl (lv_at hl 3 rfl) ?_
            refine lv_iload_n hx hb dX10_holds_183 rfl (lv_at hl 5 rfl) ?_
            refine tk_ir (va_runV (As := [.int p2]) (rest := []) ⟨hx, hb, hml, hown, hts⟩ (c_X10_whatIs l D cy z s.heap.size Ps w0 hw.1 p0 p2 h_p0 r_p2) (cwV 1 hts (gV tw_1449 tw_1451 ts_69 tw_15 tw_1452) rfl rfl rfl (by decide +kernel) ⟨Nat.le_of_ble_eq_true rfl, Nat.le_of_ble_eq_true rfl⟩) (tg_preV hw hK hSD hA (ci := 10) (q := (RX10, TX10, 49)) rfl h_p0 rfl) rfl rfl hl.1 rfl (lv_room (Nat.le_of_ble_eq_true rfl)) dX10_holds_184 ⟨Nat.le_of_ble_eq_true rfl, Nat.le_of_ble_eq_true rfl⟩) hw hA (fun v_20  H locs hp_v_20 hw => ?_)
            have r_v_20 : RI v_20 (-1) 5 := hp_v_20.1
            by_cases c9_v_20 : v_20.toInt < 0
            · have r_v_20 : RI v_20 (-1) (-1) := by unfold RI at r_v_20 ⊢; omega
              have x_NB_p0_p2 := (hp_v_20.2.2.2.2.1 (by omega)).1
              refine lv_iconst (v := (-1)) hx hb dX10_holds_187 (by decide) ?_
              refine lv_icmp_ne (tgt := 195) hx hb dX10_holds_188 (by decide) (fun c_188 => ?_) (fun c_188 => ?_)
              · exact absurd (r_v_20.eq.trans rl_m1.eq.symm) ((ti_ne c_188))
              · refine lv_iconst (v := 1) hx hb dX10_holds_191 (by decide) ?_
                refine lv_goto (tgt := 196) hx hb dX10_holds_192 (by decide) ?_
                subst hQ
                exact W.zret (v := 1) hx hb hr (rfl) (fun t ht hW => ⟨⟨1, (), rfl, ⟨rl_1.to (by decide), (fun _ => trivial), (fun h0 => trivial)⟩, by rw [ht]; exact hw.2.1, va_K.moved hW.alike hK, hw.2.2.1⟩, hw.2.2.2.1.F ht⟩) hw.2.2.2.1.2.2 dX10_holds_196
            · have r_v_20 : RI v_20 0 5 := by unfold RI at r_v_20 ⊢; omega
              have x_WB_p0_p2_v_20 := (hp_v_20.2.2.2.2.2 (by omega)).1
              refine lv_iconst (v := (-1)) hx hb dX10_holds_187 (by decide) ?_
              refine lv_icmp_ne (tgt := 195) hx hb dX10_holds_188 (by decide) (fun c_188 => ?_) (fun c_188 => ?_)
              · refine lv_iconst (v := 0) hx hb dX10_holds_195 (by decide) ?_
                subst hQ
                exact W.zret (v := 0) hx hb hr (rfl) (fun t ht hW => ⟨⟨0, (), rfl, ⟨rl_0.to (by decide), (fun h0 => trivial), (fun _ => trivial)⟩, by rw [ht]; exact hw.2.1, va_K.moved hW.alike hK, hw.2.2.1⟩, hw.2.2.2.1.F ht⟩) hw.2.2.2.1.2.2 dX10_holds_196
              · have r_v_20 : RI v_20 0 (-1) := rc_eq1 r_v_20 rl_m1 (ti_eq c_188) (by decide)
                exact (r_v_20.no (by decide)).elim
          · by_cases k_34_71 : v_13 = 71
            · refine lv_lookup (tgt := 197) (off := 163) hx hb dX10_holds_34 (by decide) (by rw [k_34_71]; decide) (by decide) ?_
              have r_v_13 : RI v_13 71 71 := by rw [k_34_71]; exact rl_71
              refine lv_aload_n hx hb dX10_holds_197 rfl (lv_at hl 3 rfl) ?_
              refine lv_iload_n hx hb dX10_holds_198 rfl (lv_at hl 5 rfl) ?_
              refine tk_ir (va_runV (As := [.int p2]) (rest := []) ⟨hx, hb, hml, hown, hts⟩ (c_X10_sittersOf l D cy z s.heap.size Ps w0 hw.1 p0 p2 h_p0 (r_p2.to (by decide))) (cwV 1 hts (gV tw_1461 tw_1463 ts_72 tw_15 tw_1464) rfl rfl rfl (by decide +kernel) ⟨Nat.le_of_ble_eq_true rfl, Nat.le_of_ble_eq_true rfl⟩) (tg_preV hw hK hSD hA (ci := 10) (q := (RX10, TX10, 49)) rfl h_p0 rfl) rfl rfl hl.1 rfl (lv_room (Nat.le_of_ble_eq_true rfl)) dX10_holds_199 ⟨Nat.le_of_ble_eq_true rfl, Nat.le_of_ble_eq_true rfl⟩) hw hA (fun v_21  H locs hp_v_21 hw => ?_)
              have r_v_21 : RI v_21 (-2147483648) 2147483647 := hp_v_21.1
              refine lv_if_eq (tgt := 209) hx hb dX10_holds_202 (by decide) (fun c_202 => ?_) (fun c_202 => ?_)
              · have r_v_21 : RI v_21 0 0 := rc_eq1 r_v_21 rl_0 (ti_eq c_202) (by decide)
                refine lv_iconst (v := 0) hx hb dX10_holds_209 (by decide) ?_
                subst hQ
                exact W.zret (v := 0) hx hb hr (rfl) (fun t ht hW => ⟨⟨0, (), rfl, ⟨rl_0.to (by decide), (fun h0 => trivial), (fun _ => trivial)⟩, by rw [ht]; exact hw.2.1, va_K.moved hW.alike hK, hw.2.2.1⟩, hw.2.2.2.1.F ht⟩) hw.2.2.2.1.2.2 dX10_holds_210
              · refine lv_iconst (v := 1) hx hb dX10_holds_205 (by decide) ?_
                refine lv_goto (tgt := 210) hx hb dX10_holds_206 (by decide) ?_
                subst hQ
                exact W.zret (v := 1) hx hb hr (rfl) (fun t ht hW => ⟨⟨1, (), rfl, ⟨rl_1.to (by decide), (fun _ => trivial), (fun h0 => trivial)⟩, by rw [ht]; exact hw.2.1, va_K.moved hW.alike hK, hw.2.2.1⟩, hw.2.2.2.1.F ht⟩) hw.2.2.2.1.2.2 dX10_holds_210
            · by_cases k_34_72 : v_13 = 72
              · refine lv_lookup (tgt := 211) (off := 177) hx hb dX10_holds_34 (by decide) (by rw [k_34_72]; decide) (by decide) ?_
                have r_v_13 : RI v_13 72 72 := by rw [k_34_72]; exact rl_72
                refine lv_aload_n hx hb dX10_holds_211 rfl (lv_at hl 3 rfl) ?_
                refine lv_iload_n hx hb dX10_holds_212 rfl (lv_at hl 5 rfl) ?_
                refine tk_ir (va_runV (As := [.int p2]) (rest := []) ⟨hx, hb, hml, hown, hts⟩ (c_X10_whatIs l D cy z s.heap.size Ps w0 hw.1 p0 p2 h_p0 r_p2) (cwV 1 hts (gV tw_1449 tw_1451 ts_69 tw_15 tw_1452) rfl rfl rfl (by decide +kernel) ⟨Nat.le_of_ble_eq_true rfl, Nat.le_of_ble_eq_true rfl⟩) (tg_preV hw hK hSD hA (ci := 10) (q := (RX10, TX10, 49)) rfl h_p0 rfl) rfl rfl hl.1 rfl (lv_room (Nat.le_of_ble_eq_true rfl)) dX10_holds_213 ⟨Nat.le_of_ble_eq_true rfl, Nat.le_of_ble_eq_true rfl⟩) hw hA (fun v_22  H locs hp_v_22 hw => ?_)
                have r_v_22 : RI v_22 (-1) 5 := hp_v_22.1
                by_cases c9_v_22 : v_22.toInt < 0
                · have r_v_22 : RI v_22 (-1) (-1) := by unfold RI at r_v_22 ⊢; omega
                  have x_NB_p0_p2 := (hp_v_22.2.2.2.2.1 (by omega)).1
                  refine lv_iload hx hb dX10_holds_216 (lv_at hl 1 rfl) ?_
                  refine lv_icmp_ne (tgt := 225) hx hb dX10_holds_218 (by decide) (fun c_218 => ?_) (fun c_218 => ?_)
                  · refine lv_iconst (v := 0) hx hb dX10_holds_225 (by decide) ?_
                    subst hQ
                    exact W.zret (v := 0) hx hb hr (rfl) (fun t ht hW => ⟨⟨0, (), rfl, ⟨rl_0.to (by decide), (fun h0 => trivial), (fun _ => trivial)⟩, by rw [ht]; exact hw.2.1, va_K.moved hW.alike hK, hw.2.2.1⟩, hw.2.2.2.1.F ht⟩) hw.2.2.2.1.2.2 dX10_holds_226
                  · have r_v_10 : RI v_10 (-1) (-1) := rc_eq2 r_v_22 r_v_10 (ti_eq c_218) (by decide)
                    refine lv_iconst (v := 1) hx hb dX10_holds_221 (by decide) ?_
                    refine lv_goto (tgt := 226) hx hb dX10_holds_222 (by decide) ?_
                    subst hQ
                    exact W.zret (v := 1) hx hb hr (rfl) (fun t ht hW => ⟨⟨1, (), rfl, ⟨rl_1.to (by decide), (fun _ => trivial), (fun h0 => trivial)⟩, by rw [ht]; exact hw.2.1, va_K.moved hW.alike hK, hw.2.2.1⟩, hw.2.2.2.1.F ht⟩) hw.2.2.2.1.2.2 dX10_holds_226
                · have r_v_22 : RI v_22 0 5 := by unfold RI at r_v_22 ⊢; omega
                  have x_WB_p0_p2_v_22 := (hp_v_22.2.2.2.2.2 (by omega)).1
                  refine lv_iload hx hb dX10_holds_216 (lv_at hl 1 rfl) ?_
                  refine lv_icmp_ne (tgt := 225) hx hb dX10_holds_218 (by decide) (fun c_218 => ?_) (fun c_218 => ?_)
                  · refine lv_iconst (v := 0) hx hb dX10_holds_225 (by decide) ?_
                    subst hQ
                    exact W.zret (v := 0) hx hb hr (rfl) (fun t ht hW => ⟨⟨0, (), rfl, ⟨rl_0.to (by decide), (fun h0 => trivial), (fun _ => trivial)⟩, by rw [ht]; exact hw.2.1, va_K.moved hW.alike hK, hw.2.2.1⟩, hw.2.2.2.1.F ht⟩) hw.2.2.2.1.2.2 dX10_holds_226
                  · have r_v_10 : RI v_10 0 5 := rc_eq2 r_v_22 r_v_10 (ti_eq c_218) (by decide)
                    refine lv_iconst (v := 1) hx hb dX10_holds_221 (by decide) ?_
                    refine lv_goto (tgt := 226) hx hb dX10_holds_222 (by decide) ?_
                    subst hQ
                    exact W.zret (v := 1) hx hb hr (rfl) (fun t ht hW => ⟨⟨1, (), rfl, ⟨rl_1.to (by decide), (fun _ => trivial), (fun h0 => trivial)⟩, by rw [ht]; exact hw.2.1, va_K.moved hW.alike hK, hw.2.2.1⟩, hw.2.2.2.1.F ht⟩) hw.2.2.2.1.2.2 dX10_holds_226
              · by_cases k_34_73 : v_13 = 73
                · refine lv_lookup (tgt := 227) (off := 193) hx hb dX10_holds_34 (by decide) (by rw [k_34_73]; decide) (by decide) ?_
                  have r_v_13 : RI v_13 73 73 := by rw [k_34_73]; exact rl_73
                  refine lv_aload_n hx hb dX10_holds_227 rfl (lv_at hl 3 rfl) ?_
                  refine tg_mem (ci := 10) (C := RX10) (T := TX10) (N := 49) hx hb hts inX10 hown hK hw 14 m_u_8 rfl (by decide) (hts _ tw_1151) (fun _ h9 => h9) dX10_holds_228 ?_
                  refine lv_bipush (v := 86) hx hb dX10_holds_231 (by decide) ?_
                  refine lv_iload_n hx hb dX10_holds_233 rfl (lv_at hl 5 rfl) ?_
                  refine lv_iadd hx hb dX10_holds_234 (lv_topi (fun v_23 e_v_23 => ?_))
                  obtain ⟨t_v_23, r_v_23⟩ := tq_add (lo := 86) (hi := 91) rl_86 r_p2 (by decide +kernel) e_v_23
                  have t_v_23 : v_23.toInt = 86 + p2.toInt := t_v_23
                  refine tg_iald (lo := (-2147483648)) (hi := 2147483647) hx hb hK hw h_vu_8 rfl 86 91 r_v_23 (by decide) (by decide +kernel) dX10_holds_235 (fun v_24 r_v_24 m_v_24 o_v_24 => ?_)
                  refine lv_iload hx hb dX10_holds_236 (lv_at hl 1 rfl) ?_
                  refine lv_icmp_ne (tgt := 245) hx hb dX10_holds_238 (by decide) (fun c_238 => ?_) (fun c_238 => ?_)
                  · refine lv_iconst (v := 0) hx hb dX10_holds_245 (by decide) ?_
                    subst hQ
                    exact W.zret (v := 0) hx hb hr (rfl) (fun t ht hW => ⟨⟨0, (), rfl, ⟨rl_0.to (by decide), (fun h0 => trivial), (fun _ => trivial)⟩, by rw [ht]; exact hw.2.1, va_K.moved hW.alike hK, hw.2.2.1⟩, hw.2.2.2.1.F ht⟩) hw.2.2.2.1.2.2 dX10_holds_246
                  · refine lv_iconst (v := 1) hx hb dX10_holds_241 (by decide) ?_
                    refine lv_goto (tgt := 246) hx hb dX10_holds_242 (by decide) ?_
                    subst hQ
                    exact W.zret (v := 1) hx hb hr (rfl) (fun t ht hW => ⟨⟨1, (), rfl, ⟨rl_1.to (by decide), (fun _ => trivial), (fun h0 => trivial)⟩, by rw [ht]; exact hw.2.1, va_K.moved hW.alike hK, hw.2.2.1⟩, hw.2.2.2.1.F ht⟩) hw.2.2.2.1.2.2 dX10_holds_246
                · refine lv_lookup (tgt := 247) (off := 213) hx hb dX10_holds_34 (by decide) ((lv_osw k_34_1 (by decide)).trans ((lv_osw k_34_2 (by decide)).trans ((lv_osw k_34_3 (by decide)).trans ((lv_osw k_34_69 (by decide)).trans ((lv_osw k_34_70 (by decide)).trans ((lv_osw k_34_71 (by decide)).trans ((lv_osw k_34_72 (by decide)).trans ((lv_osw k_34_73 (by decide)).trans (rfl))))))))) (by decide) ?_
                  refine lv_aload_n hx hb dX10_holds_247 rfl (lv_at hl 3 rfl) ?_
                  refine tg_mem (ci := 10) (C := RX10) (T := TX10) (N := 49) hx hb hts inX10 hown hK hw 14 m_u_8 rfl (by decide) (hts _ tw_1151) (fun _ h9 => h9) dX10_holds_248 ?_
                  refine lv_iload_n hx hb dX10_holds_251 rfl (lv_at hl 2 rfl) ?_
                  refine tg_imem hx hb hK hw h_vu_8 rfl r_v_7 (by decide) m_v_13 dX10_holds_252 ?_
                  refine lv_bipush (v := 50) hx hb dX10_holds_253 (by decide) ?_
                  refine lv_isub hx hb dX10_holds_255 (lv_topi (fun v_26 e_v_26 => ?_))
                  have r_v_26 := ri_any v_26
                  refine lv_istore (lv' := [(6, .int v_26), (5, .int v_12), (4, .int v_10), (3, .int v_7), (0, .ref p0), (1, .int p1), (2, .int p2)]) hx hb dX10_holds_256 hl (by decide) rfl (fun ls hl => ?_)
                  refine lv_iload hx hb dX10_holds_258 (lv_at hl 0 rfl) ?_
                  refine lv_bipush (v := 24) hx hb dX10_holds_260 (by decide) ?_
                  refine lv_icmp_ne (tgt := 273) hx hb dX10_holds_262 (by decide) (fun c_262 => ?_) (fun c_262 => ?_)
                  · refine lv_iload hx hb dX10_holds_273 (lv_at hl 0 rfl) ?_
                    refine lv_bipush (v := 25) hx hb dX10_holds_275 (by decide) ?_
                    refine lv_icmp_ne (tgt := 292) hx hb dX10_holds_277 (by decide) (fun c_277 => ?_) (fun c_277 => ?_)
                    · refine lv_iload hx hb dX10_holds_292 (lv_at hl 0 rfl) ?_
                      refine lv_bipush (v := 26) hx hb dX10_holds_294 (by decide) ?_
                      refine lv_icmp_ne (tgt := 311) hx hb dX10_holds_296 (by decide) (fun c_296 => ?_) (fun c_296 => ?_)
                      · refine lv_iload_n hx hb dX10_holds_311 rfl (lv_at hl 6 rfl) ?_
                        exact B312 v_7 v_10 v_12 v_26 p2 _ _ ls r_p1 r_p2 r_v_7 r_v_10 r_v_12 r_v_26 (r_p2.to (by decide)) hw (lv_sub hl [4, 5, 6, 3, 2, 1, 0] rfl)
                      · have r_v_26 : RI v_26 26 26 := rc_eq1 r_v_26 rl_26 (ti_eq c_296) (by decide)
                        refine lv_aload_n hx hb dX10_holds_299 rfl (lv_at hl 4 rfl) ?_
                        refine tg_mem (ci := 10) (C := RX10) (T := TX10) (N := 49) hx hb hts inX10 hown hK hw 14 m_u_8 rfl (by decide) (hts _ tw_1151) (fun _ h9 => h9) dX10_holds_300 ?_
                        refine lv_bipush (v := 98) hx hb dX10_holds_303 (by decide) ?_
                        refine lv_iload_n hx hb dX10_holds_305 rfl (lv_at hl 6 rfl) ?_
                        refine lv_iadd hx hb dX10_holds_306 (lv_topi (fun v_27 e_v_27 => ?_))
                        obtain ⟨t_v_27, r_v_27⟩ := tq_add (lo := 98) (hi := 103) rl_98 r_p2 (by decide +kernel) e_v_27
                        have t_v_27 : v_27.toInt = 98 + p2.toInt := t_v_27
                        refine tg_iald (lo := (-2147483648)) (hi := 2147483647) hx hb hK hw h_vu_8 rfl 98 103 r_v_27 (by decide) (by decide +kernel) dX10_holds_307 (fun v_28 r_v_28 m_v_28 o_v_28 => ?_)
                        refine lv_goto (tgt := 312) hx hb dX10_holds_308 (by decide) ?_
                        exact B312 v_7 v_10 v_12 v_26 v_28 _ _ ls r_p1 r_p2 r_v_7 r_v_10 r_v_12 (r_v_26.to (by decide)) r_v_28 hw (lv_sub hl [4, 5, 6, 3, 2, 1, 0] rfl)
                    · have r_v_26 : RI v_26 25 25 := rc_eq1 r_v_26 rl_25 (ti_eq c_277) (by decide)
                      refine lv_aload_n hx hb dX10_holds_280 rfl (lv_at hl 4 rfl) ?_
                      refine tg_mem (ci := 10) (C := RX10) (T := TX10) (N := 49) hx hb hts inX10 hown hK hw 14 m_u_8 rfl (by decide) (hts _ tw_1151) (fun _ h9 => h9) dX10_holds_281 ?_
                      refine lv_bipush (v := 92) hx hb dX10_holds_284 (by decide) ?_
                      refine lv_iload_n hx hb dX10_holds_286 rfl (lv_at hl 6 rfl) ?_
                      refine lv_iadd hx hb dX10_holds_287 (lv_topi (fun v_29 e_v_29 => ?_))
                      obtain ⟨t_v_29, r_v_29⟩ := tq_add (lo := 92) (hi := 97) rl_92 r_p2 (by decide +kernel) e_v_29
                      have t_v_29 : v_29.toInt = 92 + p2.toInt := t_v_29
                      refine tg_iald (lo := (-2147483648)) (hi := 2147483647) hx hb hK hw h_vu_8 rfl 92 97 r_v_29 (by decide) (by decide +kernel) dX10_holds_288 (fun v_30 r_v_30 m_v_30 o_v_30 => ?_)
                      refine lv_goto (tgt := 312) hx hb dX10_holds_289 (by decide) ?_
                      exact B312 v_7 v_10 v_12 v_26 v_30 _ _ ls r_p1 r_p2 r_v_7 r_v_10 r_v_12 (r_v_26.to (by decide)) r_v_30 hw (lv_sub hl [4, 5, 6, 3, 2, 1, 0] rfl)
                  · have r_v_26 : RI v_26 24 24 := rc_eq1 r_v_26 rl_24 (ti_eq c_262) (by decide)
                    refine lv_aload_n hx hb dX10_holds_265 rfl (lv_at hl 4 rfl) ?_
                    refine lv_iload_n hx hb dX10_holds_266 rfl (lv_at hl 6 rfl) ?_
                    refine tk_ir (va_runV (As := [.int p2]) (rest := []) ⟨hx, hb, hml, hown, hts⟩ (c_X10_sizeOf l D cy z s.heap.size Ps w0 hw.1 p0 p2 h_p0 r_p2) (cwV 1 hts (gV tw_1453 tw_1455 ts_70 tw_15 tw_1456) rfl rfl rfl (by decide +kernel) ⟨Nat.le_of_ble_eq_true rfl, Nat.le_of_ble_eq_true rfl⟩) (tg_preV hw hK hSD hA (ci := 10) (q := (RX10, TX10, 49)) rfl h_p0 rfl) rfl rfl hl.1 rfl (lv_room (Nat.le_of_ble_eq_true rfl)) dX10_holds_267 ⟨Nat.le_of_ble_eq_true rfl, Nat.le_of_ble_eq_true rfl⟩) hw hA (fun v_31  H locs hp_v_31 hw => ?_)
                    have r_v_31 : RI v_31 (-2147483648) 2147483647 := hp_v_31.1
                    refine lv_goto (tgt := 312) hx hb dX10_holds_270 (by decide) ?_
                    exact B312 v_7 v_10 v_12 v_26 v_31 _ _ ls r_p1 r_p2 r_v_7 r_v_10 r_v_12 (r_v_26.to (by decide)) r_v_31 hw (lv_sub hl [4, 5, 6, 3, 2, 1, 0] rfl)
abbrev wr_X10_holds__20 : List (Nat × Nat) := []
abbrev wa_X10_holds__20 : List Nat := []
set_option maxHeartbeats 4000000 in
set_option maxRecDepth 100000 in
theorem c_X10_holds__20 (l : Launch) (D : va_G) (cy : Nat → ClassId) (z : Nat → Nat) (sz : Nat) (Ps : PSI) (w0 : va_W) (hT : HT cy GG Ps w0) (p0 : Nat) (p1 : Int32) (p2 : Int32) (h_p0 : (p0, 55) ∈ Ps) (r_p1 : RI p1 0 39) (r_p2 : RI p2 0 5) : Met l yX10_holds (Cond.code yX10_holds cX10_holds 8 (some .boolean) :: gT) ({ frames := 42, cells := 0, slots := 0, locals := 8400 } : Room) (va_Pc [.ref p0, .int p1, .int p2] (PRE D cy z w0 sz)) (va_Qi (fun (r : Int32) (u : Unit) => RI r 0 1 ∧ (r = 0 → True) ∧ (¬ r = 0 → True)) (BB D cy (va_A w0 sz) (fun (u : Unit) => w0)) (va_A w0 sz)) 0 0 (va_A w0 sz) := by
  refine Met.ofW (cc := cX10_holds) (maxL := 8) (ret := (some .boolean)) (by decide) rfl ?_
  intro p e s m args below meth c s₁ B hml hv
  obtain ⟨rfl, hsz, hP, hK, hD0, hSD⟩ := hv
  have hx := B.exec
  have hb := B.bytes
  have hr := B.returns
  have hlocks := B.notSynchronized
  have hts : ∀ w ∈ gT, w.before _ s = true := fun w h => atoms_spec (ws := Cond.code yX10_holds cX10_holds 8 (some .boolean) :: gT) B.pre w (List.mem_cons_of_mem _ h)
  have hown : s.vm.findClass RX10 = some m.cls := findClass_of_methodNamed B.named
  subst hsz
  have hD := hD0.self (sz := s.heap.size)
  generalize hAe : va_A w0 s.heap.size = A at hD hSD ⊢
  have hA : ∀ q : Nat, s.heap.size ≤ q → A q := fun q h => by rw [← hAe]; exact Or.inr h
  have hl := lv_entry ([.ref p0, .int p1, .int p2]) (n := 8) (Nat.le_of_ble_eq_true rfl)
  rw [lg_entry_eq]
  generalize (lg_sl ([.ref p0, .int p1, .int p2]) ++ List.replicate (8 - (lg_sl ([.ref p0, .int p1, .int p2])).length) Slot.unset).toArray = ls at hl ⊢
  have hl : lv_has ls 8 [(0, .ref p0), (1, .int p1), (2, .int p2)] := hl
  refine nameQ (fun Q hQ => ?_)
  have hw : WD D cy GG A s wr_X10_holds__20 wa_X10_holds__20 Ps w0 Ps w0 s.heap [] := ⟨hT, hP, hD, va_S.rf, FR.rf, hT.1, [], (List.append_nil _).symm⟩
  have B312 : ∀ (x3 : Int32) (x4 : Int32) (x5 : Int32) (x6 : Int32) (y0 : Int32) (H : Heap) (locs : List Loc) (ls : Array Slot), RI p1 0 39 → RI p2 0 5 → RI x3 174 330 → RI x4 (-2147483648) 2147483647 → RI x5 (-2147483648) 2147483647 → RI x6 (-2147483648) 2147483647 → RI y0 (-2147483648) 2147483647 → WD D cy GG A s wr_X10_holds__20 wa_X10_holds__20 Ps w0 Ps w0 H locs → lv_has ls 8 [(0, .ref p0), (1, .int p1), (2, .int p2), (3, .int x3), (4, .int x4), (5, .int x5), (6, .int x6)] → W p l e (headSpec (Cond.code yX10_holds cX10_holds 8 (some .boolean) :: gT) ({ frames := 42, cells := 0, slots := 0, locals := 8400 } : Room)).room s m ([.ref p0, .int p1, .int p2] : List Value).toArray below meth c H locs 0 0 Q (F0 m 312 ls [.int y0]) := by
    intro x3 x4 x5 x6 y0 H locs ls r_p1 r_p2 r_x3 r_x4 r_x5 r_x6 r_y0 hw hl
    refine lv_istore (lv' := [(7, .int y0), (0, .ref p0), (1, .int p1), (2, .int p2), (3, .int x3), (4, .int x4), (5, .int x5), (6, .int x6)]) hx hb dX10_holds_312 hl (by decide) rfl (fun ls hl => ?_)
    refine lv_aload_n hx hb dX10_holds_314 rfl (lv_at hl 1 rfl) ?_
    refine tg_get (ci := 10) (ts := ty_MODEL) (C := RX10) (T := TX10) (N := 49) hx hb hts inX10 hown hK hw h_p0 rfl rfl 14 (by decide) (hts _ tw_1151) (fun _ h9 => h9) (ft := vR 34) rfl dX10_holds_315 (fun u_1 hv_u_1 m_u_1 => ?_)
    obtain ⟨vu_1, rfl, h_vu_1⟩ := hv_u_1
    refine lv_iload_n hx hb dX10_holds_318 rfl (lv_at hl 4 rfl) ?_
    refine lv_iconst (v := 3) hx hb dX10_holds_319 (by decide) ?_
    refine lv_iadd hx hb dX10_holds_320 (lv_topi (fun v_2 e_v_2 => ?_))
    obtain ⟨t_v_2, r_v_2⟩ := tq_add (lo := 177) (hi := 333) r_x3 rl_3 (by decide +kernel) e_v_2
    have t_v_2 : v_2.toInt = x3.toInt + 3 := t_v_2
    refine tg_iald (lo := (-2147483648)) (hi := 2147483647) hx hb hK hw h_vu_1 rfl 177 333 r_v_2 (by decide) (by decide +kernel) dX10_holds_321 (fun v_3 r_v_3 m_v_3 o_v_3 => ?_)
    refine lv_bipush (v := 60) hx hb dX10_holds_322 (by decide) ?_
    refine lv_icmp_ne (tgt := 342) hx hb dX10_holds_324 (by decide) (fun c_324 => ?_) (fun c_324 => ?_)
    · refine lv_aload_n hx hb dX10_holds_342 rfl (lv_at hl 1 rfl) ?_
      refine tg_mem (ci := 10) (C := RX10) (T := TX10) (N := 49) hx hb hts inX10 hown hK hw 14 m_u_1 rfl (by decide) (hts _ tw_1151) (fun _ h9 => h9) dX10_holds_343 ?_
      refine lv_iload_n hx hb dX10_holds_346 rfl (lv_at hl 4 rfl) ?_
      refine lv_iconst (v := 3) hx hb dX10_holds_347 (by decide) ?_
      refine lv_iadd hx hb dX10_holds_348 (lv_topi (fun v_4 e_v_4 => ?_))
      obtain ⟨t_v_4, r_v_4⟩ := tq_add (lo := 177) (hi := 333) r_x3 rl_3 (by decide +kernel) e_v_4
      have t_v_4 : v_4.toInt = x3.toInt + 3 := t_v_4
      refine tg_iald (lo := (-2147483648)) (hi := 2147483647) hx hb hK hw h_vu_1 rfl 177 333 r_v_4 (by decide) (by decide +kernel) dX10_holds_349 (fun v_5 r_v_5 m_v_5 o_v_5 => ?_)
      refine lv_bipush (v := 61) hx hb dX10_holds_350 (by decide) ?_
      refine lv_icmp_ne (tgt := 370) hx hb dX10_holds_352 (by decide) (fun c_352 => ?_) (fun c_352 => ?_)
      · refine lv_iload hx hb dX10_holds_370 (lv_at hl 0 rfl) ?_
        refine lv_iload hx hb dX10_holds_372 (lv_at hl 6 rfl) ?_
        refine lv_icmp_le (tgt := 381) hx hb dX10_holds_374 (by decide) (fun c_374 => ?_) (fun c_374 => ?_)
        · refine lv_iconst (v := 0) hx hb dX10_holds_381 (by decide) ?_
          subst hQ
          exact W.zret (v := 0) hx hb hr (rfl) (fun t ht hW => ⟨⟨0, (), rfl, ⟨rl_0.to (by decide), (fun h0 => trivial), (fun _ => trivial)⟩, by rw [ht]; exact hw.2.1, va_K.moved hW.alike hK, hw.2.2.1⟩, hw.2.2.2.1.F ht⟩) hw.2.2.2.1.2.2 dX10_holds_382
        · have r_x5 : RI x5 (-2147483648) 2147483646 := rc_lt1 r_x5 r_y0 (ti_nle c_374) (by decide)
          have r_y0 : RI y0 (-2147483647) 2147483647 := rc_lt2 r_x5 r_y0 (ti_nle c_374) (by decide)
          refine lv_iconst (v := 1) hx hb dX10_holds_377 (by decide) ?_
          refine lv_goto (tgt := 382) hx hb dX10_holds_378 (by decide) ?_
          subst hQ
          exact W.zret (v := 1) hx hb hr (rfl) (fun t ht hW => ⟨⟨1, (), rfl, ⟨rl_1.to (by decide), (fun _ => trivial), (fun h0 => trivial)⟩, by rw [ht]; exact hw.2.1, va_K.moved hW.alike hK, hw.2.2.1⟩, hw.2.2.2.1.F ht⟩) hw.2.2.2.1.2.2 dX10_holds_382
      · have r_v_5 : RI v_5 61 61 := rc_eq1 r_v_5 rl_61 (ti_eq c_352) (by decide)
        refine lv_iload hx hb dX10_holds_355 (lv_at hl 0 rfl) ?_
        refine lv_iload hx hb dX10_holds_357 (lv_at hl 6 rfl) ?_
        refine lv_icmp_ne (tgt := 366) hx hb dX10_holds_359 (by decide) (fun c_359 => ?_) (fun c_359 => ?_)
        · refine lv_iconst (v := 0) hx hb dX10_holds_366 (by decide) ?_
          refine lv_goto (tgt := 382) hx hb dX10_holds_367 (by decide) ?_
          subst hQ
          exact W.zret (v := 0) hx hb hr (rfl) (fun t ht hW => ⟨⟨0, (), rfl, ⟨rl_0.to (by decide), (fun h0 => trivial), (fun _ => trivial)⟩, by rw [ht]; exact hw.2.1, va_K.moved hW.alike hK, hw.2.2.1⟩, hw.2.2.2.1.F ht⟩) hw.2.2.2.1.2.2 dX10_holds_382
        · refine lv_iconst (v := 1) hx hb dX10_holds_362 (by decide) ?_
          refine lv_goto (tgt := 382) hx hb dX10_holds_363 (by decide) ?_
          subst hQ
          exact W.zret (v := 1) hx hb hr (rfl) (fun t ht hW => ⟨⟨1, (), rfl, ⟨rl_1.to (by decide), (fun _ => trivial), (fun h0 => trivial)⟩, by rw [ht]; exact hw.2.1, va_K.moved hW.alike hK, hw.2.2.1⟩, hw.2.2.2.1.F ht⟩) hw.2.2.2.1.2.2 dX10_holds_382
    · have r_v_3 : RI v_3 60 60 := rc_eq1 r_v_3 rl_60 (ti_eq c_324) (by decide)
      refine lv_iload hx hb dX10_holds_327 (lv_at hl 0 rfl) ?_
      refine lv_iload hx hb dX10_holds_329 (lv_at hl 6 rfl) ?_
      refine lv_icmp_ge (tgt := 338) hx hb dX10_holds_331 (by decide) (fun c_331 => ?_) (fun c_331 => ?_)
      · refine lv_iconst (v := 0) hx hb dX10_holds_338 (by decide) ?_
        refine lv_goto (tgt := 382) hx hb dX10_holds_339 (by decide) ?_
        subst hQ
        exact W.zret (v := 0) hx hb hr (rfl) (fun t ht hW => ⟨⟨0, (), rfl, ⟨rl_0.to (by decide), (fun h0 => trivial), (fun _ => trivial)⟩, by rw [ht]; exact hw.2.1, va_K.moved hW.alike hK, hw.2.2.1⟩, hw.2.2.2.1.F ht⟩) hw.2.2.2.1.2.2 dX10_holds_382
      · have r_y0 : RI y0 (-2147483648) 2147483646 := rc_lt1 r_y0 r_x5 (ti_nle c_331) (by decide)
        have r_x5 : RI x5 (-2147483647) 2147483647 := rc_lt2 r_y0 r_x5 (ti_nle c_331) (by decide)
        refine lv_iconst (v := 1) hx hb dX10_holds_334 (by decide) ?_
        refine lv_goto (tgt := 382) hx hb dX10_holds_335 (by decide) ?_
        subst hQ
        exact W.zret (v := 1) hx hb hr (rfl) (fun t ht hW => ⟨⟨1, (), rfl, ⟨rl_1.to (by decide), (fun _ => trivial), (fun h0 => trivial)⟩, by rw [ht]; exact hw.2.1, va_K.moved hW.alike hK, hw.2.2.1⟩, hw.2.2.2.1.F ht⟩) hw.2.2.2.1.2.2 dX10_holds_382
  refine lv_sipush (v := 174) hx hb dX10_holds_0 (by decide) ?_
  refine lv_iconst (v := 4) hx hb dX10_holds_3 (by decide) ?_
  refine lv_iload_n hx hb dX10_holds_4 rfl (lv_at hl 1 rfl) ?_
  refine lv_imul hx hb dX10_holds_5 (lv_topi (fun v_6 e_v_6 => ?_))
  obtain ⟨t_v_6, r_v_6⟩ := tq_mul (lo := 0) (hi := 156) rl_4 r_p1 (by decide +kernel) e_v_6
  have t_v_6 : v_6.toInt = 4 * p1.toInt := t_v_6
  refine lv_iadd hx hb dX10_holds_6 (lv_topi (fun v_7 e_v_7 => ?_))
  obtain ⟨t_v_7, r_v_7⟩ := tq_add (lo := 174) (hi := 330) rl_174 r_v_6 (by decide +kernel) e_v_7
  have t_v_7 : v_7.toInt = 174 + v_6.toInt := t_v_7
  refine lv_istore_n (lv' := [(3, .int v_7), (0, .ref p0), (1, .int p1), (2, .int p2)]) hx hb dX10_holds_7 rfl hl (by decide) rfl (fun ls hl => ?_)
  refine lv_aload_n hx hb dX10_holds_8 rfl (lv_at hl 1 rfl) ?_
  refine tg_get (ci := 10) (ts := ty_MODEL) (C := RX10) (T := TX10) (N := 49) hx hb hts inX10 hown hK hw h_p0 rfl rfl 14 (by decide) (hts _ tw_1151) (fun _ h9 => h9) (ft := vR 34) rfl dX10_holds_9 (fun u_8 hv_u_8 m_u_8 => ?_)
  obtain ⟨vu_8, rfl, h_vu_8⟩ := hv_u_8
  refine lv_iload_n hx hb dX10_holds_12 rfl (lv_at hl 0 rfl) ?_
  refine lv_iconst (v := 1) hx hb dX10_holds_13 (by decide) ?_
  refine lv_iadd hx hb dX10_holds_14 (lv_topi (fun v_9 e_v_9 => ?_))
  obtain ⟨t_v_9, r_v_9⟩ := tq_add (lo := 175) (hi := 331) r_v_7 rl_1 (by decide +kernel) e_v_9
  have t_v_9 : v_9.toInt = v_7.toInt + 1 := t_v_9
  refine tg_iald (lo := (-2147483648)) (hi := 2147483647) hx hb hK hw h_vu_8 rfl 175 331 r_v_9 (by decide) (by decide +kernel) dX10_holds_15 (fun v_10 r_v_10 m_v_10 o_v_10 => ?_)
  refine lv_istore (lv' := [(4, .int v_10), (3, .int v_7), (0, .ref p0), (1, .int p1), (2, .int p2)]) hx hb dX10_holds_16 hl (by decide) rfl (fun ls hl => ?_)
  refine lv_aload_n hx hb dX10_holds_18 rfl (lv_at hl 2 rfl) ?_
  refine tg_mem (ci := 10) (C := RX10) (T := TX10) (N := 49) hx hb hts inX10 hown hK hw 14 m_u_8 rfl (by decide) (hts _ tw_1151) (fun _ h9 => h9) dX10_holds_19 ?_
  refine lv_iload_n hx hb dX10_holds_22 rfl (lv_at hl 1 rfl) ?_
  refine lv_iconst (v := 2) hx hb dX10_holds_23 (by decide) ?_
  refine lv_iadd hx hb dX10_holds_24 (lv_topi (fun v_11 e_v_11 => ?_))
  obtain ⟨t_v_11, r_v_11⟩ := tq_add (lo := 176) (hi := 332) r_v_7 rl_2 (by decide +kernel) e_v_11
  have t_v_11 : v_11.toInt = v_7.toInt + 2 := t_v_11
  refine tg_iald (lo := (-2147483648)) (hi := 2147483647) hx hb hK hw h_vu_8 rfl 176 332 r_v_11 (by decide) (by decide +kernel) dX10_holds_25 (fun v_12 r_v_12 m_v_12 o_v_12 => ?_)
  refine lv_istore (lv' := [(5, .int v_12), (4, .int v_10), (3, .int v_7), (0, .ref p0), (1, .int p1), (2, .int p2)]) hx hb dX10_holds_26 hl (by decide) rfl (fun ls hl => ?_)
  refine lv_aload_n hx hb dX10_holds_28 rfl (lv_at hl 3 rfl) ?_
  refine tg_mem (ci := 10) (C := RX10) (T := TX10) (N := 49) hx hb hts inX10 hown hK hw 14 m_u_8 rfl (by decide) (hts _ tw_1151) (fun _ h9 => h9) dX10_holds_29 ?_
  refine lv_iload_n hx hb dX10_holds_32 rfl (lv_at hl 2 rfl) ?_
  refine tg_iald (lo := (-2147483648)) (hi := 2147483647) hx hb hK hw h_vu_8 rfl 174 330 r_v_7 (by decide) (by decide +kernel) dX10_holds_33 (fun v_13 r_v_13 m_v_13 o_v_13 => ?_)
  by_cases k_34_1 : v_13 = 1
  · refine lv_lookup (tgt := 108) (off := 74) hx hb dX10_holds_34 (by decide) (by rw [k_34_1]; decide) (by decide) ?_
    have r_v_13 : RI v_13 1 1 := by rw [k_34_1]; exact rl_1
    have g_v_10 : 0 ≤ v_10.toInt ∧ v_10.toInt < p1.toInt := by obtain ⟨_, f9, e8, e7, q9, _⟩ := ax_of (k := 14) (t := 34) hw h_p0 rfl (fun _ => rfl); cases FLD.inj hw.2.2.1 e8 m_u_8; have t9 := ARR.ael hw.2.2.1 e7 m_v_13; have x9 := ARR.ael hw.2.2.1 e7 m_v_10; rw [show Int32.toNatClampNeg v_7 = 174 + 4 * Int32.toNatClampNeg p1 from (by have k1 := r_v_7.cl (by decide); have k2 := r_p1.cl (by decide); omega)] at t9; rw [show Int32.toNatClampNeg v_9 = 175 + 4 * Int32.toNatClampNeg p1 from (by have k1 := r_v_9.cl (by decide); have k2 := r_p1.cl (by decide); omega)] at x9; exact RN_child q9 (r_p1.to (by decide)) t9 x9 (r_v_13.to (by decide))
    have r_v_10 : RI v_10 0 38 := ⟨g_v_10.1, by have k1 := r_p1.2; omega⟩
    refine lv_aload_n hx hb dX10_holds_108 rfl (lv_at hl 3 rfl) ?_
    refine lv_iload hx hb dX10_holds_109 (lv_at hl 1 rfl) ?_
    refine lv_iload_n hx hb dX10_holds_111 rfl (lv_at hl 5 rfl) ?_
    refine tk_ir (va_runV (As := [.int v_10, .int p2]) (rest := []) ⟨hx, hb, hml, hown, hts⟩ (c_X10_holds__21 l D cy z s.heap.size Ps w0 hw.1 p0 v_10 p2 h_p0 r_v_10 r_p2) (cwV 2 hts (gV tw_1787 tw_1789 ts_119 tw_15 tw_1790) rfl rfl rfl (by decide +kernel) ⟨Nat.le_of_ble_eq_true rfl, Nat.le_of_ble_eq_true rfl⟩) (tg_preV hw hK hSD hA (ci := 10) (q := (RX10, TX10, 49)) rfl h_p0 rfl) rfl rfl hl.1 rfl (lv_room (Nat.le_of_ble_eq_true rfl)) dX10_holds_112 ⟨Nat.le_of_ble_eq_true rfl, Nat.le_of_ble_eq_true rfl⟩) hw hA (fun v_14  H locs hp_v_14 hw => ?_)
    have r_v_14 : RI v_14 0 1 := hp_v_14.1
    refine lv_if_ne (tgt := 122) hx hb dX10_holds_115 (by decide) (fun c_115 => ?_) (fun c_115 => ?_)
    · have r_v_14 : RI v_14 1 1 := rc_neL r_v_14 rl_0 (ti_ne c_115) (by decide)
      refine lv_iconst (v := 0) hx hb dX10_holds_122 (by decide) ?_
      subst hQ
      exact W.zret (v := 0) hx hb hr (rfl) (fun t ht hW => ⟨⟨0, (), rfl, ⟨rl_0.to (by decide), (fun h0 => trivial), (fun _ => trivial)⟩, by rw [ht]; exact hw.2.1, va_K.moved hW.alike hK, hw.2.2.1⟩, hw.2.2.2.1.F ht⟩) hw.2.2.2.1.2.2 dX10_holds_123
    · have r_v_14 : RI v_14 0 0 := rc_eq1 r_v_14 rl_0 (ti_eq c_115) (by decide)
      refine lv_iconst (v := 1) hx hb dX10_holds_118 (by decide) ?_
      refine lv_goto (tgt := 123) hx hb dX10_holds_119 (by decide) ?_
      subst hQ
      exact W.zret (v := 1) hx hb hr (rfl) (fun t ht hW => ⟨⟨1, (), rfl, ⟨rl_1.to (by decide), (fun _ => trivial), (fun h0 => trivial)⟩, by rw [ht]; exact hw.2.1, va_K.moved hW.alike hK, hw.2.2.1⟩, hw.2.2.2.1.F ht⟩) hw.2.2.2.1.2.2 dX10_holds_123
  · by_cases k_34_2 : v_13 = 2
    · refine lv_lookup (tgt := 124) (off := 90) hx hb dX10_holds_34 (by decide) (by rw [k_34_2]; decide) (by decide) ?_
      have r_v_13 : RI v_13 2 2 := by rw [k_34_2]; exact rl_2
      have g_v_10 : 0 ≤ v_10.toInt ∧ v_10.toInt < p1.toInt := by obtain ⟨_, f9, e8, e7, q9, _⟩ := ax_of (k := 14) (t := 34) hw h_p0 rfl (fun _ => rfl); cases FLD.inj hw.2.2.1 e8 m_u_8; have t9 := ARR.ael hw.2.2.1 e7 m_v_13; have x9 := ARR.ael hw.2.2.1 e7 m_v_10; rw [show Int32.toNatClampNeg v_7 = 174 + 4 * Int32.toNatClampNeg p1 from (by have k1 := r_v_7.cl (by decide); have k2 := r_p1.cl (by decide); omega)] at t9; rw [show Int32.toNatClampNeg v_9 = 175 + 4 * Int32.toNatClampNeg p1 from (by have k1 := r_v_9.cl (by decide); have k2 := r_p1.cl (by decide); omega)] at x9; exact RN_child q9 (r_p1.to (by decide)) t9 x9 (r_v_13.to (by decide))
      have r_v_10 : RI v_10 0 38 := ⟨g_v_10.1, by have k1 := r_p1.2; omega⟩
      have g_v_12 : 0 ≤ v_12.toInt ∧ v_12.toInt < p1.toInt := by obtain ⟨_, f9, e8, e7, q9, _⟩ := ax_of (k := 14) (t := 34) hw h_p0 rfl (fun _ => rfl); cases FLD.inj hw.2.2.1 e8 m_u_8; have t9 := ARR.ael hw.2.2.1 e7 m_v_13; have x9 := ARR.ael hw.2.2.1 e7 m_v_12; rw [show Int32.toNatClampNeg v_7 = 174 + 4 * Int32.toNatClampNeg p1 from (by have k1 := r_v_7.cl (by decide); have k2 := r_p1.cl (by decide); omega)] at t9; rw [show Int32.toNatClampNeg v_11 = 176 + 4 * Int32.toNatClampNeg p1 from (by have k1 := r_v_11.cl (by decide); have k2 := r_p1.cl (by decide); omega)] at x9; exact RN_child2 q9 (r_p1.to (by decide)) t9 x9 (r_v_13.to (by decide))
      have r_v_12 : RI v_12 0 38 := ⟨g_v_12.1, by have k1 := r_p1.2; omega⟩
      refine lv_aload_n hx hb dX10_holds_124 rfl (lv_at hl 3 rfl) ?_
      refine lv_iload hx hb dX10_holds_125 (lv_at hl 1 rfl) ?_
      refine lv_iload_n hx hb dX10_holds_127 rfl (lv_at hl 5 rfl) ?_
      refine tk_ir (va_runV (As := [.int v_10, .int p2]) (rest := []) ⟨hx, hb, hml, hown, hts⟩ (c_X10_holds__21 l D cy z s.heap.size Ps w0 hw.1 p0 v_10 p2 h_p0 r_v_10 r_p2) (cwV 2 hts (gV tw_1787 tw_1789 ts_119 tw_15 tw_1790) rfl rfl rfl (by decide +kernel) ⟨Nat.le_of_ble_eq_true rfl, Nat.le_of_ble_eq_true rfl⟩) (tg_preV hw hK hSD hA (ci := 10) (q := (RX10, TX10, 49)) rfl h_p0 rfl) rfl rfl hl.1 rfl (lv_room (Nat.le_of_ble_eq_true rfl)) dX10_holds_128 ⟨Nat.le_of_ble_eq_true rfl, Nat.le_of_ble_eq_true rfl⟩) hw hA (fun v_15  H locs hp_v_15 hw => ?_)
      have r_v_15 : RI v_15 0 1 := hp_v_15.1
      refine lv_if_eq (tgt := 148) hx hb dX10_holds_131 (by decide) (fun c_131 => ?_) (fun c_131 => ?_)
      · have r_v_15 : RI v_15 0 0 := rc_eq1 r_v_15 rl_0 (ti_eq c_131) (by decide)
        refine lv_iconst (v := 0) hx hb dX10_holds_148 (by decide) ?_
        subst hQ
        exact W.zret (v := 0) hx hb hr (rfl) (fun t ht hW => ⟨⟨0, (), rfl, ⟨rl_0.to (by decide), (fun h0 => trivial), (fun _ => trivial)⟩, by rw [ht]; exact hw.2.1, va_K.moved hW.alike hK, hw.2.2.1⟩, hw.2.2.2.1.F ht⟩) hw.2.2.2.1.2.2 dX10_holds_149
      · have r_v_15 : RI v_15 1 1 := rc_neL r_v_15 rl_0 (ti_ne c_131) (by decide)
        refine lv_aload_n hx hb dX10_holds_134 rfl (lv_at hl 3 rfl) ?_
        refine lv_iload hx hb dX10_holds_135 (lv_at hl 0 rfl) ?_
        refine lv_iload_n hx hb dX10_holds_137 rfl (lv_at hl 5 rfl) ?_
        refine tk_ir (va_runV (As := [.int v_12, .int p2]) (rest := []) ⟨hx, hb, hml, hown, hts⟩ (c_X10_holds__21 l D cy z H.size Ps w0 hw.1 p0 v_12 p2 h_p0 r_v_12 r_p2) (cwV 2 hts (gV tw_1787 tw_1789 ts_119 tw_15 tw_1790) rfl rfl rfl (by decide +kernel) ⟨Nat.le_of_ble_eq_true rfl, Nat.le_of_ble_eq_true rfl⟩) (tg_preV hw hK hSD hA (ci := 10) (q := (RX10, TX10, 49)) rfl h_p0 rfl) rfl rfl hl.1 rfl (lv_room (Nat.le_of_ble_eq_true rfl)) dX10_holds_138 ⟨Nat.le_of_ble_eq_true rfl, Nat.le_of_ble_eq_true rfl⟩) hw hA (fun v_16  H locs hp_v_16 hw => ?_)
        have r_v_16 : RI v_16 0 1 := hp_v_16.1
        refine lv_if_eq (tgt := 148) hx hb dX10_holds_141 (by decide) (fun c_141 => ?_) (fun c_141 => ?_)
        · have r_v_16 : RI v_16 0 0 := rc_eq1 r_v_16 rl_0 (ti_eq c_141) (by decide)
          refine lv_iconst (v := 0) hx hb dX10_holds_148 (by decide) ?_
          subst hQ
          exact W.zret (v := 0) hx hb hr (rfl) (fun t ht hW => ⟨⟨0, (), rfl, ⟨rl_0.to (by decide), (fun h0 => trivial), (fun _ => trivial)⟩, by rw [ht]; exact hw.2.1, va_K.moved hW.alike hK, hw.2.2.1⟩, hw.2.2.2.1.F ht⟩) hw.2.2.2.1.2.2 dX10_holds_149
        · have r_v_16 : RI v_16 1 1 := rc_neL r_v_16 rl_0 (ti_ne c_141) (by decide)
          refine lv_iconst (v := 1) hx hb dX10_holds_144 (by decide) ?_
          refine lv_goto (tgt := 149) hx hb dX10_holds_145 (by decide) ?_
          subst hQ
          exact W.zret (v := 1) hx hb hr (rfl) (fun t ht hW => ⟨⟨1, (), rfl, ⟨rl_1.to (by decide), (fun _ => trivial), (fun h0 => trivial)⟩, by rw [ht]; exact hw.2.1, va_K.moved hW.alike hK, hw.2.2.1⟩, hw.2.2.2.1.F ht⟩) hw.2.2.2.1.2.2 dX10_holds_149
    · by_cases k_34_3 : v_13 = 3
      · refine lv_lookup (tgt := 150) (off := 116) hx hb dX10_holds_34 (by decide) (by rw [k_34_3]; decide) (by decide) ?_
        have r_v_13 : RI v_13 3 3 := by rw [k_34_3]; exact rl_3
        have g_v_10 : 0 ≤ v_10.toInt ∧ v_10.toInt < p1.toInt := by obtain ⟨_, f9, e8, e7, q9, _⟩ := ax_of (k := 14) (t := 34) hw h_p0 rfl (fun _ => rfl); cases FLD.inj hw.2.2.1 e8 m_u_8; have t9 := ARR.ael hw.2.2.1 e7 m_v_13; have x9 := ARR.ael hw.2.2.1 e7 m_v_10; rw [show Int32.toNatClampNeg v_7 = 174 + 4 * Int32.toNatClampNeg p1 from (by have k1 := r_v_7.cl (by decide); have k2 := r_p1.cl (by decide); omega)] at t9; rw [show Int32.toNatClampNeg v_9 = 175 + 4 * Int32.toNatClampNeg p1 from (by have k1 := r_v_9.cl (by decide); have k2 := r_p1.cl (by decide); omega)] at x9; exact RN_child q9 (r_p1.to (by decide)) t9 x9 (r_v_13.to (by decide))
        have r_v_10 : RI v_10 0 38 := ⟨g_v_10.1, by have k1 := r_p1.2; omega⟩
        have g_v_12 : 0 ≤ v_12.toInt ∧ v_12.toInt < p1.toInt := by obtain ⟨_, f9, e8, e7, q9, _⟩ := ax_of (k := 14) (t := 34) hw h_p0 rfl (fun _ => rfl); cases FLD.inj hw.2.2.1 e8 m_u_8; have t9 := ARR.ael hw.2.2.1 e7 m_v_13; have x9 := ARR.ael hw.2.2.1 e7 m_v_12; rw [show Int32.toNatClampNeg v_7 = 174 + 4 * Int32.toNatClampNeg p1 from (by have k1 := r_v_7.cl (by decide); have k2 := r_p1.cl (by decide); omega)] at t9; rw [show Int32.toNatClampNeg v_11 = 176 + 4 * Int32.toNatClampNeg p1 from (by have k1 := r_v_11.cl (by decide); have k2 := r_p1.cl (by decide); omega)] at x9; exact RN_child2 q9 (r_p1.to (by decide)) t9 x9 (r_v_13.to (by decide))
        have r_v_12 : RI v_12 0 38 := ⟨g_v_12.1, by have k1 := r_p1.2; omega⟩
        refine lv_aload_n hx hb dX10_holds_150 rfl (lv_at hl 3 rfl) ?_
        refine lv_iload hx hb dX10_holds_151 (lv_at hl 1 rfl) ?_
        refine lv_iload_n hx hb dX10_holds_153 rfl (lv_at hl 5 rfl) ?_
        refine tk_ir (va_runV (As := [.int v_10, .int p2]) (rest := []) ⟨hx, hb, hml, hown, hts⟩ (c_X10_holds__21 l D cy z s.heap.size Ps w0 hw.1 p0 v_10 p2 h_p0 r_v_10 r_p2) (cwV 2 hts (gV tw_1787 tw_1789 ts_119 tw_15 tw_1790) rfl rfl rfl (by decide +kernel) ⟨Nat.le_of_ble_eq_true rfl, Nat.le_of_ble_eq_true rfl⟩) (tg_preV hw hK hSD hA (ci := 10) (q := (RX10, TX10, 49)) rfl h_p0 rfl) rfl rfl hl.1 rfl (lv_room (Nat.le_of_ble_eq_true rfl)) dX10_holds_154 ⟨Nat.le_of_ble_eq_true rfl, Nat.le_of_ble_eq_true rfl⟩) hw hA (fun v_17  H locs hp_v_17 hw => ?_)
        have r_v_17 : RI v_17 0 1 := hp_v_17.1
        refine lv_if_ne (tgt := 170) hx hb dX10_holds_157 (by decide) (fun c_157 => ?_) (fun c_157 => ?_)
        · have r_v_17 : RI v_17 1 1 := rc_neL r_v_17 rl_0 (ti_ne c_157) (by decide)
          refine lv_iconst (v := 1) hx hb dX10_holds_170 (by decide) ?_
          refine lv_goto (tgt := 175) hx hb dX10_holds_171 (by decide) ?_
          subst hQ
          exact W.zret (v := 1) hx hb hr (rfl) (fun t ht hW => ⟨⟨1, (), rfl, ⟨rl_1.to (by decide), (fun _ => trivial), (fun h0 => trivial)⟩, by rw [ht]; exact hw.2.1, va_K.moved hW.alike hK, hw.2.2.1⟩, hw.2.2.2.1.F ht⟩) hw.2.2.2.1.2.2 dX10_holds_175
        · have r_v_17 : RI v_17 0 0 := rc_eq1 r_v_17 rl_0 (ti_eq c_157) (by decide)
          refine lv_aload_n hx hb dX10_holds_160 rfl (lv_at hl 3 rfl) ?_
          refine lv_iload hx hb dX10_holds_161 (lv_at hl 0 rfl) ?_
          refine lv_iload_n hx hb dX10_holds_163 rfl (lv_at hl 5 rfl) ?_
          refine tk_ir (va_runV (As := [.int v_12, .int p2]) (rest := []) ⟨hx, hb, hml, hown, hts⟩ (c_X10_holds__21 l D cy z H.size Ps w0 hw.1 p0 v_12 p2 h_p0 r_v_12 r_p2) (cwV 2 hts (gV tw_1787 tw_1789 ts_119 tw_15 tw_1790) rfl rfl rfl (by decide +kernel) ⟨Nat.le_of_ble_eq_true rfl, Nat.le_of_ble_eq_true rfl⟩) (tg_preV hw hK hSD hA (ci := 10) (q := (RX10, TX10, 49)) rfl h_p0 rfl) rfl rfl hl.1 rfl (lv_room (Nat.le_of_ble_eq_true rfl)) dX10_holds_164 ⟨Nat.le_of_ble_eq_true rfl, Nat.le_of_ble_eq_true rfl⟩) hw hA (fun v_18  H locs hp_v_18 hw => ?_)
          have r_v_18 : RI v_18 0 1 := hp_v_18.1
          refine lv_if_eq (tgt := 174) hx hb dX10_holds_167 (by decide) (fun c_167 => ?_) (fun c_167 => ?_)
          · have r_v_18 : RI v_18 0 0 := rc_eq1 r_v_18 rl_0 (ti_eq c_167) (by decide)
            refine lv_iconst (v := 0) hx hb dX10_holds_174 (by decide) ?_
            subst hQ
            exact W.zret (v := 0) hx hb hr (rfl) (fun t ht hW => ⟨⟨0, (), rfl, ⟨rl_0.to (by decide), (fun h0 => trivial), (fun _ => trivial)⟩, by rw [ht]; exact hw.2.1, va_K.moved hW.alike hK, hw.2.2.1⟩, hw.2.2.2.1.F ht⟩) hw.2.2.2.1.2.2 dX10_holds_175
          · have r_v_18 : RI v_18 1 1 := rc_neL r_v_18 rl_0 (ti_ne c_167) (by decide)
            refine lv_iconst (v := 1) hx hb dX10_holds_170 (by decide) ?_
            refine lv_goto (tgt := 175) hx hb dX10_holds_171 (by decide) ?_
            subst hQ
            exact W.zret (v := 1) hx hb hr (rfl) (fun t ht hW => ⟨⟨1, (), rfl, ⟨rl_1.to (by decide), (fun _ => trivial), (fun h0 => trivial)⟩, by rw [ht]; exact hw.2.1, va_K.moved hW.alike hK, hw.2.2.1⟩, hw.2.2.2.1.F ht⟩) hw.2.2.2.1.2.2 dX10_holds_175
      · by_cases k_34_69 : v_13 = 69
        · refine lv_lookup (tgt := 176) (off := 142) hx hb dX10_holds_34 (by decide) (by rw [k_34_69]; decide) (by decide) ?_
          have r_v_13 : RI v_13 69 69 := by rw [k_34_69]; exact rl_69
          refine lv_aload_n hx hb dX10_holds_176 rfl (lv_at hl 3 rfl) ?_
          refine lv_iload_n hx hb dX10_holds_177 rfl (lv_at hl 5 rfl) ?_
          refine tk_ir (va_runV (As := [.int p2]) (rest := []) ⟨hx, hb, hml, hown, hts⟩ (c_X10_isOpen l D cy z s.heap.size Ps w0 hw.1 p0 p2 h_p0 (r_p2.to (by decide))) (cwV 1 hts (gV tw_1457 tw_1459 ts_71 tw_15 tw_1460) rfl rfl rfl (by decide +kernel) ⟨Nat.le_of_ble_eq_true rfl, Nat.le_of_ble_eq_true rfl⟩) (tg_preV hw hK hSD hA (ci := 10) (q := (RX10, TX10, 49)) rfl h_p0 rfl) rfl rfl hl.1 rfl (lv_room (Nat.le_of_ble_eq_true rfl)) dX10_holds_178 ⟨Nat.le_of_ble_eq_true rfl, Nat.le_of_ble_eq_true rfl⟩) hw hA (fun v_19  H locs hp_v_19 hw => ?_)
          have r_v_19 : RI v_19 0 1 := hp_v_19.1
          subst hQ
          exact W.zret (v := v_19) hx hb hr (tq_nz (r_v_19.to (by decide))) (fun t ht hW => ⟨⟨v_19, (), rfl, ⟨r_v_19.to (by decide), (fun h0 => trivial), (fun h0 => trivial)⟩, by rw [ht]; exact hw.2.1, va_K.moved hW.alike hK, hw.2.2.1⟩, hw.2.2.2.1.F ht⟩) hw.2.2.2.1.2.2 dX10_holds_181
        · by_cases k_34_70 : v_13 = 70
          · refine lv_lookup (tgt := 182) (off := 148) hx hb dX10_holds_34 (by decide) (by rw [k_34_70]; decide) (by decide) ?_
            have r_v_13 : RI v_13 70 70 := by rw [k_34_70]; exact rl_70
            refine lv_aload_n hx hb dX10_holds_182 rfl (lv_at hl 3 rfl) ?_
            refine lv_iload_n hx hb dX10_holds_183 rfl (lv_at hl 5 rfl) ?_
            refine tk_ir (va_runV (As := [.int p2]) (rest := []) ⟨hx, hb, hml, hown, hts⟩ (c_X10_whatIs l D cy z s.heap.size Ps w0 hw.1 p0 p2 h_p0 r_p2) (cwV 1 hts (gV tw_1449 tw_1451 ts_69 tw_15 tw_1452) rfl rfl rfl (by decide +kernel) ⟨Nat.le_of_ble_eq_true rfl, Nat.le_of_ble_eq_true rfl⟩) (tg_preV hw hK hSD hA (ci := 10) (q := (RX10, TX10, 49)) rfl h_p0 rfl) rfl rfl hl.1 rfl (lv_room (Nat.le_of_ble_eq_true rfl)) dX10_holds_184 ⟨Nat.le_of_ble_eq_true rfl, Nat.le_of_ble_eq_true rfl⟩) hw hA (fun v_20  H locs hp_v_20 hw => ?_)
            have r_v_20 : RI v_20 (-1) 5 := hp_v_20.1
            by_cases c9_v_20 : v_20.toInt < 0
            · have r_v_20 : RI v_20 (-1) (-1) := by unfold RI at r_v_20 ⊢; omega
              have x_NB_p0_p2 := (hp_v_20.2.2.2.2.1 (by omega)).1
              refine lv_iconst (v := (-1)) hx hb dX10_holds_187 (by decide) ?_
              refine lv_icmp_ne (tgt := 195) hx hb dX10_holds_188 (by decide) (fun c_188 => ?_) (fun c_188 => ?_)
              · exact absurd (r_v_20.eq.trans rl_m1.eq.symm) ((ti_ne c_188))
              · refine lv_iconst (v := 1) hx hb dX10_holds_191 (by decide) ?_
                refine lv_goto (tgt := 196) hx hb dX10_holds_192 (by decide) ?_
                subst hQ
                exact W.zret (v := 1) hx hb hr (rfl) (fun t ht hW => ⟨⟨1, (), rfl, ⟨rl_1.to (by decide), (fun _ => trivial), (fun h0 => trivial)⟩, by rw [ht]; exact hw.2.1, va_K.moved hW.alike hK, hw.2.2.1⟩, hw.2.2.2.1.F ht⟩) hw.2.2.2.1.2.2 dX10_holds_196
            · have r_v_20 : RI v_20 0 5 := by unfold RI at r_v_20 ⊢; omega
              have x_WB_p0_p2_v_20 := (hp_v_20.2.2.2.2.2 (by omega)).1
              refine lv_iconst (v := (-1)) hx hb dX10_holds_187 (by decide) ?_
              refine lv_icmp_ne (tgt := 195) hx hb dX10_holds_188 (by decide) (fun c_188 => ?_) (fun c_188 => ?_)
              · refine lv_iconst (v := 0) hx hb dX10_holds_195 (by decide) ?_
                subst hQ
                exact W.zret (v := 0) hx hb hr (rfl) (fun t ht hW => ⟨⟨0, (), rfl, ⟨rl_0.to (by decide), (fun h0 => trivial), (fun _ => trivial)⟩, by rw [ht]; exact hw.2.1, va_K.moved hW.alike hK, hw.2.2.1⟩, hw.2.2.2.1.F ht⟩) hw.2.2.2.1.2.2 dX10_holds_196
              · have r_v_20 : RI v_20 0 (-1) := rc_eq1 r_v_20 rl_m1 (ti_eq c_188) (by decide)
                exact (r_v_20.no (by decide)).elim
          · by_cases k_34_71 : v_13 = 71
            · refine lv_lookup (tgt := 197) (off := 163) hx hb dX10_holds_34 (by decide) (by rw [k_34_71]; decide) (by decide) ?_
              have r_v_13 : RI v_13 71 71 := by rw [k_34_71]; exact rl_71
              refine lv_aload_n hx hb dX10_holds_197 rfl (lv_at hl 3 rfl) ?_
              refine lv_iload_n hx hb dX10_holds_198 rfl (lv_at hl 5 rfl) ?_
              refine tk_ir (va_runV (As := [.int p2]) (rest := []) ⟨hx, hb, hml, hown, hts⟩ (c_X10_sittersOf l D cy z s.heap.size Ps w0 hw.1 p0 p2 h_p0 (r_p2.to (by decide))) (cwV 1 hts (gV tw_1461 tw_1463 ts_72 tw_15 tw_1464) rfl rfl rfl (by decide +kernel) ⟨Nat.le_of_ble_eq_true rfl, Nat.le_of_ble_eq_true rfl⟩) (tg_preV hw hK hSD hA (ci := 10) (q := (RX10, TX10, 49)) rfl h_p0 rfl) rfl rfl hl.1 rfl (lv_room (Nat.le_of_ble_eq_true rfl)) dX10_holds_199 ⟨Nat.le_of_ble_eq_true rfl, Nat.le_of_ble_eq_true rfl⟩) hw hA (fun v_21  H locs hp_v_21 hw => ?_)
              have r_v_21 : RI v_21 (-2147483648) 2147483647 := hp_v_21.1
              refine lv_if_eq (tgt := 209) hx hb dX10_holds_202 (by decide) (fun c_202 => ?_) (fun c_202 => ?_)
              · have r_v_21 : RI v_21 0 0 := rc_eq1 r_v_21 rl_0 (ti_eq c_202) (by decide)
                refine lv_iconst (v := 0) hx hb dX10_holds_209 (by decide) ?_
                subst hQ
                exact W.zret (v := 0) hx hb hr (rfl) (fun t ht hW => ⟨⟨0, (), rfl, ⟨rl_0.to (by decide), (fun h0 => trivial), (fun _ => trivial)⟩, by rw [ht]; exact hw.2.1, va_K.moved hW.alike hK, hw.2.2.1⟩, hw.2.2.2.1.F ht⟩) hw.2.2.2.1.2.2 dX10_holds_210
              · refine lv_iconst (v := 1) hx hb dX10_holds_205 (by decide) ?_
                refine lv_goto (tgt := 210) hx hb dX10_holds_206 (by decide) ?_
                subst hQ
                exact W.zret (v := 1) hx hb hr (rfl) (fun t ht hW => ⟨⟨1, (), rfl, ⟨rl_1.to (by decide), (fun _ => trivial), (fun h0 => trivial)⟩, by rw [ht]; exact hw.2.1, va_K.moved hW.alike hK, hw.2.2.1⟩, hw.2.2.2.1.F ht⟩) hw.2.2.2.1.2.2 dX10_holds_210
            · by_cases k_34_72 : v_13 = 72
              · refine lv_lookup (tgt := 211) (off := 177) hx hb dX10_holds_34 (by decide) (by rw [k_34_72]; decide) (by decide) ?_
                have r_v_13 : RI v_13 72 72 := by rw [k_34_72]; exact rl_72
                refine lv_aload_n hx hb dX10_holds_211 rfl (lv_at hl 3 rfl) ?_
                refine lv_iload_n hx hb dX10_holds_212 rfl (lv_at hl 5 rfl) ?_
                refine tk_ir (va_runV (As := [.int p2]) (rest := []) ⟨hx, hb, hml, hown, hts⟩ (c_X10_whatIs l D cy z s.heap.size Ps w0 hw.1 p0 p2 h_p0 r_p2) (cwV 1 hts (gV tw_1449 tw_1451 ts_69 tw_15 tw_1452) rfl rfl rfl (by decide +kernel) ⟨Nat.le_of_ble_eq_true rfl, Nat.le_of_ble_eq_true rfl⟩) (tg_preV hw hK hSD hA (ci := 10) (q := (RX10, TX10, 49)) rfl h_p0 rfl) rfl rfl hl.1 rfl (lv_room (Nat.le_of_ble_eq_true rfl)) dX10_holds_213 ⟨Nat.le_of_ble_eq_true rfl, Nat.le_of_ble_eq_true rfl⟩) hw hA (fun v_22  H locs hp_v_22 hw => ?_)
                have r_v_22 : RI v_22 (-1) 5 := hp_v_22.1
                by_cases c9_v_22 : v_22.toInt < 0
                · have r_v_22 : RI v_22 (-1) (-1) := by unfold RI at r_v_22 ⊢; omega
                  have x_NB_p0_p2 := (hp_v_22.2.2.2.2.1 (by omega)).1
                  refine lv_iload hx hb dX10_holds_216 (lv_at hl 1 rfl) ?_
                  refine lv_icmp_ne (tgt := 225) hx hb dX10_holds_218 (by decide) (fun c_218 => ?_) (fun c_218 => ?_)
                  · refine lv_iconst (v := 0) hx hb dX10_holds_225 (by decide) ?_
                    subst hQ
                    exact W.zret (v := 0) hx hb hr (rfl) (fun t ht hW => ⟨⟨0, (), rfl, ⟨rl_0.to (by decide), (fun h0 => trivial), (fun _ => trivial)⟩, by rw [ht]; exact hw.2.1, va_K.moved hW.alike hK, hw.2.2.1⟩, hw.2.2.2.1.F ht⟩) hw.2.2.2.1.2.2 dX10_holds_226
                  · have r_v_10 : RI v_10 (-1) (-1) := rc_eq2 r_v_22 r_v_10 (ti_eq c_218) (by decide)
                    refine lv_iconst (v := 1) hx hb dX10_holds_221 (by decide) ?_
                    refine lv_goto (tgt := 226) hx hb dX10_holds_222 (by decide) ?_
                    subst hQ
                    exact W.zret (v := 1) hx hb hr (rfl) (fun t ht hW => ⟨⟨1, (), rfl, ⟨rl_1.to (by decide), (fun _ => trivial), (fun h0 => trivial)⟩, by rw [ht]; exact hw.2.1, va_K.moved hW.alike hK, hw.2.2.1⟩, hw.2.2.2.1.F ht⟩) hw.2.2.2.1.2.2 dX10_holds_226
                · have r_v_22 : RI v_22 0 5 := by unfold RI at r_v_22 ⊢; omega
                  have x_WB_p0_p2_v_22 := (hp_v_22.2.2.2.2.2 (by omega)).1
                  refine lv_iload hx hb dX10_holds_216 (lv_at hl 1 rfl) ?_
                  refine lv_icmp_ne (tgt := 225) hx hb dX10_holds_218 (by decide) (fun c_218 => ?_) (fun c_218 => ?_)
                  · refine lv_iconst (v := 0) hx hb dX10_holds_225 (by decide) ?_
                    subst hQ
                    exact W.zret (v := 0) hx hb hr (rfl) (fun t ht hW => ⟨⟨0, (), rfl, ⟨rl_0.to (by decide), (fun h0 => trivial), (fun _ => trivial)⟩, by rw [ht]; exact hw.2.1, va_K.moved hW.alike hK, hw.2.2.1⟩, hw.2.2.2.1.F ht⟩) hw.2.2.2.1.2.2 dX10_holds_226
                  · have r_v_10 : RI v_10 0 5 := rc_eq2 r_v_22 r_v_10 (ti_eq c_218) (by decide)
                    refine lv_iconst (v := 1) hx hb dX10_holds_221 (by decide) ?_
                    refine lv_goto (tgt := 226) hx hb dX10_holds_222 (by decide) ?_
                    subst hQ
                    exact W.zret (v := 1) hx hb hr (rfl) (fun t ht hW => ⟨⟨1, (), rfl, ⟨rl_1.to (by decide), (fun _ => trivial), (fun h0 => trivial)⟩, by rw [ht]; exact hw.2.1, va_K.moved hW.alike hK, hw.2.2.1⟩, hw.2.2.2.1.F ht⟩) hw.2.2.2.1.2.2 dX10_holds_226
              · by_cases k_34_73 : v_13 = 73
                · refine lv_lookup (tgt := 227) (off := 193) hx hb dX10_holds_34 (by decide) (by rw [k_34_73]; decide) (by decide) ?_
                  have r_v_13 : RI v_13 73 73 := by rw [k_34_73]; exact rl_73
                  refine lv_aload_n hx hb dX10_holds_227 rfl (lv_at hl 3 rfl) ?_
                  refine tg_mem (ci := 10) (C := RX10) (T := TX10) (N := 49) hx hb hts inX10 hown hK hw 14 m_u_8 rfl (by decide) (hts _ tw_1151) (fun _ h9 => h9) dX10_holds_228 ?_
                  refine lv_bipush (v := 86) hx hb dX10_holds_231 (by decide) ?_
                  refine lv_iload_n hx hb dX10_holds_233 rfl (lv_at hl 5 rfl) ?_
                  refine lv_iadd hx hb dX10_holds_234 (lv_topi (fun v_23 e_v_23 => ?_))
                  obtain ⟨t_v_23, r_v_23⟩ := tq_add (lo := 86) (hi := 91) rl_86 r_p2 (by decide +kernel) e_v_23
                  have t_v_23 : v_23.toInt = 86 + p2.toInt := t_v_23
                  refine tg_iald (lo := (-2147483648)) (hi := 2147483647) hx hb hK hw h_vu_8 rfl 86 91 r_v_23 (by decide) (by decide +kernel) dX10_holds_235 (fun v_24 r_v_24 m_v_24 o_v_24 => ?_)
                  refine lv_iload hx hb dX10_holds_236 (lv_at hl 1 rfl) ?_
                  refine lv_icmp_ne (tgt := 245) hx hb dX10_holds_238 (by decide) (fun c_238 => ?_) (fun c_238 => ?_)
                  · refine lv_iconst (v := 0) hx hb dX10_holds_245 (by decide) ?_
                    subst hQ
                    exact W.zret (v := 0) hx hb hr (rfl) (fun t ht hW => ⟨⟨0, (), rfl, ⟨rl_0.to (by decide), (fun h0 => trivial), (fun _ => trivial)⟩, by rw [ht]; exact hw.2.1, va_K.moved hW.alike hK, hw.2.2.1⟩, hw.2.2.2.1.F ht⟩) hw.2.2.2.1.2.2 dX10_holds_246
                  · refine lv_iconst (v := 1) hx hb dX10_holds_241 (by decide) ?_
                    refine lv_goto (tgt := 246) hx hb dX10_holds_242 (by decide) ?_
                    subst hQ
                    exact W.zret (v := 1) hx hb hr (rfl) (fun t ht hW => ⟨⟨1, (), rfl, ⟨rl_1.to (by decide), (fun _ => trivial), (fun h0 => trivial)⟩, by rw [ht]; exact hw.2.1, va_K.moved hW.alike hK, hw.2.2.1⟩, hw.2.2.2.1.F ht⟩) hw.2.2.2.1.2.2 dX10_holds_246
                · refine lv_lookup (tgt := 247) (off := 213) hx hb dX10_holds_34 (by decide) ((lv_osw k_34_1 (by decide)).trans ((lv_osw k_34_2 (by decide)).trans ((lv_osw k_34_3 (by decide)).trans ((lv_osw k_34_69 (by decide)).trans ((lv_osw k_34_70 (by decide)).trans ((lv_osw k_34_71 (by decide)).trans ((lv_osw k_34_72 (by decide)).trans ((lv_osw k_34_73 (by decide)).trans (rfl))))))))) (by decide) ?_
                  refine lv_aload_n hx hb dX10_holds_247 rfl (lv_at hl 3 rfl) ?_
                  refine tg_mem (ci := 10) (C := RX10) (T := TX10) (N := 49) hx hb hts inX10 hown hK hw 14 m_u_8 rfl (by decide) (hts _ tw_1151) (fun _ h9 => h9) dX10_holds_248 ?_
                  refine lv_iload_n hx hb dX10_holds_251 rfl (lv_at hl 2 rfl) ?_
                  refine tg_imem hx hb hK hw h_vu_8 rfl r_v_7 (by decide) m_v_13 dX10_holds_252 ?_
                  refine lv_bipush (v := 50) hx hb dX10_holds_253 (by decide) ?_
                  refine lv_isub hx hb dX10_holds_255 (lv_topi (fun v_26 e_v_26 => ?_))
                  have r_v_26 := ri_any v_26
                  refine lv_istore (lv' := [(6, .int v_26), (5, .int v_12), (4, .int v_10), (3, .int v_7), (0, .ref p0), (1, .int p1), (2, .int p2)]) hx hb dX10_holds_256 hl (by decide) rfl (fun ls hl => ?_)
                  refine lv_iload hx hb dX10_holds_258 (lv_at hl 0 rfl) ?_
                  refine lv_bipush (v := 24) hx hb dX10_holds_260 (by decide) ?_
                  refine lv_icmp_ne (tgt := 273) hx hb dX10_holds_262 (by decide) (fun c_262 => ?_) (fun c_262 => ?_)
                  · refine lv_iload hx hb dX10_holds_273 (lv_at hl 0 rfl) ?_
                    refine lv_bipush (v := 25) hx hb dX10_holds_275 (by decide) ?_
                    refine lv_icmp_ne (tgt := 292) hx hb dX10_holds_277 (by decide) (fun c_277 => ?_) (fun c_277 => ?_)
                    · refine lv_iload hx hb dX10_holds_292 (lv_at hl 0 rfl) ?_
                      refine lv_bipush (v := 26) hx hb dX10_holds_294 (by decide) ?_
                      refine lv_icmp_ne (tgt := 311) hx hb dX10_holds_296 (by decide) (fun c_296 => ?_) (fun c_296 => ?_)
                      · refine lv_iload_n hx hb dX10_holds_311 rfl (lv_at hl 6 rfl) ?_
                        exact B312 v_7 v_10 v_12 v_26 p2 _ _ ls r_p1 r_p2 r_v_7 r_v_10 r_v_12 r_v_26 (r_p2.to (by decide)) hw (lv_sub hl [4, 5, 6, 3, 2, 1, 0] rfl)
                      · have r_v_26 : RI v_26 26 26 := rc_eq1 r_v_26 rl_26 (ti_eq c_296) (by decide)
                        refine lv_aload_n hx hb dX10_holds_299 rfl (lv_at hl 4 rfl) ?_
                        refine tg_mem (ci := 10) (C := RX10) (T := TX10) (N := 49) hx hb hts inX10 hown hK hw 14 m_u_8 rfl (by decide) (hts _ tw_1151) (fun _ h9 => h9) dX10_holds_300 ?_
                        refine lv_bipush (v := 98) hx hb dX10_holds_303 (by decide) ?_
                        refine lv_iload_n hx hb dX10_holds_305 rfl (lv_at hl 6 rfl) ?_
                        refine lv_iadd hx hb dX10_holds_306 (lv_topi (fun v_27 e_v_27 => ?_))
                        obtain ⟨t_v_27, r_v_27⟩ := tq_add (lo := 98) (hi := 103) rl_98 r_p2 (by decide +kernel) e_v_27
                        have t_v_27 : v_27.toInt = 98 + p2.toInt := t_v_27
                        refine tg_iald (lo := (-2147483648)) (hi := 2147483647) hx hb hK hw h_vu_8 rfl 98 103 r_v_27 (by decide) (by decide +kernel) dX10_holds_307 (fun v_28 r_v_28 m_v_28 o_v_28 => ?_)
                        refine lv_goto (tgt := 312) hx hb dX10_holds_308 (by decide) ?_
                        exact B312 v_7 v_10 v_12 v_26 v_28 _ _ ls r_p1 r_p2 r_v_7 r_v_10 r_v_12 (r_v_26.to (by decide)) r_v_28 hw (lv_sub hl [4, 5, 6, 3, 2, 1, 0] rfl)
                    · have r_v_26 : RI v_26 25 25 := rc_eq1 r_v_26 rl_25 (ti_eq c_277) (by decide)
                      refine lv_aload_n hx hb dX10_holds_280 rfl (lv_at hl 4 rfl) ?_
                      refine tg_mem (ci := 10) (C := RX10) (T := TX10) (N := 49) hx hb hts inX10 hown hK hw 14 m_u_8 rfl (by decide) (hts _ tw_1151) (fun _ h9 => h9) dX10_holds_281 ?_
                      refine lv_bipush (v := 92) hx hb dX10_holds_284 (by decide) ?_
                      refine lv_iload_n hx hb dX10_holds_286 rfl (lv_at hl 6 rfl) ?_
                      refine lv_iadd hx hb dX10_holds_287 (lv_topi (fun v_29 e_v_29 => ?_))
                      obtain ⟨t_v_29, r_v_29⟩ := tq_add (lo := 92) (hi := 97) rl_92 r_p2 (by decide +kernel) e_v_29
                      have t_v_29 : v_29.toInt = 92 + p2.toInt := t_v_29
                      refine tg_iald (lo := (-2147483648)) (hi := 2147483647) hx hb hK hw h_vu_8 rfl 92 97 r_v_29 (by decide) (by decide +kernel) dX10_holds_288 (fun v_30 r_v_30 m_v_30 o_v_30 => ?_)
                      refine lv_goto (tgt := 312) hx hb dX10_holds_289 (by decide) ?_
                      exact B312 v_7 v_10 v_12 v_26 v_30 _ _ ls r_p1 r_p2 r_v_7 r_v_10 r_v_12 (r_v_26.to (by decide)) r_v_30 hw (lv_sub hl [4, 5, 6, 3, 2, 1, 0] rfl)
                  · have r_v_26 : RI v_26 24 24 := rc_eq1 r_v_26 rl_24 (ti_eq c_262) (by decide)
                    refine lv_aload_n hx hb dX10_holds_265 rfl (lv_at hl 4 rfl) ?_
                    refine lv_iload_n hx hb dX10_holds_266 rfl (lv_at hl 6 rfl) ?_
                    refine tk_ir (va_runV (As := [.int p2]) (rest := []) ⟨hx, hb, hml, hown, hts⟩ (c_X10_sizeOf l D cy z s.heap.size Ps w0 hw.1 p0 p2 h_p0 r_p2) (cwV 1 hts (gV tw_1453 tw_1455 ts_70 tw_15 tw_1456) rfl rfl rfl (by decide +kernel) ⟨Nat.le_of_ble_eq_true rfl, Nat.le_of_ble_eq_true rfl⟩) (tg_preV hw hK hSD hA (ci := 10) (q := (RX10, TX10, 49)) rfl h_p0 rfl) rfl rfl hl.1 rfl (lv_room (Nat.le_of_ble_eq_true rfl)) dX10_holds_267 ⟨Nat.le_of_ble_eq_true rfl, Nat.le_of_ble_eq_true rfl⟩) hw hA (fun v_31  H locs hp_v_31 hw => ?_)
                    have r_v_31 : RI v_31 (-2147483648) 2147483647 := hp_v_31.1
                    refine lv_goto (tgt := 312) hx hb dX10_holds_270 (by decide) ?_
                    exact B312 v_7 v_10 v_12 v_26 v_31 _ _ ls r_p1 r_p2 r_v_7 r_v_10 r_v_12 (r_v_26.to (by decide)) r_v_31 hw (lv_sub hl [4, 5, 6, 3, 2, 1, 0] rfl)
abbrev wr_X10_holds__19 : List (Nat × Nat) := []
abbrev wa_X10_holds__19 : List Nat := []
set_option maxHeartbeats 4000000 in
set_option maxRecDepth 100000 in
theorem c_X10_holds__19 (l : Launch) (D : va_G) (cy : Nat → ClassId) (z : Nat → Nat) (sz : Nat) (Ps : PSI) (w0 : va_W) (hT : HT cy GG Ps w0) (p0 : Nat) (p1 : Int32) (p2 : Int32) (h_p0 : (p0, 55) ∈ Ps) (r_p1 : RI p1 0 40) (r_p2 : RI p2 0 5) : Met l yX10_holds (Cond.code yX10_holds cX10_holds 8 (some .boolean) :: gT) ({ frames := 43, cells := 0, slots := 0, locals := 8600 } : Room) (va_Pc [.ref p0, .int p1, .int p2] (PRE D cy z w0 sz)) (va_Qi (fun (r : Int32) (u : Unit) => RI r 0 1 ∧ (r = 0 → True) ∧ (¬ r = 0 → True)) (BB D cy (va_A w0 sz) (fun (u : Unit) => w0)) (va_A w0 sz)) 0 0 (va_A w0 sz) := by
  refine Met.ofW (cc := cX10_holds) (maxL := 8) (ret := (some .boolean)) (by decide) rfl ?_
  intro p e s m args below meth c s₁ B hml hv
  obtain ⟨rfl, hsz, hP, hK, hD0, hSD⟩ := hv
  have hx := B.exec
  have hb := B.bytes
  have hr := B.returns
  have hlocks := B.notSynchronized
  have hts : ∀ w ∈ gT, w.before _ s = true := fun w h => atoms_spec (ws := Cond.code yX10_holds cX10_holds 8 (some .boolean) :: gT) B.pre w (List.mem_cons_of_mem _ h)
  have hown : s.vm.findClass RX10 = some m.cls := findClass_of_methodNamed B.named
  subst hsz
  have hD := hD0.self (sz := s.heap.size)
  generalize hAe : va_A w0 s.heap.size = A at hD hSD ⊢
  have hA : ∀ q : Nat, s.heap.size ≤ q → A q := fun q h => by rw [← hAe]; exact Or.inr h
  have hl := lv_entry ([.ref p0, .int p1, .int p2]) (n := 8) (Nat.le_of_ble_eq_true rfl)
  rw [lg_entry_eq]
  generalize (lg_sl ([.ref p0, .int p1, .int p2]) ++ List.replicate (8 - (lg_sl ([.ref p0, .int p1, .int p2])).length) Slot.unset).toArray = ls at hl ⊢
  have hl : lv_has ls 8 [(0, .ref p0), (1, .int p1), (2, .int p2)] := hl
  refine nameQ (fun Q hQ => ?_)
  have hw : WD D cy GG A s wr_X10_holds__19 wa_X10_holds__19 Ps w0 Ps w0 s.heap [] := ⟨hT, hP, hD, va_S.rf, FR.rf, hT.1, [], (List.append_nil _).symm⟩
  have B312 : ∀ (x3 : Int32) (x4 : Int32) (x5 : Int32) (x6 : Int32) (y0 : Int32) (H : Heap) (locs : List Loc) (ls : Array Slot), RI p1 0 40 → RI p2 0 5 → RI x3 174 334 → RI x4 (-2147483648) 2147483647 → RI x5 (-2147483648) 2147483647 → RI x6 (-2147483648) 2147483647 → RI y0 (-2147483648) 2147483647 → WD D cy GG A s wr_X10_holds__19 wa_X10_holds__19 Ps w0 Ps w0 H locs → lv_has ls 8 [(0, .ref p0), (1, .int p1), (2, .int p2), (3, .int x3), (4, .int x4), (5, .int x5), (6, .int x6)] → W p l e (headSpec (Cond.code yX10_holds cX10_holds 8 (some .boolean) :: gT) ({ frames := 43, cells := 0, slots := 0, locals := 8600 } : Room)).room s m ([.ref p0, .int p1, .int p2] : List Value).toArray below meth c H locs 0 0 Q (F0 m 312 ls [.int y0]) := by
    intro x3 x4 x5 x6 y0 H locs ls r_p1 r_p2 r_x3 r_x4 r_x5 r_x6 r_y0 hw hl
    refine lv_istore (lv' := [(7, .int y0), (0, .ref p0), (1, .int p1), (2, .int p2), (3, .int x3), (4, .int x4), (5, .int x5), (6, .int x6)]) hx hb dX10_holds_312 hl (by decide) rfl (fun ls hl => ?_)
    refine lv_aload_n hx hb dX10_holds_314 rfl (lv_at hl 1 rfl) ?_
    refine tg_get (ci := 10) (ts := ty_MODEL) (C := RX10) (T := TX10) (N := 49) hx hb hts inX10 hown hK hw h_p0 rfl rfl 14 (by decide) (hts _ tw_1151) (fun _ h9 => h9) (ft := vR 34) rfl dX10_holds_315 (fun u_1 hv_u_1 m_u_1 => ?_)
    obtain ⟨vu_1, rfl, h_vu_1⟩ := hv_u_1
    refine lv_iload_n hx hb dX10_holds_318 rfl (lv_at hl 4 rfl) ?_
    refine lv_iconst (v := 3) hx hb dX10_holds_319 (by decide) ?_
    refine lv_iadd hx hb dX10_holds_320 (lv_topi (fun v_2 e_v_2 => ?_))
    obtain ⟨t_v_2, r_v_2⟩ := tq_add (lo := 177) (hi := 337) r_x3 rl_3 (by decide +kernel) e_v_2
    have t_v_2 : v_2.toInt = x3.toInt + 3 := t_v_2
    refine tg_iald (lo := (-2147483648)) (hi := 2147483647) hx hb hK hw h_vu_1 rfl 177 337 r_v_2 (by decide) (by decide +kernel) dX10_holds_321 (fun v_3 r_v_3 m_v_3 o_v_3 => ?_)
    refine lv_bipush (v := 60) hx hb dX10_holds_322 (by decide) ?_
    refine lv_icmp_ne (tgt := 342) hx hb dX10_holds_324 (by decide) (fun c_324 => ?_) (fun c_324 => ?_)
    · refine lv_aload_n hx hb dX10_holds_342 rfl (lv_at hl 1 rfl) ?_
      refine tg_mem (ci := 10) (C := RX10) (T := TX10) (N := 49) hx hb hts inX10 hown hK hw 14 m_u_1 rfl (by decide) (hts _ tw_1151) (fun _ h9 => h9) dX10_holds_343 ?_
      refine lv_iload_n hx hb dX10_holds_346 rfl (lv_at hl 4 rfl) ?_
      refine lv_iconst (v := 3) hx hb dX10_holds_347 (by decide) ?_
      refine lv_iadd hx hb dX10_holds_348 (lv_topi (fun v_4 e_v_4 => ?_))
      obtain ⟨t_v_4, r_v_4⟩ := tq_add (lo := 177) (hi := 337) r_x3 rl_3 (by decide +kernel) e_v_4
      have t_v_4 : v_4.toInt = x3.toInt + 3 := t_v_4
      refine tg_iald (lo := (-2147483648)) (hi := 2147483647) hx hb hK hw h_vu_1 rfl 177 337 r_v_4 (by decide) (by decide +kernel) dX10_holds_349 (fun v_5 r_v_5 m_v_5 o_v_5 => ?_)
      refine lv_bipush (v := 61) hx hb dX10_holds_350 (by decide) ?_
      refine lv_icmp_ne (tgt := 370) hx hb dX10_holds_352 (by decide) (fun c_352 => ?_) (fun c_352 => ?_)
      · refine lv_iload hx hb dX10_holds_370 (lv_at hl 0 rfl) ?_
        refine lv_iload hx hb dX10_holds_372 (lv_at hl 6 rfl) ?_
        refine lv_icmp_le (tgt := 381) hx hb dX10_holds_374 (by decide) (fun c_374 => ?_) (fun c_374 => ?_)
        · refine lv_iconst (v := 0) hx hb dX10_holds_381 (by decide) ?_
          subst hQ
          exact W.zret (v := 0) hx hb hr (rfl) (fun t ht hW => ⟨⟨0, (), rfl, ⟨rl_0.to (by decide), (fun h0 => trivial), (fun _ => trivial)⟩, by rw [ht]; exact hw.2.1, va_K.moved hW.alike hK, hw.2.2.1⟩, hw.2.2.2.1.F ht⟩) hw.2.2.2.1.2.2 dX10_holds_382
        · have r_x5 : RI x5 (-2147483648) 2147483646 := rc_lt1 r_x5 r_y0 (ti_nle c_374) (by decide)
          have r_y0 : RI y0 (-2147483647) 2147483647 := rc_lt2 r_x5 r_y0 (ti_nle c_374) (by decide)
          refine lv_iconst (v := 1) hx hb dX10_holds_377 (by decide) ?_
          refine lv_goto (tgt := 382) hx hb dX10_holds_378 (by decide) ?_
          subst hQ
          exact W.zret (v := 1) hx hb hr (rfl) (fun t ht hW => ⟨⟨1, (), rfl, ⟨rl_1.to (by decide), (fun _ => trivial), (fun h0 => trivial)⟩, by rw [ht]; exact hw.2.1, va_K.moved hW.alike hK, hw.2.2.1⟩, hw.2.2.2.1.F ht⟩) hw.2.2.2.1.2.2 dX10_holds_382
      · have r_v_5 : RI v_5 61 61 := rc_eq1 r_v_5 rl_61 (ti_eq c_352) (by decide)
        refine lv_iload hx hb dX10_holds_355 (lv_at hl 0 rfl) ?_
        refine lv_iload hx hb dX10_holds_357 (lv_at hl 6 rfl) ?_
        refine lv_icmp_ne (tgt := 366) hx hb dX10_holds_359 (by decide) (fun c_359 => ?_) (fun c_359 => ?_)
        · refine lv_iconst (v := 0) hx hb dX10_holds_366 (by decide) ?_
          refine lv_goto (tgt := 382) hx hb dX10_holds_367 (by decide) ?_
          subst hQ
          exact W.zret (v := 0) hx hb hr (rfl) (fun t ht hW => ⟨⟨0, (), rfl, ⟨rl_0.to (by decide), (fun h0 => trivial), (fun _ => trivial)⟩, by rw [ht]; exact hw.2.1, va_K.moved hW.alike hK, hw.2.2.1⟩, hw.2.2.2.1.F ht⟩) hw.2.2.2.1.2.2 dX10_holds_382
        · refine lv_iconst (v := 1) hx hb dX10_holds_362 (by decide) ?_
          refine lv_goto (tgt := 382) hx hb dX10_holds_363 (by decide) ?_
          subst hQ
          exact W.zret (v := 1) hx hb hr (rfl) (fun t ht hW => ⟨⟨1, (), rfl, ⟨rl_1.to (by decide), (fun _ => trivial), (fun h0 => trivial)⟩, by rw [ht]; exact hw.2.1, va_K.moved hW.alike hK, hw.2.2.1⟩, hw.2.2.2.1.F ht⟩) hw.2.2.2.1.2.2 dX10_holds_382
    · have r_v_3 : RI v_3 60 60 := rc_eq1 r_v_3 rl_60 (ti_eq c_324) (by decide)
      refine lv_iload hx hb dX10_holds_327 (lv_at hl 0 rfl) ?_
      refine lv_iload hx hb dX10_holds_329 (lv_at hl 6 rfl) ?_
      refine lv_icmp_ge (tgt := 338) hx hb dX10_holds_331 (by decide) (fun c_331 => ?_) (fun c_331 => ?_)
      · refine lv_iconst (v := 0) hx hb dX10_holds_338 (by decide) ?_
        refine lv_goto (tgt := 382) hx hb dX10_holds_339 (by decide) ?_
        subst hQ
        exact W.zret (v := 0) hx hb hr (rfl) (fun t ht hW => ⟨⟨0, (), rfl, ⟨rl_0.to (by decide), (fun h0 => trivial), (fun _ => trivial)⟩, by rw [ht]; exact hw.2.1, va_K.moved hW.alike hK, hw.2.2.1⟩, hw.2.2.2.1.F ht⟩) hw.2.2.2.1.2.2 dX10_holds_382
      · have r_y0 : RI y0 (-2147483648) 2147483646 := rc_lt1 r_y0 r_x5 (ti_nle c_331) (by decide)
        have r_x5 : RI x5 (-2147483647) 2147483647 := rc_lt2 r_y0 r_x5 (ti_nle c_331) (by decide)
        refine lv_iconst (v := 1) hx hb dX10_holds_334 (by decide) ?_
        refine lv_goto (tgt := 382) hx hb dX10_holds_335 (by decide) ?_
        subst hQ
        exact W.zret (v := 1) hx hb hr (rfl) (fun t ht hW => ⟨⟨1, (), rfl, ⟨rl_1.to (by decide), (fun _ => trivial), (fun h0 => trivial)⟩, by rw [ht]; exact hw.2.1, va_K.moved hW.alike hK, hw.2.2.1⟩, hw.2.2.2.1.F ht⟩) hw.2.2.2.1.2.2 dX10_holds_382
  refine lv_sipush (v := 174) hx hb dX10_holds_0 (by decide) ?_
  refine lv_iconst (v := 4) hx hb dX10_holds_3 (by decide) ?_
  refine lv_iload_n hx hb dX10_holds_4 rfl (lv_at hl 1 rfl) ?_
  refine lv_imul hx hb dX10_holds_5 (lv_topi (fun v_6 e_v_6 => ?_))
  obtain ⟨t_v_6, r_v_6⟩ := tq_mul (lo := 0) (hi := 160) rl_4 r_p1 (by decide +kernel) e_v_6
  have t_v_6 : v_6.toInt = 4 * p1.toInt := t_v_6
  refine lv_iadd hx hb dX10_holds_6 (lv_topi (fun v_7 e_v_7 => ?_))
  obtain ⟨t_v_7, r_v_7⟩ := tq_add (lo := 174) (hi := 334) rl_174 r_v_6 (by decide +kernel) e_v_7
  have t_v_7 : v_7.toInt = 174 + v_6.toInt := t_v_7
  refine lv_istore_n (lv' := [(3, .int v_7), (0, .ref p0), (1, .int p1), (2, .int p2)]) hx hb dX10_holds_7 rfl hl (by decide) rfl (fun ls hl => ?_)
  refine lv_aload_n hx hb dX10_holds_8 rfl (lv_at hl 1 rfl) ?_
  refine tg_get (ci := 10) (ts := ty_MODEL) (C := RX10) (T := TX10) (N := 49) hx hb hts inX10 hown hK hw h_p0 rfl rfl 14 (by decide) (hts _ tw_1151) (fun _ h9 => h9) (ft := vR 34) rfl dX10_holds_9 (fun u_8 hv_u_8 m_u_8 => ?_)
  obtain ⟨vu_8, rfl, h_vu_8⟩ := hv_u_8
  refine lv_iload_n hx hb dX10_holds_12 rfl (lv_at hl 0 rfl) ?_
  refine lv_iconst (v := 1) hx hb dX10_holds_13 (by decide) ?_
  refine lv_iadd hx hb dX10_holds_14 (lv_topi (fun v_9 e_v_9 => ?_))
  obtain ⟨t_v_9, r_v_9⟩ := tq_add (lo := 175) (hi := 335) r_v_7 rl_1 (by decide +kernel) e_v_9
  have t_v_9 : v_9.toInt = v_7.toInt + 1 := t_v_9
  refine tg_iald (lo := (-2147483648)) (hi := 2147483647) hx hb hK hw h_vu_8 rfl 175 335 r_v_9 (by decide) (by decide +kernel) dX10_holds_15 (fun v_10 r_v_10 m_v_10 o_v_10 => ?_)
  refine lv_istore (lv' := [(4, .int v_10), (3, .int v_7), (0, .ref p0), (1, .int p1), (2, .int p2)]) hx hb dX10_holds_16 hl (by decide) rfl (fun ls hl => ?_)
  refine lv_aload_n hx hb dX10_holds_18 rfl (lv_at hl 2 rfl) ?_
  refine tg_mem (ci := 10) (C := RX10) (T := TX10) (N := 49) hx hb hts inX10 hown hK hw 14 m_u_8 rfl (by decide) (hts _ tw_1151) (fun _ h9 => h9) dX10_holds_19 ?_
  refine lv_iload_n hx hb dX10_holds_22 rfl (lv_at hl 1 rfl) ?_
  refine lv_iconst (v := 2) hx hb dX10_holds_23 (by decide) ?_
  refine lv_iadd hx hb dX10_holds_24 (lv_topi (fun v_11 e_v_11 => ?_))
  obtain ⟨t_v_11, r_v_11⟩ := tq_add (lo := 176) (hi := 336) r_v_7 rl_2 (by decide +kernel) e_v_11
  have t_v_11 : v_11.toInt = v_7.toInt + 2 := t_v_11
  refine tg_iald (lo := (-2147483648)) (hi := 2147483647) hx hb hK hw h_vu_8 rfl 176 336 r_v_11 (by decide) (by decide +kernel) dX10_holds_25 (fun v_12 r_v_12 m_v_12 o_v_12 => ?_)
  refine lv_istore (lv' := [(5, .int v_12), (4, .int v_10), (3, .int v_7), (0, .ref p0), (1, .int p1), (2, .int p2)]) hx hb dX10_holds_26 hl (by decide) rfl (fun ls hl => ?_)
  refine lv_aload_n hx hb dX10_holds_28 rfl (lv_at hl 3 rfl) ?_
  refine tg_mem (ci := 10) (C := RX10) (T := TX10) (N := 49) hx hb hts inX10 hown hK hw 14 m_u_8 rfl (by decide) (hts _ tw_1151) (fun _ h9 => h9) dX10_holds_29 ?_
  refine lv_iload_n hx hb dX10_holds_32 rfl (lv_at hl 2 rfl) ?_
  refine tg_iald (lo := (-2147483648)) (hi := 2147483647) hx hb hK hw h_vu_8 rfl 174 334 r_v_7 (by decide) (by decide +kernel) dX10_holds_33 (fun v_13 r_v_13 m_v_13 o_v_13 => ?_)
  by_cases k_34_1 : v_13 = 1
  · refine lv_lookup (tgt := 108) (off := 74) hx hb dX10_holds_34 (by decide) (by rw [k_34_1]; decide) (by decide) ?_
    have r_v_13 : RI v_13 1 1 := by rw [k_34_1]; exact rl_1
    have g_v_10 : 0 ≤ v_10.toInt ∧ v_10.toInt < p1.toInt := by obtain ⟨_, f9, e8, e7, q9, _⟩ := ax_of (k := 14) (t := 34) hw h_p0 rfl (fun _ => rfl); cases FLD.inj hw.2.2.1 e8 m_u_8; have t9 := ARR.ael hw.2.2.1 e7 m_v_13; have x9 := ARR.ael hw.2.2.1 e7 m_v_10; rw [show Int32.toNatClampNeg v_7 = 174 + 4 * Int32.toNatClampNeg p1 from (by have k1 := r_v_7.cl (by decide); have k2 := r_p1.cl (by decide); omega)] at t9; rw [show Int32.toNatClampNeg v_9 = 175 + 4 * Int32.toNatClampNeg p1 from (by have k1 := r_v_9.cl (by decide); have k2 := r_p1.cl (by decide); omega)] at x9; exact RN_child q9 (r_p1.to (by decide)) t9 x9 (r_v_13.to (by decide))
    have r_v_10 : RI v_10 0 39 := ⟨g_v_10.1, by have k1 := r_p1.2; omega⟩
    refine lv_aload_n hx hb dX10_holds_108 rfl (lv_at hl 3 rfl) ?_
    refine lv_iload hx hb dX10_holds_109 (lv_at hl 1 rfl) ?_
    refine lv_iload_n hx hb dX10_holds_111 rfl (lv_at hl 5 rfl) ?_
    refine tk_ir (va_runV (As := [.int v_10, .int p2]) (rest := []) ⟨hx, hb, hml, hown, hts⟩ (c_X10_holds__20 l D cy z s.heap.size Ps w0 hw.1 p0 v_10 p2 h_p0 r_v_10 r_p2) (cwV 2 hts (gV tw_1787 tw_1789 ts_119 tw_15 tw_1790) rfl rfl rfl (by decide +kernel) ⟨Nat.le_of_ble_eq_true rfl, Nat.le_of_ble_eq_true rfl⟩) (tg_preV hw hK hSD hA (ci := 10) (q := (RX10, TX10, 49)) rfl h_p0 rfl) rfl rfl hl.1 rfl (lv_room (Nat.le_of_ble_eq_true rfl)) dX10_holds_112 ⟨Nat.le_of_ble_eq_true rfl, Nat.le_of_ble_eq_true rfl⟩) hw hA (fun v_14  H locs hp_v_14 hw => ?_)
    have r_v_14 : RI v_14 0 1 := hp_v_14.1
    refine lv_if_ne (tgt := 122) hx hb dX10_holds_115 (by decide) (fun c_115 => ?_) (fun c_115 => ?_)
    · have r_v_14 : RI v_14 1 1 := rc_neL r_v_14 rl_0 (ti_ne c_115) (by decide)
      refine lv_iconst (v := 0) hx hb dX10_holds_122 (by decide) ?_
      subst hQ
      exact W.zret (v := 0) hx hb hr (rfl) (fun t ht hW => ⟨⟨0, (), rfl, ⟨rl_0.to (by decide), (fun h0 => trivial), (fun _ => trivial)⟩, by rw [ht]; exact hw.2.1, va_K.moved hW.alike hK, hw.2.2.1⟩, hw.2.2.2.1.F ht⟩) hw.2.2.2.1.2.2 dX10_holds_123
    · have r_v_14 : RI v_14 0 0 := rc_eq1 r_v_14 rl_0 (ti_eq c_115) (by decide)
      refine lv_iconst (v := 1) hx hb dX10_holds_118 (by decide) ?_
      refine lv_goto (tgt := 123) hx hb dX10_holds_119 (by decide) ?_
      subst hQ
      exact W.zret (v := 1) hx hb hr (rfl) (fun t ht hW => ⟨⟨1, (), rfl, ⟨rl_1.to (by decide), (fun _ => trivial), (fun h0 => trivial)⟩, by rw [ht]; exact hw.2.1, va_K.moved hW.alike hK, hw.2.2.1⟩, hw.2.2.2.1.F ht⟩) hw.2.2.2.1.2.2 dX10_holds_123
  · by_cases k_34_2 : v_13 = 2
    · refine lv_lookup (tgt := 124) (off := 90) hx hb dX10_holds_34 (by decide) (by rw [k_34_2]; decide) (by decide) ?_
      have r_v_13 : RI v_13 2 2 := by rw [k_34_2]; exact rl_2
      have g_v_10 : 0 ≤ v_10.toInt ∧ v_10.toInt < p1.toInt := by obtain ⟨_, f9, e8, e7, q9, _⟩ := ax_of (k := 14) (t := 34) hw h_p0 rfl (fun _ => rfl); cases FLD.inj hw.2.2.1 e8 m_u_8; have t9 := ARR.ael hw.2.2.1 e7 m_v_13; have x9 := ARR.ael hw.2.2.1 e7 m_v_10; rw [show Int32.toNatClampNeg v_7 = 174 + 4 * Int32.toNatClampNeg p1 from (by have k1 := r_v_7.cl (by decide); have k2 := r_p1.cl (by decide); omega)] at t9; rw [show Int32.toNatClampNeg v_9 = 175 + 4 * Int32.toNatClampNeg p1 from (by have k1 := r_v_9.cl (by decide); have k2 := r_p1.cl (by decide); omega)] at x9; exact RN_child q9 (r_p1.to (by decide)) t9 x9 (r_v_13.to (by decide))
      have r_v_10 : RI v_10 0 39 := ⟨g_v_10.1, by have k1 := r_p1.2; omega⟩
      have g_v_12 : 0 ≤ v_12.toInt ∧ v_12.toInt < p1.toInt := by obtain ⟨_, f9, e8, e7, q9, _⟩ := ax_of (k := 14) (t := 34) hw h_p0 rfl (fun _ => rfl); cases FLD.inj hw.2.2.1 e8 m_u_8; have t9 := ARR.ael hw.2.2.1 e7 m_v_13; have x9 := ARR.ael hw.2.2.1 e7 m_v_12; rw [show Int32.toNatClampNeg v_7 = 174 + 4 * Int32.toNatClampNeg p1 from (by have k1 := r_v_7.cl (by decide); have k2 := r_p1.cl (by decide); omega)] at t9; rw [show Int32.toNatClampNeg v_11 = 176 + 4 * Int32.toNatClampNeg p1 from (by have k1 := r_v_11.cl (by decide); have k2 := r_p1.cl (by decide); omega)] at x9; exact RN_child2 q9 (r_p1.to (by decide)) t9 x9 (r_v_13.to (by decide))
      have r_v_12 : RI v_12 0 39 := ⟨g_v_12.1, by have k1 := r_p1.2; omega⟩
      refine lv_aload_n hx hb dX10_holds_124 rfl (lv_at hl 3 rfl) ?_
      refine lv_iload hx hb dX10_holds_125 (lv_at hl 1 rfl) ?_
      refine lv_iload_n hx hb dX10_holds_127 rfl (lv_at hl 5 rfl) ?_
      refine tk_ir (va_runV (As := [.int v_10, .int p2]) (rest := []) ⟨hx, hb, hml, hown, hts⟩ (c_X10_holds__20 l D cy z s.heap.size Ps w0 hw.1 p0 v_10 p2 h_p0 r_v_10 r_p2) (cwV 2 hts (gV tw_1787 tw_1789 ts_119 tw_15 tw_1790) rfl rfl rfl (by decide +kernel) ⟨Nat.le_of_ble_eq_true rfl, Nat.le_of_ble_eq_true rfl⟩) (tg_preV hw hK hSD hA (ci := 10) (q := (RX10, TX10, 49)) rfl h_p0 rfl) rfl rfl hl.1 rfl (lv_room (Nat.le_of_ble_eq_true rfl)) dX10_holds_128 ⟨Nat.le_of_ble_eq_true rfl, Nat.le_of_ble_eq_true rfl⟩) hw hA (fun v_15  H locs hp_v_15 hw => ?_)
      have r_v_15 : RI v_15 0 1 := hp_v_15.1
      refine lv_if_eq (tgt := 148) hx hb dX10_holds_131 (by decide) (fun c_131 => ?_) (fun c_131 => ?_)
      · have r_v_15 : RI v_15 0 0 := rc_eq1 r_v_15 rl_0 (ti_eq c_131) (by decide)
        refine lv_iconst (v := 0) hx hb dX10_holds_148 (by decide) ?_
        subst hQ
        exact W.zret (v := 0) hx hb hr (rfl) (fun t ht hW => ⟨⟨0, (), rfl, ⟨rl_0.to (by decide), (fun h0 => trivial), (fun _ => trivial)⟩, by rw [ht]; exact hw.2.1, va_K.moved hW.alike hK, hw.2.2.1⟩, hw.2.2.2.1.F ht⟩) hw.2.2.2.1.2.2 dX10_holds_149
      · have r_v_15 : RI v_15 1 1 := rc_neL r_v_15 rl_0 (ti_ne c_131) (by decide)
        refine lv_aload_n hx hb dX10_holds_134 rfl (lv_at hl 3 rfl) ?_
        refine lv_iload hx hb dX10_holds_135 (lv_at hl 0 rfl) ?_
        refine lv_iload_n hx hb dX10_holds_137 rfl (lv_at hl 5 rfl) ?_
        refine tk_ir (va_runV (As := [.int v_12, .int p2]) (rest := []) ⟨hx, hb, hml, hown, hts⟩ (c_X10_holds__20 l D cy z H.size Ps w0 hw.1 p0 v_12 p2 h_p0 r_v_12 r_p2) (cwV 2 hts (gV tw_1787 tw_1789 ts_119 tw_15 tw_1790) rfl rfl rfl (by decide +kernel) ⟨Nat.le_of_ble_eq_true rfl, Nat.le_of_ble_eq_true rfl⟩) (tg_preV hw hK hSD hA (ci := 10) (q := (RX10, TX10, 49)) rfl h_p0 rfl) rfl rfl hl.1 rfl (lv_room (Nat.le_of_ble_eq_true rfl)) dX10_holds_138 ⟨Nat.le_of_ble_eq_true rfl, Nat.le_of_ble_eq_true rfl⟩) hw hA (fun v_16  H locs hp_v_16 hw => ?_)
        have r_v_16 : RI v_16 0 1 := hp_v_16.1
        refine lv_if_eq (tgt := 148) hx hb dX10_holds_141 (by decide) (fun c_141 => ?_) (fun c_141 => ?_)
        · have r_v_16 : RI v_16 0 0 := rc_eq1 r_v_16 rl_0 (ti_eq c_141) (by decide)
          refine lv_iconst (v := 0) hx hb dX10_holds_148 (by decide) ?_
          subst hQ
          exact W.zret (v := 0) hx hb hr (rfl) (fun t ht hW => ⟨⟨0, (), rfl, ⟨rl_0.to (by decide), (fun h0 => trivial), (fun _ => trivial)⟩, by rw [ht]; exact hw.2.1, va_K.moved hW.alike hK, hw.2.2.1⟩, hw.2.2.2.1.F ht⟩) hw.2.2.2.1.2.2 dX10_holds_149
        · have r_v_16 : RI v_16 1 1 := rc_neL r_v_16 rl_0 (ti_ne c_141) (by decide)
          refine lv_iconst (v := 1) hx hb dX10_holds_144 (by decide) ?_
          refine lv_goto (tgt := 149) hx hb dX10_holds_145 (by decide) ?_
          subst hQ
          exact W.zret (v := 1) hx hb hr (rfl) (fun t ht hW => ⟨⟨1, (), rfl, ⟨rl_1.to (by decide), (fun _ => trivial), (fun h0 => trivial)⟩, by rw [ht]; exact hw.2.1, va_K.moved hW.alike hK, hw.2.2.1⟩, hw.2.2.2.1.F ht⟩) hw.2.2.2.1.2.2 dX10_holds_149
    · by_cases k_34_3 : v_13 = 3
      · refine lv_lookup (tgt := 150) (off := 116) hx hb dX10_holds_34 (by decide) (by rw [k_34_3]; decide) (by decide) ?_
        have r_v_13 : RI v_13 3 3 := by rw [k_34_3]; exact rl_3
        have g_v_10 : 0 ≤ v_10.toInt ∧ v_10.toInt < p1.toInt := by obtain ⟨_, f9, e8, e7, q9, _⟩ := ax_of (k := 14) (t := 34) hw h_p0 rfl (fun _ => rfl); cases FLD.inj hw.2.2.1 e8 m_u_8; have t9 := ARR.ael hw.2.2.1 e7 m_v_13; have x9 := ARR.ael hw.2.2.1 e7 m_v_10; rw [show Int32.toNatClampNeg v_7 = 174 + 4 * Int32.toNatClampNeg p1 from (by have k1 := r_v_7.cl (by decide); have k2 := r_p1.cl (by decide); omega)] at t9; rw [show Int32.toNatClampNeg v_9 = 175 + 4 * Int32.toNatClampNeg p1 from (by have k1 := r_v_9.cl (by decide); have k2 := r_p1.cl (by decide); omega)] at x9; exact RN_child q9 (r_p1.to (by decide)) t9 x9 (r_v_13.to (by decide))
        have r_v_10 : RI v_10 0 39 := ⟨g_v_10.1, by have k1 := r_p1.2; omega⟩
        have g_v_12 : 0 ≤ v_12.toInt ∧ v_12.toInt < p1.toInt := by obtain ⟨_, f9, e8, e7, q9, _⟩ := ax_of (k := 14) (t := 34) hw h_p0 rfl (fun _ => rfl); cases FLD.inj hw.2.2.1 e8 m_u_8; have t9 := ARR.ael hw.2.2.1 e7 m_v_13; have x9 := ARR.ael hw.2.2.1 e7 m_v_12; rw [show Int32.toNatClampNeg v_7 = 174 + 4 * Int32.toNatClampNeg p1 from (by have k1 := r_v_7.cl (by decide); have k2 := r_p1.cl (by decide); omega)] at t9; rw [show Int32.toNatClampNeg v_11 = 176 + 4 * Int32.toNatClampNeg p1 from (by have k1 := r_v_11.cl (by decide); have k2 := r_p1.cl (by decide); omega)] at x9; exact RN_child2 q9 (r_p1.to (by decide)) t9 x9 (r_v_13.to (by decide))
        have r_v_12 : RI v_12 0 39 := ⟨g_v_12.1, by have k1 := r_p1.2; omega⟩
        refine lv_aload_n hx hb dX10_holds_150 rfl (lv_at hl 3 rfl) ?_
        refine lv_iload hx hb dX10_holds_151 (lv_at hl 1 rfl) ?_
        refine lv_iload_n hx hb dX10_holds_153 rfl (lv_at hl 5 rfl) ?_
        refine tk_ir (va_runV (As := [.int v_10, .int p2]) (rest := []) ⟨hx, hb, hml, hown, hts⟩ (c_X10_holds__20 l D cy z s.heap.size Ps w0 hw.1 p0 v_10 p2 h_p0 r_v_10 r_p2) (cwV 2 hts (gV tw_1787 tw_1789 ts_119 tw_15 tw_1790) rfl rfl rfl (by decide +kernel) ⟨Nat.le_of_ble_eq_true rfl, Nat.le_of_ble_eq_true rfl⟩) (tg_preV hw hK hSD hA (ci := 10) (q := (RX10, TX10, 49)) rfl h_p0 rfl) rfl rfl hl.1 rfl (lv_room (Nat.le_of_ble_eq_true rfl)) dX10_holds_154 ⟨Nat.le_of_ble_eq_true rfl, Nat.le_of_ble_eq_true rfl⟩) hw hA (fun v_17  H locs hp_v_17 hw => ?_)
        have r_v_17 : RI v_17 0 1 := hp_v_17.1
        refine lv_if_ne (tgt := 170) hx hb dX10_holds_157 (by decide) (fun c_157 => ?_) (fun c_157 => ?_)
        · have r_v_17 : RI v_17 1 1 := rc_neL r_v_17 rl_0 (ti_ne c_157) (by decide)
          refine lv_iconst (v := 1) hx hb dX10_holds_170 (by decide) ?_
          refine lv_goto (tgt := 175) hx hb dX10_holds_171 (by decide) ?_
          subst hQ
          exact W.zret (v := 1) hx hb hr (rfl) (fun t ht hW => ⟨⟨1, (), rfl, ⟨rl_1.to (by decide), (fun _ => trivial), (fun h0 => trivial)⟩, by rw [ht]; exact hw.2.1, va_K.moved hW.alike hK, hw.2.2.1⟩, hw.2.2.2.1.F ht⟩) hw.2.2.2.1.2.2 dX10_holds_175
        · have r_v_17 : RI v_17 0 0 := rc_eq1 r_v_17 rl_0 (ti_eq c_157) (by decide)
          refine lv_aload_n hx hb dX10_holds_160 rfl (lv_at hl 3 rfl) ?_
          refine lv_iload hx hb dX10_holds_161 (lv_at hl 0 rfl) ?_
          refine lv_iload_n hx hb dX10_holds_163 rfl (lv_at hl 5 rfl) ?_
          refine tk_ir (va_runV (As := [.int v_12, .int p2]) (rest := []) ⟨hx, hb, hml, hown, hts⟩ (c_X10_holds__20 l D cy z H.size Ps w0 hw.1 p0 v_12 p2 h_p0 r_v_12 r_p2) (cwV 2 hts (gV tw_1787 tw_1789 ts_119 tw_15 tw_1790) rfl rfl rfl (by decide +kernel) ⟨Nat.le_of_ble_eq_true rfl, Nat.le_of_ble_eq_true rfl⟩) (tg_preV hw hK hSD hA (ci := 10) (q := (RX10, TX10, 49)) rfl h_p0 rfl) rfl rfl hl.1 rfl (lv_room (Nat.le_of_ble_eq_true rfl)) dX10_holds_164 ⟨Nat.le_of_ble_eq_true rfl, Nat.le_of_ble_eq_true rfl⟩) hw hA (fun v_18  H locs hp_v_18 hw => ?_)
          have r_v_18 : RI v_18 0 1 := hp_v_18.1
          refine lv_if_eq (tgt := 174) hx hb dX10_holds_167 (by decide) (fun c_167 => ?_) (fun c_167 => ?_)
          · have r_v_18 : RI v_18 0 0 := rc_eq1 r_v_18 rl_0 (ti_eq c_167) (by decide)
            refine lv_iconst (v := 0) hx hb dX10_holds_174 (by decide) ?_
            subst hQ
            exact W.zret (v := 0) hx hb hr (rfl) (fun t ht hW => ⟨⟨0, (), rfl, ⟨rl_0.to (by decide), (fun h0 => trivial), (fun _ => trivial)⟩, by rw [ht]; exact hw.2.1, va_K.moved hW.alike hK, hw.2.2.1⟩, hw.2.2.2.1.F ht⟩) hw.2.2.2.1.2.2 dX10_holds_175
          · have r_v_18 : RI v_18 1 1 := rc_neL r_v_18 rl_0 (ti_ne c_167) (by decide)
            refine lv_iconst (v := 1) hx hb dX10_holds_170 (by decide) ?_
            refine lv_goto (tgt := 175) hx hb dX10_holds_171 (by decide) ?_
            subst hQ
            exact W.zret (v := 1) hx hb hr (rfl) (fun t ht hW => ⟨⟨1, (), rfl, ⟨rl_1.to (by decide), (fun _ => trivial), (fun h0 => trivial)⟩, by rw [ht]; exact hw.2.1, va_K.moved hW.alike hK, hw.2.2.1⟩, hw.2.2.2.1.F ht⟩) hw.2.2.2.1.2.2 dX10_holds_175
      · by_cases k_34_69 : v_13 = 69
        · refine lv_lookup (tgt := 176) (off := 142) hx hb dX10_holds_34 (by decide) (by rw [k_34_69]; decide) (by decide) ?_
          have r_v_13 : RI v_13 69 69 := by rw [k_34_69]; exact rl_69
          refine lv_aload_n hx hb dX10_holds_176 rfl (lv_at hl 3 rfl) ?_
          refine lv_iload_n hx hb dX10_holds_177 rfl (lv_at hl 5 rfl) ?_
          refine tk_ir (va_runV (As := [.int p2]) (rest := []) ⟨hx, hb, hml, hown, hts⟩ (c_X10_isOpen l D cy z s.heap.size Ps w0 hw.1 p0 p2 h_p0 (r_p2.to (by decide))) (cwV 1 hts (gV tw_1457 tw_1459 ts_71 tw_15 tw_1460) rfl rfl rfl (by decide +kernel) ⟨Nat.le_of_ble_eq_true rfl, Nat.le_of_ble_eq_true rfl⟩) (tg_preV hw hK hSD hA (ci := 10) (q := (RX10, TX10, 49)) rfl h_p0 rfl) rfl rfl hl.1 rfl (lv_room (Nat.le_of_ble_eq_true rfl)) dX10_holds_178 ⟨Nat.le_of_ble_eq_true rfl, Nat.le_of_ble_eq_true rfl⟩) hw hA (fun v_19  H locs hp_v_19 hw => ?_)
          have r_v_19 : RI v_19 0 1 := hp_v_19.1
          subst hQ
          exact W.zret (v := v_19) hx hb hr (tq_nz (r_v_19.to (by decide))) (fun t ht hW => ⟨⟨v_19, (), rfl, ⟨r_v_19.to (by decide), (fun h0 => trivial), (fun h0 => trivial)⟩, by rw [ht]; exact hw.2.1, va_K.moved hW.alike hK, hw.2.2.1⟩, hw.2.2.2.1.F ht⟩) hw.2.2.2.1.2.2 dX10_holds_181
        · by_cases k_34_70 : v_13 = 70
          · refine lv_lookup (tgt := 182) (off := 148) hx hb dX10_holds_34 (by decide) (by rw [k_34_70]; decide) (by decide) ?_
            have r_v_13 : RI v_13 70 70 := by rw [k_34_70]; exact rl_70
            refine lv_aload_n hx hb dX10_holds_182 rfl (lv_at hl 3 rfl) ?_
            refine lv_iload_n hx hb dX10_holds_183 rfl (lv_at hl 5 rfl) ?_
            refine tk_ir (va_runV (As := [.int p2]) (rest := []) ⟨hx, hb, hml, hown, hts⟩ (c_X10_whatIs l D cy z s.heap.size Ps w0 hw.1 p0 p2 h_p0 r_p2) (cwV 1 hts (gV tw_1449 tw_1451 ts_69 tw_15 tw_1452) rfl rfl rfl (by decide +kernel) ⟨Nat.le_of_ble_eq_true rfl, Nat.le_of_ble_eq_true rfl⟩) (tg_preV hw hK hSD hA (ci := 10) (q := (RX10, TX10, 49)) rfl h_p0 rfl) rfl rfl hl.1 rfl (lv_room (Nat.le_of_ble_eq_true rfl)) dX10_holds_184 ⟨Nat.le_of_ble_eq_true rfl, Nat.le_of_ble_eq_true rfl⟩) hw hA (fun v_20  H locs hp_v_20 hw => ?_)
            have r_v_20 : RI v_20 (-1) 5 := hp_v_20.1
            by_cases c9_v_20 : v_20.toInt < 0
            · have r_v_20 : RI v_20 (-1) (-1) := by unfold RI at r_v_20 ⊢; omega
              have x_NB_p0_p2 := (hp_v_20.2.2.2.2.1 (by omega)).1
              refine lv_iconst (v := (-1)) hx hb dX10_holds_187 (by decide) ?_
              refine lv_icmp_ne (tgt := 195) hx hb dX10_holds_188 (by decide) (fun c_188 => ?_) (fun c_188 => ?_)
              · exact absurd (r_v_20.eq.trans rl_m1.eq.symm) ((ti_ne c_188))
              · refine lv_iconst (v := 1) hx hb dX10_holds_191 (by decide) ?_
                refine lv_goto (tgt := 196) hx hb dX10_holds_192 (by decide) ?_
                subst hQ
                exact W.zret (v := 1) hx hb hr (rfl) (fun t ht hW => ⟨⟨1, (), rfl, ⟨rl_1.to (by decide), (fun _ => trivial), (fun h0 => trivial)⟩, by rw [ht]; exact hw.2.1, va_K.moved hW.alike hK, hw.2.2.1⟩, hw.2.2.2.1.F ht⟩) hw.2.2.2.1.2.2 dX10_holds_196
            · have r_v_20 : RI v_20 0 5 := by unfold RI at r_v_20 ⊢; omega
              have x_WB_p0_p2_v_20 := (hp_v_20.2.2.2.2.2 (by omega)).1
              refine lv_iconst (v := (-1)) hx hb dX10_holds_187 (by decide) ?_
              refine lv_icmp_ne (tgt := 195) hx hb dX10_holds_188 (by decide) (fun c_188 => ?_) (fun c_188 => ?_)
              · refine lv_iconst (v := 0) hx hb dX10_holds_195 (by decide) ?_
                subst hQ
                exact W.zret (v := 0) hx hb hr (rfl) (fun t ht hW => ⟨⟨0, (), rfl, ⟨rl_0.to (by decide), (fun h0 => trivial), (fun _ => trivial)⟩, by rw [ht]; exact hw.2.1, va_K.moved hW.alike hK, hw.2.2.1⟩, hw.2.2.2.1.F ht⟩) hw.2.2.2.1.2.2 dX10_holds_196
              · have r_v_20 : RI v_20 0 (-1) := rc_eq1 r_v_20 rl_m1 (ti_eq c_188) (by decide)
                exact (r_v_20.no (by decide)).elim
          · by_cases k_34_71 : v_13 = 71
            · refine lv_lookup (tgt := 197) (off := 163) hx hb dX10_holds_34 (by decide) (by rw [k_34_71]; decide) (by decide) ?_
              have r_v_13 : RI v_13 71 71 := by rw [k_34_71]; exact rl_71
              refine lv_aload_n hx hb dX10_holds_197 rfl (lv_at hl 3 rfl) ?_
              refine lv_iload_n hx hb dX10_holds_198 rfl (lv_at hl 5 rfl) ?_
              refine tk_ir (va_runV (As := [.int p2]) (rest := []) ⟨hx, hb, hml, hown, hts⟩ (c_X10_sittersOf l D cy z s.heap.size Ps w0 hw.1 p0 p2 h_p0 (r_p2.to (by decide))) (cwV 1 hts (gV tw_1461 tw_1463 ts_72 tw_15 tw_1464) rfl rfl rfl (by decide +kernel) ⟨Nat.le_of_ble_eq_true rfl, Nat.le_of_ble_eq_true rfl⟩) (tg_preV hw hK hSD hA (ci := 10) (q := (RX10, TX10, 49)) rfl h_p0 rfl) rfl rfl hl.1 rfl (lv_room (Nat.le_of_ble_eq_true rfl)) dX10_holds_199 ⟨Nat.le_of_ble_eq_true rfl, Nat.le_of_ble_eq_true rfl⟩) hw hA (fun v_21  H locs hp_v_21 hw => ?_)
              have r_v_21 : RI v_21 (-2147483648) 2147483647 := hp_v_21.1
              refine lv_if_eq (tgt := 209) hx hb dX10_holds_202 (by decide) (fun c_202 => ?_) (fun c_202 => ?_)
              · have r_v_21 : RI v_21 0 0 := rc_eq1 r_v_21 rl_0 (ti_eq c_202) (by decide)
                refine lv_iconst (v := 0) hx hb dX10_holds_209 (by decide) ?_
                subst hQ
                exact W.zret (v := 0) hx hb hr (rfl) (fun t ht hW => ⟨⟨0, (), rfl, ⟨rl_0.to (by decide), (fun h0 => trivial), (fun _ => trivial)⟩, by rw [ht]; exact hw.2.1, va_K.moved hW.alike hK, hw.2.2.1⟩, hw.2.2.2.1.F ht⟩) hw.2.2.2.1.2.2 dX10_holds_210
              · refine lv_iconst (v := 1) hx hb dX10_holds_205 (by decide) ?_
                refine lv_goto (tgt := 210) hx hb dX10_holds_206 (by decide) ?_
                subst hQ
                exact W.zret (v := 1) hx hb hr (rfl) (fun t ht hW => ⟨⟨1, (), rfl, ⟨rl_1.to (by decide), (fun _ => trivial), (fun h0 => trivial)⟩, by rw [ht]; exact hw.2.1, va_K.moved hW.alike hK, hw.2.2.1⟩, hw.2.2.2.1.F ht⟩) hw.2.2.2.1.2.2 dX10_holds_210
            · by_cases k_34_72 : v_13 = 72
              · refine lv_lookup (tgt := 211) (off := 177) hx hb dX10_holds_34 (by decide) (by rw [k_34_72]; decide) (by decide) ?_
                have r_v_13 : RI v_13 72 72 := by rw [k_34_72]; exact rl_72
                refine lv_aload_n hx hb dX10_holds_211 rfl (lv_at hl 3 rfl) ?_
                refine lv_iload_n hx hb dX10_holds_212 rfl (lv_at hl 5 rfl) ?_
                refine tk_ir (va_runV (As := [.int p2]) (rest := []) ⟨hx, hb, hml, hown, hts⟩ (c_X10_whatIs l D cy z s.heap.size Ps w0 hw.1 p0 p2 h_p0 r_p2) (cwV 1 hts (gV tw_1449 tw_1451 ts_69 tw_15 tw_1452) rfl rfl rfl (by decide +kernel) ⟨Nat.le_of_ble_eq_true rfl, Nat.le_of_ble_eq_true rfl⟩) (tg_preV hw hK hSD hA (ci := 10) (q := (RX10, TX10, 49)) rfl h_p0 rfl) rfl rfl hl.1 rfl (lv_room (Nat.le_of_ble_eq_true rfl)) dX10_holds_213 ⟨Nat.le_of_ble_eq_true rfl, Nat.le_of_ble_eq_true rfl⟩) hw hA (fun v_22  H locs hp_v_22 hw => ?_)
                have r_v_22 : RI v_22 (-1) 5 := hp_v_22.1
                by_cases c9_v_22 : v_22.toInt < 0
                · have r_v_22 : RI v_22 (-1) (-1) := by unfold RI at r_v_22 ⊢; omega
                  have x_NB_p0_p2 := (hp_v_22.2.2.2.2.1 (by omega)).1
                  refine lv_iload hx hb dX10_holds_216 (lv_at hl 1 rfl) ?_
                  refine lv_icmp_ne (tgt := 225) hx hb dX10_holds_218 (by decide) (fun c_218 => ?_) (fun c_218 => ?_)
                  · refine lv_iconst (v := 0) hx hb dX10_holds_225 (by decide) ?_
                    subst hQ
                    exact W.zret (v := 0) hx hb hr (rfl) (fun t ht hW => ⟨⟨0, (), rfl, ⟨rl_0.to (by decide), (fun h0 => trivial), (fun _ => trivial)⟩, by rw [ht]; exact hw.2.1, va_K.moved hW.alike hK, hw.2.2.1⟩, hw.2.2.2.1.F ht⟩) hw.2.2.2.1.2.2 dX10_holds_226
                  · have r_v_10 : RI v_10 (-1) (-1) := rc_eq2 r_v_22 r_v_10 (ti_eq c_218) (by decide)
                    refine lv_iconst (v := 1) hx hb dX10_holds_221 (by decide) ?_
                    refine lv_goto (tgt := 226) hx hb dX10_holds_222 (by decide) ?_
                    subst hQ
                    exact W.zret (v := 1) hx hb hr (rfl) (fun t ht hW => ⟨⟨1, (), rfl, ⟨rl_1.to (by decide), (fun _ => trivial), (fun h0 => trivial)⟩, by rw [ht]; exact hw.2.1, va_K.moved hW.alike hK, hw.2.2.1⟩, hw.2.2.2.1.F ht⟩) hw.2.2.2.1.2.2 dX10_holds_226
                · have r_v_22 : RI v_22 0 5 := by unfold RI at r_v_22 ⊢; omega
                  have x_WB_p0_p2_v_22 := (hp_v_22.2.2.2.2.2 (by omega)).1
                  refine lv_iload hx hb dX10_holds_216 (lv_at hl 1 rfl) ?_
                  refine lv_icmp_ne (tgt := 225) hx hb dX10_holds_218 (by decide) (fun c_218 => ?_) (fun c_218 => ?_)
                  · refine lv_iconst (v := 0) hx hb dX10_holds_225 (by decide) ?_
                    subst hQ
                    exact W.zret (v := 0) hx hb hr (rfl) (fun t ht hW => ⟨⟨0, (), rfl, ⟨rl_0.to (by decide), (fun h0 => trivial), (fun _ => trivial)⟩, by rw [ht]; exact hw.2.1, va_K.moved hW.alike hK, hw.2.2.1⟩, hw.2.2.2.1.F ht⟩) hw.2.2.2.1.2.2 dX10_holds_226
                  · have r_v_10 : RI v_10 0 5 := rc_eq2 r_v_22 r_v_10 (ti_eq c_218) (by decide)
                    refine lv_iconst (v := 1) hx hb dX10_holds_221 (by decide) ?_
                    refine lv_goto (tgt := 226) hx hb dX10_holds_222 (by decide) ?_
                    subst hQ
                    exact W.zret (v := 1) hx hb hr (rfl) (fun t ht hW => ⟨⟨1, (), rfl, ⟨rl_1.to (by decide), (fun _ => trivial), (fun h0 => trivial)⟩, by rw [ht]; exact hw.2.1, va_K.moved hW.alike hK, hw.2.2.1⟩, hw.2.2.2.1.F ht⟩) hw.2.2.2.1.2.2 dX10_holds_226
              · by_cases k_34_73 : v_13 = 73
                · refine lv_lookup (tgt := 227) (off := 193) hx hb dX10_holds_34 (by decide) (by rw [k_34_73]; decide) (by decide) ?_
                  have r_v_13 : RI v_13 73 73 := by rw [k_34_73]; exact rl_73
                  refine lv_aload_n hx hb dX10_holds_227 rfl (lv_at hl 3 rfl) ?_
                  refine tg_mem (ci := 10) (C := RX10) (T := TX10) (N := 49) hx hb hts inX10 hown hK hw 14 m_u_8 rfl (by decide) (hts _ tw_1151) (fun _ h9 => h9) dX10_holds_228 ?_
                  refine lv_bipush (v := 86) hx hb dX10_holds_231 (by decide) ?_
                  refine lv_iload_n hx hb dX10_holds_233 rfl (lv_at hl 5 rfl) ?_
                  refine lv_iadd hx hb dX10_holds_234 (lv_topi (fun v_23 e_v_23 => ?_))
                  obtain ⟨t_v_23, r_v_23⟩ := tq_add (lo := 86) (hi := 91) rl_86 r_p2 (by decide +kernel) e_v_23
                  have t_v_23 : v_23.toInt = 86 + p2.toInt := t_v_23
                  refine tg_iald (lo := (-2147483648)) (hi := 2147483647) hx hb hK hw h_vu_8 rfl 86 91 r_v_23 (by decide) (by decide +kernel) dX10_holds_235 (fun v_24 r_v_24 m_v_24 o_v_24 => ?_)
                  refine lv_iload hx hb dX10_holds_236 (lv_at hl 1 rfl) ?_
                  refine lv_icmp_ne (tgt := 245) hx hb dX10_holds_238 (by decide) (fun c_238 => ?_) (fun c_238 => ?_)
                  · refine lv_iconst (v := 0) hx hb dX10_holds_245 (by decide) ?_
                    subst hQ
                    exact W.zret (v := 0) hx hb hr (rfl) (fun t ht hW => ⟨⟨0, (), rfl, ⟨rl_0.to (by decide), (fun h0 => trivial), (fun _ => trivial)⟩, by rw [ht]; exact hw.2.1, va_K.moved hW.alike hK, hw.2.2.1⟩, hw.2.2.2.1.F ht⟩) hw.2.2.2.1.2.2 dX10_holds_246
                  · refine lv_iconst (v := 1) hx hb dX10_holds_241 (by decide) ?_
                    refine lv_goto (tgt := 246) hx hb dX10_holds_242 (by decide) ?_
                    subst hQ
                    exact W.zret (v := 1) hx hb hr (rfl) (fun t ht hW => ⟨⟨1, (), rfl, ⟨rl_1.to (by decide), (fun _ => trivial), (fun h0 => trivial)⟩, by rw [ht]; exact hw.2.1, va_K.moved hW.alike hK, hw.2.2.1⟩, hw.2.2.2.1.F ht⟩) hw.2.2.2.1.2.2 dX10_holds_246
                · refine lv_lookup (tgt := 247) (off := 213) hx hb dX10_holds_34 (by decide) ((lv_osw k_34_1 (by decide)).trans ((lv_osw k_34_2 (by decide)).trans ((lv_osw k_34_3 (by decide)).trans ((lv_osw k_34_69 (by decide)).trans ((lv_osw k_34_70 (by decide)).trans ((lv_osw k_34_71 (by decide)).trans ((lv_osw k_34_72 (by decide)).trans ((lv_osw k_34_73 (by decide)).trans (rfl))))))))) (by decide) ?_
                  refine lv_aload_n hx hb dX10_holds_247 rfl (lv_at hl 3 rfl) ?_
                  refine tg_mem (ci := 10) (C := RX10) (T := TX10) (N := 49) hx hb hts inX10 hown hK hw 14 m_u_8 rfl (by decide) (hts _ tw_1151) (fun _ h9 => h9) dX10_holds_248 ?_
                  refine lv_iload_n hx hb dX10_holds_251 rfl (lv_at hl 2 rfl) ?_
                  refine tg_imem hx hb hK hw h_vu_8 rfl r_v_7 (by decide) m_v_13 dX10_holds_252 ?_
                  refine lv_bipush (v := 50) hx hb dX10_holds_253 (by decide) ?_
                  refine lv_isub hx hb dX10_holds_255 (lv_topi (fun v_26 e_v_26 => ?_))
                  have r_v_26 := ri_any v_26
                  refine lv_istore (lv' := [(6, .int v_26), (5, .int v_12), (4, .int v_10), (3, .int v_7), (0, .ref p0), (1, .int p1), (2, .int p2)]) hx hb dX10_holds_256 hl (by decide) rfl (fun ls hl => ?_)
                  refine lv_iload hx hb dX10_holds_258 (lv_at hl 0 rfl) ?_
                  refine lv_bipush (v := 24) hx hb dX10_holds_260 (by decide) ?_
                  refine lv_icmp_ne (tgt := 273) hx hb dX10_holds_262 (by decide) (fun c_262 => ?_) (fun c_262 => ?_)
                  · refine lv_iload hx hb dX10_holds_273 (lv_at hl 0 rfl) ?_
                    refine lv_bipush (v := 25) hx hb dX10_holds_275 (by decide) ?_
                    refine lv_icmp_ne (tgt := 292) hx hb dX10_holds_277 (by decide) (fun c_277 => ?_) (fun c_277 => ?_)
                    · refine lv_iload hx hb dX10_holds_292 (lv_at hl 0 rfl) ?_
                      refine lv_bipush (v := 26) hx hb dX10_holds_294 (by decide) ?_
                      refine lv_icmp_ne (tgt := 311) hx hb dX10_holds_296 (by decide) (fun c_296 => ?_) (fun c_296 => ?_)
                      · refine lv_iload_n hx hb dX10_holds_311 rfl (lv_at hl 6 rfl) ?_
                        exact B312 v_7 v_10 v_12 v_26 p2 _ _ ls r_p1 r_p2 r_v_7 r_v_10 r_v_12 r_v_26 (r_p2.to (by decide)) hw (lv_sub hl [4, 5, 6, 3, 2, 1, 0] rfl)
                      · have r_v_26 : RI v_26 26 26 := rc_eq1 r_v_26 rl_26 (ti_eq c_296) (by decide)
                        refine lv_aload_n hx hb dX10_holds_299 rfl (lv_at hl 4 rfl) ?_
                        refine tg_mem (ci := 10) (C := RX10) (T := TX10) (N := 49) hx hb hts inX10 hown hK hw 14 m_u_8 rfl (by decide) (hts _ tw_1151) (fun _ h9 => h9) dX10_holds_300 ?_
                        refine lv_bipush (v := 98) hx hb dX10_holds_303 (by decide) ?_
                        refine lv_iload_n hx hb dX10_holds_305 rfl (lv_at hl 6 rfl) ?_
                        refine lv_iadd hx hb dX10_holds_306 (lv_topi (fun v_27 e_v_27 => ?_))
                        obtain ⟨t_v_27, r_v_27⟩ := tq_add (lo := 98) (hi := 103) rl_98 r_p2 (by decide +kernel) e_v_27
                        have t_v_27 : v_27.toInt = 98 + p2.toInt := t_v_27
                        refine tg_iald (lo := (-2147483648)) (hi := 2147483647) hx hb hK hw h_vu_8 rfl 98 103 r_v_27 (by decide) (by decide +kernel) dX10_holds_307 (fun v_28 r_v_28 m_v_28 o_v_28 => ?_)
                        refine lv_goto (tgt := 312) hx hb dX10_holds_308 (by decide) ?_
                        exact B312 v_7 v_10 v_12 v_26 v_28 _ _ ls r_p1 r_p2 r_v_7 r_v_10 r_v_12 (r_v_26.to (by decide)) r_v_28 hw (lv_sub hl [4, 5, 6, 3, 2, 1, 0] rfl)
                    · have r_v_26 : RI v_26 25 25 := rc_eq1 r_v_26 rl_25 (ti_eq c_277) (by decide)
                      refine lv_aload_n hx hb dX10_holds_280 rfl (lv_at hl 4 rfl) ?_
                      refine tg_mem (ci := 10) (C := RX10) (T := TX10) (N := 49) hx hb hts inX10 hown hK hw 14 m_u_8 rfl (by decide) (hts _ tw_1151) (fun _ h9 => h9) dX10_holds_281 ?_
                      refine lv_bipush (v := 92) hx hb dX10_holds_284 (by decide) ?_
                      refine lv_iload_n hx hb dX10_holds_286 rfl (lv_at hl 6 rfl) ?_
                      refine lv_iadd hx hb dX10_holds_287 (lv_topi (fun v_29 e_v_29 => ?_))
                      obtain ⟨t_v_29, r_v_29⟩ := tq_add (lo := 92) (hi := 97) rl_92 r_p2 (by decide +kernel) e_v_29
                      have t_v_29 : v_29.toInt = 92 + p2.toInt := t_v_29
                      refine tg_iald (lo := (-2147483648)) (hi := 2147483647) hx hb hK hw h_vu_8 rfl 92 97 r_v_29 (by decide) (by decide +kernel) dX10_holds_288 (fun v_30 r_v_30 m_v_30 o_v_30 => ?_)
                      refine lv_goto (tgt := 312) hx hb dX10_holds_289 (by decide) ?_
                      exact B312 v_7 v_10 v_12 v_26 v_30 _ _ ls r_p1 r_p2 r_v_7 r_v_10 r_v_12 (r_v_26.to (by decide)) r_v_30 hw (lv_sub hl [4, 5, 6, 3, 2, 1, 0] rfl)
                  · have r_v_26 : RI v_26 24 24 := rc_eq1 r_v_26 rl_24 (ti_eq c_262) (by decide)
                    refine lv_aload_n hx hb dX10_holds_265 rfl (lv_at hl 4 rfl) ?_
                    refine lv_iload_n hx hb dX10_holds_266 rfl (lv_at hl 6 rfl) ?_
                    refine tk_ir (va_runV (As := [.int p2]) (rest := []) ⟨hx, hb, hml, hown, hts⟩ (c_X10_sizeOf l D cy z s.heap.size Ps w0 hw.1 p0 p2 h_p0 r_p2) (cwV 1 hts (gV tw_1453 tw_1455 ts_70 tw_15 tw_1456) rfl rfl rfl (by decide +kernel) ⟨Nat.le_of_ble_eq_true rfl, Nat.le_of_ble_eq_true rfl⟩) (tg_preV hw hK hSD hA (ci := 10) (q := (RX10, TX10, 49)) rfl h_p0 rfl) rfl rfl hl.1 rfl (lv_room (Nat.le_of_ble_eq_true rfl)) dX10_holds_267 ⟨Nat.le_of_ble_eq_true rfl, Nat.le_of_ble_eq_true rfl⟩) hw hA (fun v_31  H locs hp_v_31 hw => ?_)
                    have r_v_31 : RI v_31 (-2147483648) 2147483647 := hp_v_31.1
                    refine lv_goto (tgt := 312) hx hb dX10_holds_270 (by decide) ?_
                    exact B312 v_7 v_10 v_12 v_26 v_31 _ _ ls r_p1 r_p2 r_v_7 r_v_10 r_v_12 (r_v_26.to (by decide)) r_v_31 hw (lv_sub hl [4, 5, 6, 3, 2, 1, 0] rfl)
abbrev wr_X10_holds__18 : List (Nat × Nat) := []
abbrev wa_X10_holds__18 : List Nat := []
set_option maxHeartbeats 4000000 in
set_option maxRecDepth 100000 in
theorem c_X10_holds__18 (l : Launch) (D : va_G) (cy : Nat → ClassId) (z : Nat → Nat) (sz : Nat) (Ps : PSI) (w0 : va_W) (hT : HT cy GG Ps w0) (p0 : Nat) (p1 : Int32) (p2 : Int32) (h_p0 : (p0, 55) ∈ Ps) (r_p1 : RI p1 0 41) (r_p2 : RI p2 0 5) : Met l yX10_holds (Cond.code yX10_holds cX10_holds 8 (some .boolean) :: gT) ({ frames := 44, cells := 0, slots := 0, locals := 8800 } : Room) (va_Pc [.ref p0, .int p1, .int p2] (PRE D cy z w0 sz)) (va_Qi (fun (r : Int32) (u : Unit) => RI r 0 1 ∧ (r = 0 → True) ∧ (¬ r = 0 → True)) (BB D cy (va_A w0 sz) (fun (u : Unit) => w0)) (va_A w0 sz)) 0 0 (va_A w0 sz) := by
  refine Met.ofW (cc := cX10_holds) (maxL := 8) (ret := (some .boolean)) (by decide) rfl ?_
  intro p e s m args below meth c s₁ B hml hv
  obtain ⟨rfl, hsz, hP, hK, hD0, hSD⟩ := hv
  have hx := B.exec
  have hb := B.bytes
  have hr := B.returns
  have hlocks := B.notSynchronized
  have hts : ∀ w ∈ gT, w.before _ s = true := fun w h => atoms_spec (ws := Cond.code yX10_holds cX10_holds 8 (some .boolean) :: gT) B.pre w (List.mem_cons_of_mem _ h)
  have hown : s.vm.findClass RX10 = some m.cls := findClass_of_methodNamed B.named
  subst hsz
  have hD := hD0.self (sz := s.heap.size)
  generalize hAe : va_A w0 s.heap.size = A at hD hSD ⊢
  have hA : ∀ q : Nat, s.heap.size ≤ q → A q := fun q h => by rw [← hAe]; exact Or.inr h
  have hl := lv_entry ([.ref p0, .int p1, .int p2]) (n := 8) (Nat.le_of_ble_eq_true rfl)
  rw [lg_entry_eq]
  generalize (lg_sl ([.ref p0, .int p1, .int p2]) ++ List.replicate (8 - (lg_sl ([.ref p0, .int p1, .int p2])).length) Slot.unset).toArray = ls at hl ⊢
  have hl : lv_has ls 8 [(0, .ref p0), (1, .int p1), (2, .int p2)] := hl
  refine nameQ (fun Q hQ => ?_)
  have hw : WD D cy GG A s wr_X10_holds__18 wa_X10_holds__18 Ps w0 Ps w0 s.heap [] := ⟨hT, hP, hD, va_S.rf, FR.rf, hT.1, [], (List.append_nil _).symm⟩
  have B312 : ∀ (x3 : Int32) (x4 : Int32) (x5 : Int32) (x6 : Int32) (y0 : Int32) (H : Heap) (locs : List Loc) (ls : Array Slot), RI p1 0 41 → RI p2 0 5 → RI x3 174 338 → RI x4 (-2147483648) 2147483647 → RI x5 (-2147483648) 2147483647 → RI x6 (-2147483648) 2147483647 → RI y0 (-2147483648) 2147483647 → WD D cy GG A s wr_X10_holds__18 wa_X10_holds__18 Ps w0 Ps w0 H locs → lv_has ls 8 [(0, .ref p0), (1, .int p1), (2, .int p2), (3, .int x3), (4, .int x4), (5, .int x5), (6, .int x6)] → W p l e (headSpec (Cond.code yX10_holds cX10_holds 8 (some .boolean) :: gT) ({ frames := 44, cells := 0, slots := 0, locals := 8800 } : Room)).room s m ([.ref p0, .int p1, .int p2] : List Value).toArray below meth c H locs 0 0 Q (F0 m 312 ls [.int y0]) := by
    intro x3 x4 x5 x6 y0 H locs ls r_p1 r_p2 r_x3 r_x4 r_x5 r_x6 r_y0 hw hl
    refine lv_istore (lv' := [(7, .int y0), (0, .ref p0), (1, .int p1), (2, .int p2), (3, .int x3), (4, .int x4), (5, .int x5), (6, .int x6)]) hx hb dX10_holds_312 hl (by decide) rfl (fun ls hl => ?_)
    refine lv_aload_n hx hb dX10_holds_314 rfl (lv_at hl 1 rfl) ?_
    refine tg_get (ci := 10) (ts := ty_MODEL) (C := RX10) (T := TX10) (N := 49) hx hb hts inX10 hown hK hw h_p0 rfl rfl 14 (by decide) (hts _ tw_1151) (fun _ h9 => h9) (ft := vR 34) rfl dX10_holds_315 (fun u_1 hv_u_1 m_u_1 => ?_)
    obtain ⟨vu_1, rfl, h_vu_1⟩ := hv_u_1
    refine lv_iload_n hx hb dX10_holds_318 rfl (lv_at hl 4 rfl) ?_
    refine lv_iconst (v := 3) hx hb dX10_holds_319 (by decide) ?_
    refine lv_iadd hx hb dX10_holds_320 (lv_topi (fun v_2 e_v_2 => ?_))
    obtain ⟨t_v_2, r_v_2⟩ := tq_add (lo := 177) (hi := 341) r_x3 rl_3 (by decide +kernel) e_v_2
    have t_v_2 : v_2.toInt = x3.toInt + 3 := t_v_2
    refine tg_iald (lo := (-2147483648)) (hi := 2147483647) hx hb hK hw h_vu_1 rfl 177 341 r_v_2 (by decide) (by decide +kernel) dX10_holds_321 (fun v_3 r_v_3 m_v_3 o_v_3 => ?_)
    refine lv_bipush (v := 60) hx hb dX10_holds_322 (by decide) ?_
    refine lv_icmp_ne (tgt := 342) hx hb dX10_holds_324 (by decide) (fun c_324 => ?_) (fun c_324 => ?_)
    · refine lv_aload_n hx hb dX10_holds_342 rfl (lv_at hl 1 rfl) ?_
      refine tg_mem (ci := 10) (C := RX10) (T := TX10) (N := 49) hx hb hts inX10 hown hK hw 14 m_u_1 rfl (by decide) (hts _ tw_1151) (fun _ h9 => h9) dX10_holds_343 ?_
      refine lv_iload_n hx hb dX10_holds_346 rfl (lv_at hl 4 rfl) ?_
      refine lv_iconst (v := 3) hx hb dX10_holds_347 (by decide) ?_
      refine lv_iadd hx hb dX10_holds_348 (lv_topi (fun v_4 e_v_4 => ?_))
      obtain ⟨t_v_4, r_v_4⟩ := tq_add (lo := 177) (hi := 341) r_x3 rl_3 (by decide +kernel) e_v_4
      have t_v_4 : v_4.toInt = x3.toInt + 3 := t_v_4
      refine tg_iald (lo := (-2147483648)) (hi := 2147483647) hx hb hK hw h_vu_1 rfl 177 341 r_v_4 (by decide) (by decide +kernel) dX10_holds_349 (fun v_5 r_v_5 m_v_5 o_v_5 => ?_)
      refine lv_bipush (v := 61) hx hb dX10_holds_350 (by decide) ?_
      refine lv_icmp_ne (tgt := 370) hx hb dX10_holds_352 (by decide) (fun c_352 => ?_) (fun c_352 => ?_)
      · refine lv_iload hx hb dX10_holds_370 (lv_at hl 0 rfl) ?_
        refine lv_iload hx hb dX10_holds_372 (lv_at hl 6 rfl) ?_
        refine lv_icmp_le (tgt := 381) hx hb dX10_holds_374 (by decide) (fun c_374 => ?_) (fun c_374 => ?_)
        · refine lv_iconst (v := 0) hx hb dX10_holds_381 (by decide) ?_
          subst hQ
          exact W.zret (v := 0) hx hb hr (rfl) (fun t ht hW => ⟨⟨0, (), rfl, ⟨rl_0.to (by decide), (fun h0 => trivial), (fun _ => trivial)⟩, by rw [ht]; exact hw.2.1, va_K.moved hW.alike hK, hw.2.2.1⟩, hw.2.2.2.1.F ht⟩) hw.2.2.2.1.2.2 dX10_holds_382
        · have r_x5 : RI x5 (-2147483648) 2147483646 := rc_lt1 r_x5 r_y0 (ti_nle c_374) (by decide)
          have r_y0 : RI y0 (-2147483647) 2147483647 := rc_lt2 r_x5 r_y0 (ti_nle c_374) (by decide)
          refine lv_iconst (v := 1) hx hb dX10_holds_377 (by decide) ?_
          refine lv_goto (tgt := 382) hx hb dX10_holds_378 (by decide) ?_
          subst hQ
          exact W.zret (v := 1) hx hb hr (rfl) (fun t ht hW => ⟨⟨1, (), rfl, ⟨rl_1.to (by decide), (fun _ => trivial), (fun h0 => trivial)⟩, by rw [ht]; exact hw.2.1, va_K.moved hW.alike hK, hw.2.2.1⟩, hw.2.2.2.1.F ht⟩) hw.2.2.2.1.2.2 dX10_holds_382
      · have r_v_5 : RI v_5 61 61 := rc_eq1 r_v_5 rl_61 (ti_eq c_352) (by decide)
        refine lv_iload hx hb dX10_holds_355 (lv_at hl 0 rfl) ?_
        refine lv_iload hx hb dX10_holds_357 (lv_at hl 6 rfl) ?_
        refine lv_icmp_ne (tgt := 366) hx hb dX10_holds_359 (by decide) (fun c_359 => ?_) (fun c_359 => ?_)
        · refine lv_iconst (v := 0) hx hb dX10_holds_366 (by decide) ?_
          refine lv_goto (tgt := 382) hx hb dX10_holds_367 (by decide) ?_
          subst hQ
          exact W.zret (v := 0) hx hb hr (rfl) (fun t ht hW => ⟨⟨0, (), rfl, ⟨rl_0.to (by decide), (fun h0 => trivial), (fun _ => trivial)⟩, by rw [ht]; exact hw.2.1, va_K.moved hW.alike hK, hw.2.2.1⟩, hw.2.2.2.1.F ht⟩) hw.2.2.2.1.2.2 dX10_holds_382
        · refine lv_iconst (v := 1) hx hb dX10_holds_362 (by decide) ?_
          refine lv_goto (tgt := 382) hx hb dX10_holds_363 (by decide) ?_
          subst hQ
          exact W.zret (v := 1) hx hb hr (rfl) (fun t ht hW => ⟨⟨1, (), rfl, ⟨rl_1.to (by decide), (fun _ => trivial), (fun h0 => trivial)⟩, by rw [ht]; exact hw.2.1, va_K.moved hW.alike hK, hw.2.2.1⟩, hw.2.2.2.1.F ht⟩) hw.2.2.2.1.2.2 dX10_holds_382
    · have r_v_3 : RI v_3 60 60 := rc_eq1 r_v_3 rl_60 (ti_eq c_324) (by decide)
      refine lv_iload hx hb dX10_holds_327 (lv_at hl 0 rfl) ?_
      refine lv_iload hx hb dX10_holds_329 (lv_at hl 6 rfl) ?_
      refine lv_icmp_ge (tgt := 338) hx hb dX10_holds_331 (by decide) (fun c_331 => ?_) (fun c_331 => ?_)
      · refine lv_iconst (v := 0) hx hb dX10_holds_338 (by decide) ?_
        refine lv_goto (tgt := 382) hx hb dX10_holds_339 (by decide) ?_
        subst hQ
        exact W.zret (v := 0) hx hb hr (rfl) (fun t ht hW => ⟨⟨0, (), rfl, ⟨rl_0.to (by decide), (fun h0 => trivial), (fun _ => trivial)⟩, by rw [ht]; exact hw.2.1, va_K.moved hW.alike hK, hw.2.2.1⟩, hw.2.2.2.1.F ht⟩) hw.2.2.2.1.2.2 dX10_holds_382
      · have r_y0 : RI y0 (-2147483648) 2147483646 := rc_lt1 r_y0 r_x5 (ti_nle c_331) (by decide)
        have r_x5 : RI x5 (-2147483647) 2147483647 := rc_lt2 r_y0 r_x5 (ti_nle c_331) (by decide)
        refine lv_iconst (v := 1) hx hb dX10_holds_334 (by decide) ?_
        refine lv_goto (tgt := 382) hx hb dX10_holds_335 (by decide) ?_
        subst hQ
        exact W.zret (v := 1) hx hb hr (rfl) (fun t ht hW => ⟨⟨1, (), rfl, ⟨rl_1.to (by decide), (fun _ => trivial), (fun h0 => trivial)⟩, by rw [ht]; exact hw.2.1, va_K.moved hW.alike hK, hw.2.2.1⟩, hw.2.2.2.1.F ht⟩) hw.2.2.2.1.2.2 dX10_holds_382
  refine lv_sipush (v := 174) hx hb dX10_holds_0 (by decide) ?_
  refine lv_iconst (v := 4) hx hb dX10_holds_3 (by decide) ?_
  refine lv_iload_n hx hb dX10_holds_4 rfl (lv_at hl 1 rfl) ?_
  refine lv_imul hx hb dX10_holds_5 (lv_topi (fun v_6 e_v_6 => ?_))
  obtain ⟨t_v_6, r_v_6⟩ := tq_mul (lo := 0) (hi := 164) rl_4 r_p1 (by decide +kernel) e_v_6
  have t_v_6 : v_6.toInt = 4 * p1.toInt := t_v_6
  refine lv_iadd hx hb dX10_holds_6 (lv_topi (fun v_7 e_v_7 => ?_))
  obtain ⟨t_v_7, r_v_7⟩ := tq_add (lo := 174) (hi := 338) rl_174 r_v_6 (by decide +kernel) e_v_7
  have t_v_7 : v_7.toInt = 174 + v_6.toInt := t_v_7
  refine lv_istore_n (lv' := [(3, .int v_7), (0, .ref p0), (1, .int p1), (2, .int p2)]) hx hb dX10_holds_7 rfl hl (by decide) rfl (fun ls hl => ?_)
  refine lv_aload_n hx hb dX10_holds_8 rfl (lv_at hl 1 rfl) ?_
  refine tg_get (ci := 10) (ts := ty_MODEL) (C := RX10) (T := TX10) (N := 49) hx hb hts inX10 hown hK hw h_p0 rfl rfl 14 (by decide) (hts _ tw_1151) (fun _ h9 => h9) (ft := vR 34) rfl dX10_holds_9 (fun u_8 hv_u_8 m_u_8 => ?_)
  obtain ⟨vu_8, rfl, h_vu_8⟩ := hv_u_8
  refine lv_iload_n hx hb dX10_holds_12 rfl (lv_at hl 0 rfl) ?_
  refine lv_iconst (v := 1) hx hb dX10_holds_13 (by decide) ?_
  refine lv_iadd hx hb dX10_holds_14 (lv_topi (fun v_9 e_v_9 => ?_))
  obtain ⟨t_v_9, r_v_9⟩ := tq_add (lo := 175) (hi := 339) r_v_7 rl_1 (by decide +kernel) e_v_9
  have t_v_9 : v_9.toInt = v_7.toInt + 1 := t_v_9
  refine tg_iald (lo := (-2147483648)) (hi := 2147483647) hx hb hK hw h_vu_8 rfl 175 339 r_v_9 (by decide) (by decide +kernel) dX10_holds_15 (fun v_10 r_v_10 m_v_10 o_v_10 => ?_)
  refine lv_istore (lv' := [(4, .int v_10), (3, .int v_7), (0, .ref p0), (1, .int p1), (2, .int p2)]) hx hb dX10_holds_16 hl (by decide) rfl (fun ls hl => ?_)
  refine lv_aload_n hx hb dX10_holds_18 rfl (lv_at hl 2 rfl) ?_
  refine tg_mem (ci := 10) (C := RX10) (T := TX10) (N := 49) hx hb hts inX10 hown hK hw 14 m_u_8 rfl (by decide) (hts _ tw_1151) (fun _ h9 => h9) dX10_holds_19 ?_
  refine lv_iload_n hx hb dX10_holds_22 rfl (lv_at hl 1 rfl) ?_
  refine lv_iconst (v := 2) hx hb dX10_holds_23 (by decide) ?_
  refine lv_iadd hx hb dX10_holds_24 (lv_topi (fun v_11 e_v_11 => ?_))
  obtain ⟨t_v_11, r_v_11⟩ := tq_add (lo := 176) (hi := 340) r_v_7 rl_2 (by decide +kernel) e_v_11
  have t_v_11 : v_11.toInt = v_7.toInt + 2 := t_v_11
  refine tg_iald (lo := (-2147483648)) (hi := 2147483647) hx hb hK hw h_vu_8 rfl 176 340 r_v_11 (by decide) (by decide +kernel) dX10_holds_25 (fun v_12 r_v_12 m_v_12 o_v_12 => ?_)
  refine lv_istore (lv' := [(5, .int v_12), (4, .int v_10), (3, .int v_7), (0, .ref p0), (1, .int p1), (2, .int p2)]) hx hb dX10_holds_26 hl (by decide) rfl (fun ls hl => ?_)
  refine lv_aload_n hx hb dX10_holds_28 rfl (lv_at hl 3 rfl) ?_
  refine tg_mem (ci := 10) (C := RX10) (T := TX10) (N := 49) hx hb hts inX10 hown hK hw 14 m_u_8 rfl (by decide) (hts _ tw_1151) (fun _ h9 => h9) dX10_holds_29 ?_
  refine lv_iload_n hx hb dX10_holds_32 rfl (lv_at hl 2 rfl) ?_
  refine tg_iald (lo := (-2147483648)) (hi := 2147483647) hx hb hK hw h_vu_8 rfl 174 338 r_v_7 (by decide) (by decide +kernel) dX10_holds_33 (fun v_13 r_v_13 m_v_13 o_v_13 => ?_)
  by_cases k_34_1 : v_13 = 1
  · refine lv_lookup (tgt := 108) (off := 74) hx hb dX10_holds_34 (by decide) (by rw [k_34_1]; decide) (by decide) ?_
    have r_v_13 : RI v_13 1 1 := by rw [k_34_1]; exact rl_1
    have g_v_10 : 0 ≤ v_10.toInt ∧ v_10.toInt < p1.toInt := by obtain ⟨_, f9, e8, e7, q9, _⟩ := ax_of (k := 14) (t := 34) hw h_p0 rfl (fun _ => rfl); cases FLD.inj hw.2.2.1 e8 m_u_8; have t9 := ARR.ael hw.2.2.1 e7 m_v_13; have x9 := ARR.ael hw.2.2.1 e7 m_v_10; rw [show Int32.toNatClampNeg v_7 = 174 + 4 * Int32.toNatClampNeg p1 from (by have k1 := r_v_7.cl (by decide); have k2 := r_p1.cl (by decide); omega)] at t9; rw [show Int32.toNatClampNeg v_9 = 175 + 4 * Int32.toNatClampNeg p1 from (by have k1 := r_v_9.cl (by decide); have k2 := r_p1.cl (by decide); omega)] at x9; exact RN_child q9 (r_p1.to (by decide)) t9 x9 (r_v_13.to (by decide))
    have r_v_10 : RI v_10 0 40 := ⟨g_v_10.1, by have k1 := r_p1.2; omega⟩
    refine lv_aload_n hx hb dX10_holds_108 rfl (lv_at hl 3 rfl) ?_
    refine lv_iload hx hb dX10_holds_109 (lv_at hl 1 rfl) ?_
    refine lv_iload_n hx hb dX10_holds_111 rfl (lv_at hl 5 rfl) ?_
    refine tk_ir (va_runV (As := [.int v_10, .int p2]) (rest := []) ⟨hx, hb, hml, hown, hts⟩ (c_X10_holds__19 l D cy z s.heap.size Ps w0 hw.1 p0 v_10 p2 h_p0 r_v_10 r_p2) (cwV 2 hts (gV tw_1787 tw_1789 ts_119 tw_15 tw_1790) rfl rfl rfl (by decide +kernel) ⟨Nat.le_of_ble_eq_true rfl, Nat.le_of_ble_eq_true rfl⟩) (tg_preV hw hK hSD hA (ci := 10) (q := (RX10, TX10, 49)) rfl h_p0 rfl) rfl rfl hl.1 rfl (lv_room (Nat.le_of_ble_eq_true rfl)) dX10_holds_112 ⟨Nat.le_of_ble_eq_true rfl, Nat.le_of_ble_eq_true rfl⟩) hw hA (fun v_14  H locs hp_v_14 hw => ?_)
    have r_v_14 : RI v_14 0 1 := hp_v_14.1
    refine lv_if_ne (tgt := 122) hx hb dX10_holds_115 (by decide) (fun c_115 => ?_) (fun c_115 => ?_)
    · have r_v_14 : RI v_14 1 1 := rc_neL r_v_14 rl_0 (ti_ne c_115) (by decide)
      refine lv_iconst (v := 0) hx hb dX10_holds_122 (by decide) ?_
      subst hQ
      exact W.zret (v := 0) hx hb hr (rfl) (fun t ht hW => ⟨⟨0, (), rfl, ⟨rl_0.to (by decide), (fun h0 => trivial), (fun _ => trivial)⟩, by rw [ht]; exact hw.2.1, va_K.moved hW.alike hK, hw.2.2.1⟩, hw.2.2.2.1.F ht⟩) hw.2.2.2.1.2.2 dX10_holds_123
    · have r_v_14 : RI v_14 0 0 := rc_eq1 r_v_14 rl_0 (ti_eq c_115) (by decide)
      refine lv_iconst (v := 1) hx hb dX10_holds_118 (by decide) ?_
      refine lv_goto (tgt := 123) hx hb dX10_holds_119 (by decide) ?_
      subst hQ
      exact W.zret (v := 1) hx hb hr (rfl) (fun t ht hW => ⟨⟨1, (), rfl, ⟨rl_1.to (by decide), (fun _ => trivial), (fun h0 => trivial)⟩, by rw [ht]; exact hw.2.1, va_K.moved hW.alike hK, hw.2.2.1⟩, hw.2.2.2.1.F ht⟩) hw.2.2.2.1.2.2 dX10_holds_123
  · by_cases k_34_2 : v_13 = 2
    · refine lv_lookup (tgt := 124) (off := 90) hx hb dX10_holds_34 (by decide) (by rw [k_34_2]; decide) (by decide) ?_
      have r_v_13 : RI v_13 2 2 := by rw [k_34_2]; exact rl_2
      have g_v_10 : 0 ≤ v_10.toInt ∧ v_10.toInt < p1.toInt := by obtain ⟨_, f9, e8, e7, q9, _⟩ := ax_of (k := 14) (t := 34) hw h_p0 rfl (fun _ => rfl); cases FLD.inj hw.2.2.1 e8 m_u_8; have t9 := ARR.ael hw.2.2.1 e7 m_v_13; have x9 := ARR.ael hw.2.2.1 e7 m_v_10; rw [show Int32.toNatClampNeg v_7 = 174 + 4 * Int32.toNatClampNeg p1 from (by have k1 := r_v_7.cl (by decide); have k2 := r_p1.cl (by decide); omega)] at t9; rw [show Int32.toNatClampNeg v_9 = 175 + 4 * Int32.toNatClampNeg p1 from (by have k1 := r_v_9.cl (by decide); have k2 := r_p1.cl (by decide); omega)] at x9; exact RN_child q9 (r_p1.to (by decide)) t9 x9 (r_v_13.to (by decide))
      have r_v_10 : RI v_10 0 40 := ⟨g_v_10.1, by have k1 := r_p1.2; omega⟩
      have g_v_12 : 0 ≤ v_12.toInt ∧ v_12.toInt < p1.toInt := by obtain ⟨_, f9, e8, e7, q9, _⟩ := ax_of (k := 14) (t := 34) hw h_p0 rfl (fun _ => rfl); cases FLD.inj hw.2.2.1 e8 m_u_8; have t9 := ARR.ael hw.2.2.1 e7 m_v_13; have x9 := ARR.ael hw.2.2.1 e7 m_v_12; rw [show Int32.toNatClampNeg v_7 = 174 + 4 * Int32.toNatClampNeg p1 from (by have k1 := r_v_7.cl (by decide); have k2 := r_p1.cl (by decide); omega)] at t9; rw [show Int32.toNatClampNeg v_11 = 176 + 4 * Int32.toNatClampNeg p1 from (by have k1 := r_v_11.cl (by decide); have k2 := r_p1.cl (by decide); omega)] at x9; exact RN_child2 q9 (r_p1.to (by decide)) t9 x9 (r_v_13.to (by decide))
      have r_v_12 : RI v_12 0 40 := ⟨g_v_12.1, by have k1 := r_p1.2; omega⟩
      refine lv_aload_n hx hb dX10_holds_124 rfl (lv_at hl 3 rfl) ?_
      refine lv_iload hx hb dX10_holds_125 (lv_at hl 1 rfl) ?_
      refine lv_iload_n hx hb dX10_holds_127 rfl (lv_at hl 5 rfl) ?_
      refine tk_ir (va_runV (As := [.int v_10, .int p2]) (rest := []) ⟨hx, hb, hml, hown, hts⟩ (c_X10_holds__19 l D cy z s.heap.size Ps w0 hw.1 p0 v_10 p2 h_p0 r_v_10 r_p2) (cwV 2 hts (gV tw_1787 tw_1789 ts_119 tw_15 tw_1790) rfl rfl rfl (by decide +kernel) ⟨Nat.le_of_ble_eq_true rfl, Nat.le_of_ble_eq_true rfl⟩) (tg_preV hw hK hSD hA (ci := 10) (q := (RX10, TX10, 49)) rfl h_p0 rfl) rfl rfl hl.1 rfl (lv_room (Nat.le_of_ble_eq_true rfl)) dX10_holds_128 ⟨Nat.le_of_ble_eq_true rfl, Nat.le_of_ble_eq_true rfl⟩) hw hA (fun v_15  H locs hp_v_15 hw => ?_)
      have r_v_15 : RI v_15 0 1 := hp_v_15.1
      refine lv_if_eq (tgt := 148) hx hb dX10_holds_131 (by decide) (fun c_131 => ?_) (fun c_131 => ?_)
      · have r_v_15 : RI v_15 0 0 := rc_eq1 r_v_15 rl_0 (ti_eq c_131) (by decide)
        refine lv_iconst (v := 0) hx hb dX10_holds_148 (by decide) ?_
        subst hQ
        exact W.zret (v := 0) hx hb hr (rfl) (fun t ht hW => ⟨⟨0, (), rfl, ⟨rl_0.to (by decide), (fun h0 => trivial), (fun _ => trivial)⟩, by rw [ht]; exact hw.2.1, va_K.moved hW.alike hK, hw.2.2.1⟩, hw.2.2.2.1.F ht⟩) hw.2.2.2.1.2.2 dX10_holds_149
      · have r_v_15 : RI v_15 1 1 := rc_neL r_v_15 rl_0 (ti_ne c_131) (by decide)
        refine lv_aload_n hx hb dX10_holds_134 rfl (lv_at hl 3 rfl) ?_
        refine lv_iload hx hb dX10_holds_135 (lv_at hl 0 rfl) ?_
        refine lv_iload_n hx hb dX10_holds_137 rfl (lv_at hl 5 rfl) ?_
        refine tk_ir (va_runV (As := [.int v_12, .int p2]) (rest := []) ⟨hx, hb, hml, hown, hts⟩ (c_X10_holds__19 l D cy z H.size Ps w0 hw.1 p0 v_12 p2 h_p0 r_v_12 r_p2) (cwV 2 hts (gV tw_1787 tw_1789 ts_119 tw_15 tw_1790) rfl rfl rfl (by decide +kernel) ⟨Nat.le_of_ble_eq_true rfl, Nat.le_of_ble_eq_true rfl⟩) (tg_preV hw hK hSD hA (ci := 10) (q := (RX10, TX10, 49)) rfl h_p0 rfl) rfl rfl hl.1 rfl (lv_room (Nat.le_of_ble_eq_true rfl)) dX10_holds_138 ⟨Nat.le_of_ble_eq_true rfl, Nat.le_of_ble_eq_true rfl⟩) hw hA (fun v_16  H locs hp_v_16 hw => ?_)
        have r_v_16 : RI v_16 0 1 := hp_v_16.1
        refine lv_if_eq (tgt := 148) hx hb dX10_holds_141 (by decide) (fun c_141 => ?_) (fun c_141 => ?_)
        · have r_v_16 : RI v_16 0 0 := rc_eq1 r_v_16 rl_0 (ti_eq c_141) (by decide)
          refine lv_iconst (v := 0) hx hb dX10_holds_148 (by decide) ?_
          subst hQ
          exact W.zret (v := 0) hx hb hr (rfl) (fun t ht hW => ⟨⟨0, (), rfl, ⟨rl_0.to (by decide), (fun h0 => trivial), (fun _ => trivial)⟩, by rw [ht]; exact hw.2.1, va_K.moved hW.alike hK, hw.2.2.1⟩, hw.2.2.2.1.F ht⟩) hw.2.2.2.1.2.2 dX10_holds_149
        · have r_v_16 : RI v_16 1 1 := rc_neL r_v_16 rl_0 (ti_ne c_141) (by decide)
          refine lv_iconst (v := 1) hx hb dX10_holds_144 (by decide) ?_
          refine lv_goto (tgt := 149) hx hb dX10_holds_145 (by decide) ?_
          subst hQ
          exact W.zret (v := 1) hx hb hr (rfl) (fun t ht hW => ⟨⟨1, (), rfl, ⟨rl_1.to (by decide), (fun _ => trivial), (fun h0 => trivial)⟩, by rw [ht]; exact hw.2.1, va_K.moved hW.alike hK, hw.2.2.1⟩, hw.2.2.2.1.F ht⟩) hw.2.2.2.1.2.2 dX10_holds_149
    · by_cases k_34_3 : v_13 = 3
      · refine lv_lookup (tgt := 150) (off := 116) hx hb dX10_holds_34 (by decide) (by rw [k_34_3]; decide) (by decide) ?_
        have r_v_13 : RI v_13 3 3 := by rw [k_34_3]; exact rl_3
        have g_v_10 : 0 ≤ v_10.toInt ∧ v_10.toInt < p1.toInt := by obtain ⟨_, f9, e8, e7, q9, _⟩ := ax_of (k := 14) (t := 34) hw h_p0 rfl (fun _ => rfl); cases FLD.inj hw.2.2.1 e8 m_u_8; have t9 := ARR.ael hw.2.2.1 e7 m_v_13; have x9 := ARR.ael hw.2.2.1 e7 m_v_10; rw [show Int32.toNatClampNeg v_7 = 174 + 4 * Int32.toNatClampNeg p1 from (by have k1 := r_v_7.cl (by decide); have k2 := r_p1.cl (by decide); omega)] at t9; rw [show Int32.toNatClampNeg v_9 = 175 + 4 * Int32.toNatClampNeg p1 from (by have k1 := r_v_9.cl (by decide); have k2 := r_p1.cl (by decide); omega)] at x9; exact RN_child q9 (r_p1.to (by decide)) t9 x9 (r_v_13.to (by decide))
        have r_v_10 : RI v_10 0 40 := ⟨g_v_10.1, by have k1 := r_p1.2; omega⟩
        have g_v_12 : 0 ≤ v_12.toInt ∧ v_12.toInt < p1.toInt := by obtain ⟨_, f9, e8, e7, q9, _⟩ := ax_of (k := 14) (t := 34) hw h_p0 rfl (fun _ => rfl); cases FLD.inj hw.2.2.1 e8 m_u_8; have t9 := ARR.ael hw.2.2.1 e7 m_v_13; have x9 := ARR.ael hw.2.2.1 e7 m_v_12; rw [show Int32.toNatClampNeg v_7 = 174 + 4 * Int32.toNatClampNeg p1 from (by have k1 := r_v_7.cl (by decide); have k2 := r_p1.cl (by decide); omega)] at t9; rw [show Int32.toNatClampNeg v_11 = 176 + 4 * Int32.toNatClampNeg p1 from (by have k1 := r_v_11.cl (by decide); have k2 := r_p1.cl (by decide); omega)] at x9; exact RN_child2 q9 (r_p1.to (by decide)) t9 x9 (r_v_13.to (by decide))
        have r_v_12 : RI v_12 0 40 := ⟨g_v_12.1, by have k1 := r_p1.2; omega⟩
        refine lv_aload_n hx hb dX10_holds_150 rfl (lv_at hl 3 rfl) ?_
        refine lv_iload hx hb dX10_holds_151 (lv_at hl 1 rfl) ?_
        refine lv_iload_n hx hb dX10_holds_153 rfl (lv_at hl 5 rfl) ?_
        refine tk_ir (va_runV (As := [.int v_10, .int p2]) (rest := []) ⟨hx, hb, hml, hown, hts⟩ (c_X10_holds__19 l D cy z s.heap.size Ps w0 hw.1 p0 v_10 p2 h_p0 r_v_10 r_p2) (cwV 2 hts (gV tw_1787 tw_1789 ts_119 tw_15 tw_1790) rfl rfl rfl (by decide +kernel) ⟨Nat.le_of_ble_eq_true rfl, Nat.le_of_ble_eq_true rfl⟩) (tg_preV hw hK hSD hA (ci := 10) (q := (RX10, TX10, 49)) rfl h_p0 rfl) rfl rfl hl.1 rfl (lv_room (Nat.le_of_ble_eq_true rfl)) dX10_holds_154 ⟨Nat.le_of_ble_eq_true rfl, Nat.le_of_ble_eq_true rfl⟩) hw hA (fun v_17  H locs hp_v_17 hw => ?_)
        have r_v_17 : RI v_17 0 1 := hp_v_17.1
        refine lv_if_ne (tgt := 170) hx hb dX10_holds_157 (by decide) (fun c_157 => ?_) (fun c_157 => ?_)
        · have r_v_17 : RI v_17 1 1 := rc_neL r_v_17 rl_0 (ti_ne c_157) (by decide)
          refine lv_iconst (v := 1) hx hb dX10_holds_170 (by decide) ?_
          refine lv_goto (tgt := 175) hx hb dX10_holds_171 (by decide) ?_
          subst hQ
          exact W.zret (v := 1) hx hb hr (rfl) (fun t ht hW => ⟨⟨1, (), rfl, ⟨rl_1.to (by decide), (fun _ => trivial), (fun h0 => trivial)⟩, by rw [ht]; exact hw.2.1, va_K.moved hW.alike hK, hw.2.2.1⟩, hw.2.2.2.1.F ht⟩) hw.2.2.2.1.2.2 dX10_holds_175
        · have r_v_17 : RI v_17 0 0 := rc_eq1 r_v_17 rl_0 (ti_eq c_157) (by decide)
          refine lv_aload_n hx hb dX10_holds_160 rfl (lv_at hl 3 rfl) ?_
          refine lv_iload hx hb dX10_holds_161 (lv_at hl 0 rfl) ?_
          refine lv_iload_n hx hb dX10_holds_163 rfl (lv_at hl 5 rfl) ?_
          refine tk_ir (va_runV (As := [.int v_12, .int p2]) (rest := []) ⟨hx, hb, hml, hown, hts⟩ (c_X10_holds__19 l D cy z H.size Ps w0 hw.1 p0 v_12 p2 h_p0 r_v_12 r_p2) (cwV 2 hts (gV tw_1787 tw_1789 ts_119 tw_15 tw_1790) rfl rfl rfl (by decide +kernel) ⟨Nat.le_of_ble_eq_true rfl, Nat.le_of_ble_eq_true rfl⟩) (tg_preV hw hK hSD hA (ci := 10) (q := (RX10, TX10, 49)) rfl h_p0 rfl) rfl rfl hl.1 rfl (lv_room (Nat.le_of_ble_eq_true rfl)) dX10_holds_164 ⟨Nat.le_of_ble_eq_true rfl, Nat.le_of_ble_eq_true rfl⟩) hw hA (fun v_18  H locs hp_v_18 hw => ?_)
          have r_v_18 : RI v_18 0 1 := hp_v_18.1
          refine lv_if_eq (tgt := 174) hx hb dX10_holds_167 (by decide) (fun c_167 => ?_) (fun c_167 => ?_)
          · have r_v_18 : RI v_18 0 0 := rc_eq1 r_v_18 rl_0 (ti_eq c_167) (by decide)
            refine lv_iconst (v := 0) hx hb dX10_holds_174 (by decide) ?_
            subst hQ
            exact W.zret (v := 0) hx hb hr (rfl) (fun t ht hW => ⟨⟨0, (), rfl, ⟨rl_0.to (by decide), (fun h0 => trivial), (fun _ => trivial)⟩, by rw [ht]; exact hw.2.1, va_K.moved hW.alike hK, hw.2.2.1⟩, hw.2.2.2.1.F ht⟩) hw.2.2.2.1.2.2 dX10_holds_175
          · have r_v_18 : RI v_18 1 1 := rc_neL r_v_18 rl_0 (ti_ne c_167) (by decide)
            refine lv_iconst (v := 1) hx hb dX10_holds_170 (by decide) ?_
            refine lv_goto (tgt := 175) hx hb dX10_holds_171 (by decide) ?_
            subst hQ
            exact W.zret (v := 1) hx hb hr (rfl) (fun t ht hW => ⟨⟨1, (), rfl, ⟨rl_1.to (by decide), (fun _ => trivial), (fun h0 => trivial)⟩, by rw [ht]; exact hw.2.1, va_K.moved hW.alike hK, hw.2.2.1⟩, hw.2.2.2.1.F ht⟩) hw.2.2.2.1.2.2 dX10_holds_175
      · by_cases k_34_69 : v_13 = 69
        · refine lv_lookup (tgt := 176) (off := 142) hx hb dX10_holds_34 (by decide) (by rw [k_34_69]; decide) (by decide) ?_
          have r_v_13 : RI v_13 69 69 := by rw [k_34_69]; exact rl_69
          refine lv_aload_n hx hb dX10_holds_176 rfl (lv_at hl 3 rfl) ?_
          refine lv_iload_n hx hb dX10_holds_177 rfl (lv_at hl 5 rfl) ?_
          refine tk_ir (va_runV (As := [.int p2]) (rest := []) ⟨hx, hb, hml, hown, hts⟩ (c_X10_isOpen l D cy z s.heap.size Ps w0 hw.1 p0 p2 h_p0 (r_p2.to (by decide))) (cwV 1 hts (gV tw_1457 tw_1459 ts_71 tw_15 tw_1460) rfl rfl rfl (by decide +kernel) ⟨Nat.le_of_ble_eq_true rfl, Nat.le_of_ble_eq_true rfl⟩) (tg_preV hw hK hSD hA (ci := 10) (q := (RX10, TX10, 49)) rfl h_p0 rfl) rfl rfl hl.1 rfl (lv_room (Nat.le_of_ble_eq_true rfl)) dX10_holds_178 ⟨Nat.le_of_ble_eq_true rfl, Nat.le_of_ble_eq_true rfl⟩) hw hA (fun v_19  H locs hp_v_19 hw => ?_)
          have r_v_19 : RI v_19 0 1 := hp_v_19.1
          subst hQ
          exact W.zret (v := v_19) hx hb hr (tq_nz (r_v_19.to (by decide))) (fun t ht hW => ⟨⟨v_19, (), rfl, ⟨r_v_19.to (by decide), (fun h0 => trivial), (fun h0 => trivial)⟩, by rw [ht]; exact hw.2.1, va_K.moved hW.alike hK, hw.2.2.1⟩, hw.2.2.2.1.F ht⟩) hw.2.2.2.1.2.2 dX10_holds_181
        · by_cases k_34_70 : v_13 = 70
          · refine lv_lookup (tgt := 182) (off := 148) hx hb dX10_holds_34 (by decide) (by rw [k_34_70]; decide) (by decide) ?_
            have r_v_13 : RI v_13 70 70 := by rw [k_34_70]; exact rl_70
            refine lv_aload_n hx hb dX10_holds_182 rfl (lv_at hl 3 rfl) ?_
            refine lv_iload_n hx hb dX10_holds_183 rfl (lv_at hl 5 rfl) ?_
            refine tk_ir (va_runV (As := [.int p2]) (rest := []) ⟨hx, hb, hml, hown, hts⟩ (c_X10_whatIs l D cy z s.heap.size Ps w0 hw.1 p0 p2 h_p0 r_p2) (cwV 1 hts (gV tw_1449 tw_1451 ts_69 tw_15 tw_1452) rfl rfl rfl (by decide +kernel) ⟨Nat.le_of_ble_eq_true rfl, Nat.le_of_ble_eq_true rfl⟩) (tg_preV hw hK hSD hA (ci := 10) (q := (RX10, TX10, 49)) rfl h_p0 rfl) rfl rfl hl.1 rfl (lv_room (Nat.le_of_ble_eq_true rfl)) dX10_holds_184 ⟨Nat.le_of_ble_eq_true rfl, Nat.le_of_ble_eq_true rfl⟩) hw hA (fun v_20  H locs hp_v_20 hw => ?_)
            have r_v_20 : RI v_20 (-1) 5 := hp_v_20.1
            by_cases c9_v_20 : v_20.toInt < 0
            · have r_v_20 : RI v_20 (-1) (-1) := by unfold RI at r_v_20 ⊢; omega
              have x_NB_p0_p2 := (hp_v_20.2.2.2.2.1 (by omega)).1
              refine lv_iconst (v := (-1)) hx hb dX10_holds_187 (by decide) ?_
              refine lv_icmp_ne (tgt := 195) hx hb dX10_holds_188 (by decide) (fun c_188 => ?_) (fun c_188 => ?_)
              · exact absurd (r_v_20.eq.trans rl_m1.eq.symm) ((ti_ne c_188))
              · refine lv_iconst (v := 1) hx hb dX10_holds_191 (by decide) ?_
                refine lv_goto (tgt := 196) hx hb dX10_holds_192 (by decide) ?_
                subst hQ
                exact W.zret (v := 1) hx hb hr (rfl) (fun t ht hW => ⟨⟨1, (), rfl, ⟨rl_1.to (by decide), (fun _ => trivial), (fun h0 => trivial)⟩, by rw [ht]; exact hw.2.1, va_K.moved hW.alike hK, hw.2.2.1⟩, hw.2.2.2.1.F ht⟩) hw.2.2.2.1.2.2 dX10_holds_196
            · have r_v_20 : RI v_20 0 5 := by unfold RI at r_v_20 ⊢; omega
              have x_WB_p0_p2_v_20 := (hp_v_20.2.2.2.2.2 (by omega)).1
              refine lv_iconst (v := (-1)) hx hb dX10_holds_187 (by decide) ?_
              refine lv_icmp_ne (tgt := 195) hx hb dX10_holds_188 (by decide) (fun c_188 => ?_) (fun c_188 => ?_)
              · refine lv_iconst (v := 0) hx hb dX10_holds_195 (by decide) ?_
                subst hQ
                exact W.zret (v := 0) hx hb hr (rfl) (fun t ht hW => ⟨⟨0, (), rfl, ⟨rl_0.to (by decide), (fun h0 => trivial), (fun _ => trivial)⟩, by rw [ht]; exact hw.2.1, va_K.moved hW.alike hK, hw.2.2.1⟩, hw.2.2.2.1.F ht⟩) hw.2.2.2.1.2.2 dX10_holds_196
              · have r_v_20 : RI v_20 0 (-1) := rc_eq1 r_v_20 rl_m1 (ti_eq c_188) (by decide)
                exact (r_v_20.no (by decide)).elim
          · by_cases k_34_71 : v_13 = 71
            · refine lv_lookup (tgt := 197) (off := 163) hx hb dX10_holds_34 (by decide) (by rw [k_34_71]; decide) (by decide) ?_
              have r_v_13 : RI v_13 71 71 := by rw [k_34_71]; exact rl_71
              refine lv_aload_n hx hb dX10_holds_197 rfl (lv_at hl 3 rfl) ?_
              refine lv_iload_n hx hb dX10_holds_198 rfl (lv_at hl 5 rfl) ?_
              refine tk_ir (va_runV (As := [.int p2]) (rest := []) ⟨hx, hb, hml, hown, hts⟩ (c_X10_sittersOf l D cy z s.heap.size Ps w0 hw.1 p0 p2 h_p0 (r_p2.to (by decide))) (cwV 1 hts (gV tw_1461 tw_1463 ts_72 tw_15 tw_1464) rfl rfl rfl (by decide +kernel) ⟨Nat.le_of_ble_eq_true rfl, Nat.le_of_ble_eq_true rfl⟩) (tg_preV hw hK hSD hA (ci := 10) (q := (RX10, TX10, 49)) rfl h_p0 rfl) rfl rfl hl.1 rfl (lv_room (Nat.le_of_ble_eq_true rfl)) dX10_holds_199 ⟨Nat.le_of_ble_eq_true rfl, Nat.le_of_ble_eq_true rfl⟩) hw hA (fun v_21  H locs hp_v_21 hw => ?_)
              have r_v_21 : RI v_21 (-2147483648) 2147483647 := hp_v_21.1
              refine lv_if_eq (tgt := 209) hx hb dX10_holds_202 (by decide) (fun c_202 => ?_) (fun c_202 => ?_)
              · have r_v_21 : RI v_21 0 0 := rc_eq1 r_v_21 rl_0 (ti_eq c_202) (by decide)
                refine lv_iconst (v := 0) hx hb dX10_holds_209 (by decide) ?_
                subst hQ
                exact W.zret (v := 0) hx hb hr (rfl) (fun t ht hW => ⟨⟨0, (), rfl, ⟨rl_0.to (by decide), (fun h0 => trivial), (fun _ => trivial)⟩, by rw [ht]; exact hw.2.1, va_K.moved hW.alike hK, hw.2.2.1⟩, hw.2.2.2.1.F ht⟩) hw.2.2.2.1.2.2 dX10_holds_210
              · refine lv_iconst (v := 1) hx hb dX10_holds_205 (by decide) ?_
                refine lv_goto (tgt := 210) hx hb dX10_holds_206 (by decide) ?_
                subst hQ
                exact W.zret (v := 1) hx hb hr (rfl) (fun t ht hW => ⟨⟨1, (), rfl, ⟨rl_1.to (by decide), (fun _ => trivial), (fun h0 => trivial)⟩, by rw [ht]; exact hw.2.1, va_K.moved hW.alike hK, hw.2.2.1⟩, hw.2.2.2.1.F ht⟩) hw.2.2.2.1.2.2 dX10_holds_210
            · by_cases k_34_72 : v_13 = 72
              · refine lv_lookup (tgt := 211) (off := 177) hx hb dX10_holds_34 (by decide) (by rw [k_34_72]; decide) (by decide) ?_
                have r_v_13 : RI v_13 72 72 := by rw [k_34_72]; exact rl_72
                refine lv_aload_n hx hb dX10_holds_211 rfl (lv_at hl 3 rfl) ?_
                refine lv_iload_n hx hb dX10_holds_212 rfl (lv_at hl 5 rfl) ?_
                refine tk_ir (va_runV (As := [.int p2]) (rest := []) ⟨hx, hb, hml, hown, hts⟩ (c_X10_whatIs l D cy z s.heap.size Ps w0 hw.1 p0 p2 h_p0 r_p2) (cwV 1 hts (gV tw_1449 tw_1451 ts_69 tw_15 tw_1452) rfl rfl rfl (by decide +kernel) ⟨Nat.le_of_ble_eq_true rfl, Nat.le_of_ble_eq_true rfl⟩) (tg_preV hw hK hSD hA (ci := 10) (q := (RX10, TX10, 49)) rfl h_p0 rfl) rfl rfl hl.1 rfl (lv_room (Nat.le_of_ble_eq_true rfl)) dX10_holds_213 ⟨Nat.le_of_ble_eq_true rfl, Nat.le_of_ble_eq_true rfl⟩) hw hA (fun v_22  H locs hp_v_22 hw => ?_)
                have r_v_22 : RI v_22 (-1) 5 := hp_v_22.1
                by_cases c9_v_22 : v_22.toInt < 0
                · have r_v_22 : RI v_22 (-1) (-1) := by unfold RI at r_v_22 ⊢; omega
                  have x_NB_p0_p2 := (hp_v_22.2.2.2.2.1 (by omega)).1
                  refine lv_iload hx hb dX10_holds_216 (lv_at hl 1 rfl) ?_
                  refine lv_icmp_ne (tgt := 225) hx hb dX10_holds_218 (by decide) (fun c_218 => ?_) (fun c_218 => ?_)
                  · refine lv_iconst (v := 0) hx hb dX10_holds_225 (by decide) ?_
                    subst hQ
                    exact W.zret (v := 0) hx hb hr (rfl) (fun t ht hW => ⟨⟨0, (), rfl, ⟨rl_0.to (by decide), (fun h0 => trivial), (fun _ => trivial)⟩, by rw [ht]; exact hw.2.1, va_K.moved hW.alike hK, hw.2.2.1⟩, hw.2.2.2.1.F ht⟩) hw.2.2.2.1.2.2 dX10_holds_226
                  · have r_v_10 : RI v_10 (-1) (-1) := rc_eq2 r_v_22 r_v_10 (ti_eq c_218) (by decide)
                    refine lv_iconst (v := 1) hx hb dX10_holds_221 (by decide) ?_
                    refine lv_goto (tgt := 226) hx hb dX10_holds_222 (by decide) ?_
                    subst hQ
                    exact W.zret (v := 1) hx hb hr (rfl) (fun t ht hW => ⟨⟨1, (), rfl, ⟨rl_1.to (by decide), (fun _ => trivial), (fun h0 => trivial)⟩, by rw [ht]; exact hw.2.1, va_K.moved hW.alike hK, hw.2.2.1⟩, hw.2.2.2.1.F ht⟩) hw.2.2.2.1.2.2 dX10_holds_226
                · have r_v_22 : RI v_22 0 5 := by unfold RI at r_v_22 ⊢; omega
                  have x_WB_p0_p2_v_22 := (hp_v_22.2.2.2.2.2 (by omega)).1
                  refine lv_iload hx hb dX10_holds_216 (lv_at hl 1 rfl) ?_
                  refine lv_icmp_ne (tgt := 225) hx hb dX10_holds_218 (by decide) (fun c_218 => ?_) (fun c_218 => ?_)
                  · refine lv_iconst (v := 0) hx hb dX10_holds_225 (by decide) ?_
                    subst hQ
                    exact W.zret (v := 0) hx hb hr (rfl) (fun t ht hW => ⟨⟨0, (), rfl, ⟨rl_0.to (by decide), (fun h0 => trivial), (fun _ => trivial)⟩, by rw [ht]; exact hw.2.1, va_K.moved hW.alike hK, hw.2.2.1⟩, hw.2.2.2.1.F ht⟩) hw.2.2.2.1.2.2 dX10_holds_226
                  · have r_v_10 : RI v_10 0 5 := rc_eq2 r_v_22 r_v_10 (ti_eq c_218) (by decide)
                    refine lv_iconst (v := 1) hx hb dX10_holds_221 (by decide) ?_
                    refine lv_goto (tgt := 226) hx hb dX10_holds_222 (by decide) ?_
                    subst hQ
                    exact W.zret (v := 1) hx hb hr (rfl) (fun t ht hW => ⟨⟨1, (), rfl, ⟨rl_1.to (by decide), (fun _ => trivial), (fun h0 => trivial)⟩, by rw [ht]; exact hw.2.1, va_K.moved hW.alike hK, hw.2.2.1⟩, hw.2.2.2.1.F ht⟩) hw.2.2.2.1.2.2 dX10_holds_226
              · by_cases k_34_73 : v_13 = 73
                · refine lv_lookup (tgt := 227) (off := 193) hx hb dX10_holds_34 (by decide) (by rw [k_34_73]; decide) (by decide) ?_
                  have r_v_13 : RI v_13 73 73 := by rw [k_34_73]; exact rl_73
                  refine lv_aload_n hx hb dX10_holds_227 rfl (lv_at hl 3 rfl) ?_
                  refine tg_mem (ci := 10) (C := RX10) (T := TX10) (N := 49) hx hb hts inX10 hown hK hw 14 m_u_8 rfl (by decide) (hts _ tw_1151) (fun _ h9 => h9) dX10_holds_228 ?_
                  refine lv_bipush (v := 86) hx hb dX10_holds_231 (by decide) ?_
                  refine lv_iload_n hx hb dX10_holds_233 rfl (lv_at hl 5 rfl) ?_
                  refine lv_iadd hx hb dX10_holds_234 (lv_topi (fun v_23 e_v_23 => ?_))
                  obtain ⟨t_v_23, r_v_23⟩ := tq_add (lo := 86) (hi := 91) rl_86 r_p2 (by decide +kernel) e_v_23
                  have t_v_23 : v_23.toInt = 86 + p2.toInt := t_v_23
                  refine tg_iald (lo := (-2147483648)) (hi := 2147483647) hx hb hK hw h_vu_8 rfl 86 91 r_v_23 (by decide) (by decide +kernel) dX10_holds_235 (fun v_24 r_v_24 m_v_24 o_v_24 => ?_)
                  refine lv_iload hx hb dX10_holds_236 (lv_at hl 1 rfl) ?_
                  refine lv_icmp_ne (tgt := 245) hx hb dX10_holds_238 (by decide) (fun c_238 => ?_) (fun c_238 => ?_)
                  · refine lv_iconst (v := 0) hx hb dX10_holds_245 (by decide) ?_
                    subst hQ
                    exact W.zret (v := 0) hx hb hr (rfl) (fun t ht hW => ⟨⟨0, (), rfl, ⟨rl_0.to (by decide), (fun h0 => trivial), (fun _ => trivial)⟩, by rw [ht]; exact hw.2.1, va_K.moved hW.alike hK, hw.2.2.1⟩, hw.2.2.2.1.F ht⟩) hw.2.2.2.1.2.2 dX10_holds_246
                  · refine lv_iconst (v := 1) hx hb dX10_holds_241 (by decide) ?_
                    refine lv_goto (tgt := 246) hx hb dX10_holds_242 (by decide) ?_
                    subst hQ
                    exact W.zret (v := 1) hx hb hr (rfl) (fun t ht hW => ⟨⟨1, (), rfl, ⟨rl_1.to (by decide), (fun _ => trivial), (fun h0 => trivial)⟩, by rw [ht]; exact hw.2.1, va_K.moved hW.alike hK, hw.2.2.1⟩, hw.2.2.2.1.F ht⟩) hw.2.2.2.1.2.2 dX10_holds_246
                · refine lv_lookup (tgt := 247) (off := 213) hx hb dX10_holds_34 (by decide) ((lv_osw k_34_1 (by decide)).trans ((lv_osw k_34_2 (by decide)).trans ((lv_osw k_34_3 (by decide)).trans ((lv_osw k_34_69 (by decide)).trans ((lv_osw k_34_70 (by decide)).trans ((lv_osw k_34_71 (by decide)).trans ((lv_osw k_34_72 (by decide)).trans ((lv_osw k_34_73 (by decide)).trans (rfl))))))))) (by decide) ?_
                  refine lv_aload_n hx hb dX10_holds_247 rfl (lv_at hl 3 rfl) ?_
                  refine tg_mem (ci := 10) (C := RX10) (T := TX10) (N := 49) hx hb hts inX10 hown hK hw 14 m_u_8 rfl (by decide) (hts _ tw_1151) (fun _ h9 => h9) dX10_holds_248 ?_
                  refine lv_iload_n hx hb dX10_holds_251 rfl (lv_at hl 2 rfl) ?_
                  refine tg_imem hx hb hK hw h_vu_8 rfl r_v_7 (by decide) m_v_13 dX10_holds_252 ?_
                  refine lv_bipush (v := 50) hx hb dX10_holds_253 (by decide) ?_
                  refine lv_isub hx hb dX10_holds_255 (lv_topi (fun v_26 e_v_26 => ?_))
                  have r_v_26 := ri_any v_26
                  refine lv_istore (lv' := [(6, .int v_26), (5, .int v_12), (4, .int v_10), (3, .int v_7), (0, .ref p0), (1, .int p1), (2, .int p2)]) hx hb dX10_holds_256 hl (by decide) rfl (fun ls hl => ?_)
                  refine lv_iload hx hb dX10_holds_258 (lv_at hl 0 rfl) ?_
                  refine lv_bipush (v := 24) hx hb dX10_holds_260 (by decide) ?_
                  refine lv_icmp_ne (tgt := 273) hx hb dX10_holds_262 (by decide) (fun c_262 => ?_) (fun c_262 => ?_)
                  · refine lv_iload hx hb dX10_holds_273 (lv_at hl 0 rfl) ?_
                    refine lv_bipush (v := 25) hx hb dX10_holds_275 (by decide) ?_
                    refine lv_icmp_ne (tgt := 292) hx hb dX10_holds_277 (by decide) (fun c_277 => ?_) (fun c_277 => ?_)
                    · refine lv_iload hx hb dX10_holds_292 (lv_at hl 0 rfl) ?_
                      refine lv_bipush (v := 26) hx hb dX10_holds_294 (by decide) ?_
                      refine lv_icmp_ne (tgt := 311) hx hb dX10_holds_296 (by decide) (fun c_296 => ?_) (fun c_296 => ?_)
                      · refine lv_iload_n hx hb dX10_holds_311 rfl (lv_at hl 6 rfl) ?_
                        exact B312 v_7 v_10 v_12 v_26 p2 _ _ ls r_p1 r_p2 r_v_7 r_v_10 r_v_12 r_v_26 (r_p2.to (by decide)) hw (lv_sub hl [4, 5, 6, 3, 2, 1, 0] rfl)
                      · have r_v_26 : RI v_26 26 26 := rc_eq1 r_v_26 rl_26 (ti_eq c_296) (by decide)
                        refine lv_aload_n hx hb dX10_holds_299 rfl (lv_at hl 4 rfl) ?_
                        refine tg_mem (ci := 10) (C := RX10) (T := TX10) (N := 49) hx hb hts inX10 hown hK hw 14 m_u_8 rfl (by decide) (hts _ tw_1151) (fun _ h9 => h9) dX10_holds_300 ?_
                        refine lv_bipush (v := 98) hx hb dX10_holds_303 (by decide) ?_
                        refine lv_iload_n hx hb dX10_holds_305 rfl (lv_at hl 6 rfl) ?_
                        refine lv_iadd hx hb dX10_holds_306 (lv_topi (fun v_27 e_v_27 => ?_))
                        obtain ⟨t_v_27, r_v_27⟩ := tq_add (lo := 98) (hi := 103) rl_98 r_p2 (by decide +kernel) e_v_27
                        have t_v_27 : v_27.toInt = 98 + p2.toInt := t_v_27
                        refine tg_iald (lo := (-2147483648)) (hi := 2147483647) hx hb hK hw h_vu_8 rfl 98 103 r_v_27 (by decide) (by decide +kernel) dX10_holds_307 (fun v_28 r_v_28 m_v_28 o_v_28 => ?_)
                        refine lv_goto (tgt := 312) hx hb dX10_holds_308 (by decide) ?_
                        exact B312 v_7 v_10 v_12 v_26 v_28 _ _ ls r_p1 r_p2 r_v_7 r_v_10 r_v_12 (r_v_26.to (by decide)) r_v_28 hw (lv_sub hl [4, 5, 6, 3, 2, 1, 0] rfl)
                    · have r_v_26 : RI v_26 25 25 := rc_eq1 r_v_26 rl_25 (ti_eq c_277) (by decide)
                      refine lv_aload_n hx hb dX10_holds_280 rfl (lv_at hl 4 rfl) ?_
                      refine tg_mem (ci := 10) (C := RX10) (T := TX10) (N := 49) hx hb hts inX10 hown hK hw 14 m_u_8 rfl (by decide) (hts _ tw_1151) (fun _ h9 => h9) dX10_holds_281 ?_
                      refine lv_bipush (v := 92) hx hb dX10_holds_284 (by decide) ?_
                      refine lv_iload_n hx hb dX10_holds_286 rfl (lv_at hl 6 rfl) ?_
                      refine lv_iadd hx hb dX10_holds_287 (lv_topi (fun v_29 e_v_29 => ?_))
                      obtain ⟨t_v_29, r_v_29⟩ := tq_add (lo := 92) (hi := 97) rl_92 r_p2 (by decide +kernel) e_v_29
                      have t_v_29 : v_29.toInt = 92 + p2.toInt := t_v_29
                      refine tg_iald (lo := (-2147483648)) (hi := 2147483647) hx hb hK hw h_vu_8 rfl 92 97 r_v_29 (by decide) (by decide +kernel) dX10_holds_288 (fun v_30 r_v_30 m_v_30 o_v_30 => ?_)
                      refine lv_goto (tgt := 312) hx hb dX10_holds_289 (by decide) ?_
                      exact B312 v_7 v_10 v_12 v_26 v_30 _ _ ls r_p1 r_p2 r_v_7 r_v_10 r_v_12 (r_v_26.to (by decide)) r_v_30 hw (lv_sub hl [4, 5, 6, 3, 2, 1, 0] rfl)
                  · have r_v_26 : RI v_26 24 24 := rc_eq1 r_v_26 rl_24 (ti_eq c_262) (by decide)
                    refine lv_aload_n hx hb dX10_holds_265 rfl (lv_at hl 4 rfl) ?_
                    refine lv_iload_n hx hb dX10_holds_266 rfl (lv_at hl 6 rfl) ?_
                    refine tk_ir (va_runV (As := [.int p2]) (rest := []) ⟨hx, hb, hml, hown, hts⟩ (c_X10_sizeOf l D cy z s.heap.size Ps w0 hw.1 p0 p2 h_p0 r_p2) (cwV 1 hts (gV tw_1453 tw_1455 ts_70 tw_15 tw_1456) rfl rfl rfl (by decide +kernel) ⟨Nat.le_of_ble_eq_true rfl, Nat.le_of_ble_eq_true rfl⟩) (tg_preV hw hK hSD hA (ci := 10) (q := (RX10, TX10, 49)) rfl h_p0 rfl) rfl rfl hl.1 rfl (lv_room (Nat.le_of_ble_eq_true rfl)) dX10_holds_267 ⟨Nat.le_of_ble_eq_true rfl, Nat.le_of_ble_eq_true rfl⟩) hw hA (fun v_31  H locs hp_v_31 hw => ?_)
                    have r_v_31 : RI v_31 (-2147483648) 2147483647 := hp_v_31.1
                    refine lv_goto (tgt := 312) hx hb dX10_holds_270 (by decide) ?_
                    exact B312 v_7 v_10 v_12 v_26 v_31 _ _ ls r_p1 r_p2 r_v_7 r_v_10 r_v_12 (r_v_26.to (by decide)) r_v_31 hw (lv_sub hl [4, 5, 6, 3, 2, 1, 0] rfl)
abbrev wr_X10_holds__17 : List (Nat × Nat) := []
abbrev wa_X10_holds__17 : List Nat := []
set_option maxHeartbeats 4000000 in
set_option maxRecDepth 100000 in
theorem c_X10_holds__17 (l : Launch) (D : va_G) (cy : Nat → ClassId) (z : Nat → Nat) (sz : Nat) (Ps : PSI) (w0 : va_W) (hT : HT cy GG Ps w0) (p0 : Nat) (p1 : Int32) (p2 : Int32) (h_p0 : (p0, 55) ∈ Ps) (r_p1 : RI p1 0 42) (r_p2 : RI p2 0 5) : Met l yX10_holds (Cond.code yX10_holds cX10_holds 8 (some .boolean) :: gT) ({ frames := 45, cells := 0, slots := 0, locals := 9000 } : Room) (va_Pc [.ref p0, .int p1, .int p2] (PRE D cy z w0 sz)) (va_Qi (fun (r : Int32) (u : Unit) => RI r 0 1 ∧ (r = 0 → True) ∧ (¬ r = 0 → True)) (BB D cy (va_A w0 sz) (fun (u : Unit) => w0)) (va_A w0 sz)) 0 0 (va_A w0 sz) := by
  refine Met.ofW (cc := cX10_holds) (maxL := 8) (ret := (some .boolean)) (by decide) rfl ?_
  intro p e s m args below meth c s₁ B hml hv
  obtain ⟨rfl, hsz, hP, hK, hD0, hSD⟩ := hv
  have hx := B.exec
  have hb := B.bytes
  have hr := B.returns
  have hlocks := B.notSynchronized
  have hts : ∀ w ∈ gT, w.before _ s = true := fun w h => atoms_spec (ws := Cond.code yX10_holds cX10_holds 8 (some .boolean) :: gT) B.pre w (List.mem_cons_of_mem _ h)
  have hown : s.vm.findClass RX10 = some m.cls := findClass_of_methodNamed B.named
  subst hsz
  have hD := hD0.self (sz := s.heap.size)
  generalize hAe : va_A w0 s.heap.size = A at hD hSD ⊢
  have hA : ∀ q : Nat, s.heap.size ≤ q → A q := fun q h => by rw [← hAe]; exact Or.inr h
  have hl := lv_entry ([.ref p0, .int p1, .int p2]) (n := 8) (Nat.le_of_ble_eq_true rfl)
  rw [lg_entry_eq]
  generalize (lg_sl ([.ref p0, .int p1, .int p2]) ++ List.replicate (8 - (lg_sl ([.ref p0, .int p1, .int p2])).length) Slot.unset).toArray = ls at hl ⊢
  have hl : lv_has ls 8 [(0, .ref p0), (1, .int p1), (2, .int p2)] := hl
  refine nameQ (fun Q hQ => ?_)
  have hw : WD D cy GG A s wr_X10_holds__17 wa_X10_holds__17 Ps w0 Ps w0 s.heap [] := ⟨hT, hP, hD, va_S.rf, FR.rf, hT.1, [], (List.append_nil _).symm⟩
  have B312 : ∀ (x3 : Int32) (x4 : Int32) (x5 : Int32) (x6 : Int32) (y0 : Int32) (H : Heap) (locs : List Loc) (ls : Array Slot), RI p1 0 42 → RI p2 0 5 → RI x3 174 342 → RI x4 (-2147483648) 2147483647 → RI x5 (-2147483648) 2147483647 → RI x6 (-2147483648) 2147483647 → RI y0 (-2147483648) 2147483647 → WD D cy GG A s wr_X10_holds__17 wa_X10_holds__17 Ps w0 Ps w0 H locs → lv_has ls 8 [(0, .ref p0), (1, .int p1), (2, .int p2), (3, .int x3), (4, .int x4), (5, .int x5), (6, .int x6)] → W p l e (headSpec (Cond.code yX10_holds cX10_holds 8 (some .boolean) :: gT) ({ frames := 45, cells := 0, slots := 0, locals := 9000 } : Room)).room s m ([.ref p0, .int p1, .int p2] : List Value).toArray below meth c H locs 0 0 Q (F0 m 312 ls [.int y0]) := by
    intro x3 x4 x5 x6 y0 H locs ls r_p1 r_p2 r_x3 r_x4 r_x5 r_x6 r_y0 hw hl
    refine lv_istore (lv' := [(7, .int y0), (0, .ref p0), (1, .int p1), (2, .int p2), (3, .int x3), (4, .int x4), (5, .int x5), (6, .int x6)]) hx hb dX10_holds_312 hl (by decide) rfl (fun ls hl => ?_)
    refine lv_aload_n hx hb dX10_holds_314 rfl (lv_at hl 1 rfl) ?_
    refine tg_get (ci := 10) (ts := ty_MODEL) (C := RX10) (T := TX10) (N := 49) hx hb hts inX10 hown hK hw h_p0 rfl rfl 14 (by decide) (hts _ tw_1151) (fun _ h9 => h9) (ft := vR 34) rfl dX10_holds_315 (fun u_1 hv_u_1 m_u_1 => ?_)
    obtain ⟨vu_1, rfl, h_vu_1⟩ := hv_u_1
    refine lv_iload_n hx hb dX10_holds_318 rfl (lv_at hl 4 rfl) ?_
    refine lv_iconst (v := 3) hx hb dX10_holds_319 (by decide) ?_
    refine lv_iadd hx hb dX10_holds_320 (lv_topi (fun v_2 e_v_2 => ?_))
    obtain ⟨t_v_2, r_v_2⟩ := tq_add (lo := 177) (hi := 345) r_x3 rl_3 (by decide +kernel) e_v_2
    have t_v_2 : v_2.toInt = x3.toInt + 3 := t_v_2
    refine tg_iald (lo := (-2147483648)) (hi := 2147483647) hx hb hK hw h_vu_1 rfl 177 345 r_v_2 (by decide) (by decide +kernel) dX10_holds_321 (fun v_3 r_v_3 m_v_3 o_v_3 => ?_)
    refine lv_bipush (v := 60) hx hb dX10_holds_322 (by decide) ?_
    refine lv_icmp_ne (tgt := 342) hx hb dX10_holds_324 (by decide) (fun c_324 => ?_) (fun c_324 => ?_)
    · refine lv_aload_n hx hb dX10_holds_342 rfl (lv_at hl 1 rfl) ?_
      refine tg_mem (ci := 10) (C := RX10) (T := TX10) (N := 49) hx hb hts inX10 hown hK hw 14 m_u_1 rfl (by decide) (hts _ tw_1151) (fun _ h9 => h9) dX10_holds_343 ?_
      refine lv_iload_n hx hb dX10_holds_346 rfl (lv_at hl 4 rfl) ?_
      refine lv_iconst (v := 3) hx hb dX10_holds_347 (by decide) ?_
      refine lv_iadd hx hb dX10_holds_348 (lv_topi (fun v_4 e_v_4 => ?_))
      obtain ⟨t_v_4, r_v_4⟩ := tq_add (lo := 177) (hi := 345) r_x3 rl_3 (by decide +kernel) e_v_4
      have t_v_4 : v_4.toInt = x3.toInt + 3 := t_v_4
      refine tg_iald (lo := (-2147483648)) (hi := 2147483647) hx hb hK hw h_vu_1 rfl 177 345 r_v_4 (by decide) (by decide +kernel) dX10_holds_349 (fun v_5 r_v_5 m_v_5 o_v_5 => ?_)
      refine lv_bipush (v := 61) hx hb dX10_holds_350 (by decide) ?_
      refine lv_icmp_ne (tgt := 370) hx hb dX10_holds_352 (by decide) (fun c_352 => ?_) (fun c_352 => ?_)
      · refine lv_iload hx hb dX10_holds_370 (lv_at hl 0 rfl) ?_
        refine lv_iload hx hb dX10_holds_372 (lv_at hl 6 rfl) ?_
        refine lv_icmp_le (tgt := 381) hx hb dX10_holds_374 (by decide) (fun c_374 => ?_) (fun c_374 => ?_)
        · refine lv_iconst (v := 0) hx hb dX10_holds_381 (by decide) ?_
          subst hQ
          exact W.zret (v := 0) hx hb hr (rfl) (fun t ht hW => ⟨⟨0, (), rfl, ⟨rl_0.to (by decide), (fun h0 => trivial), (fun _ => trivial)⟩, by rw [ht]; exact hw.2.1, va_K.moved hW.alike hK, hw.2.2.1⟩, hw.2.2.2.1.F ht⟩) hw.2.2.2.1.2.2 dX10_holds_382
        · have r_x5 : RI x5 (-2147483648) 2147483646 := rc_lt1 r_x5 r_y0 (ti_nle c_374) (by decide)
          have r_y0 : RI y0 (-2147483647) 2147483647 := rc_lt2 r_x5 r_y0 (ti_nle c_374) (by decide)
          refine lv_iconst (v := 1) hx hb dX10_holds_377 (by decide) ?_
          refine lv_goto (tgt := 382) hx hb dX10_holds_378 (by decide) ?_
          subst hQ
          exact W.zret (v := 1) hx hb hr (rfl) (fun t ht hW => ⟨⟨1, (), rfl, ⟨rl_1.to (by decide), (fun _ => trivial), (fun h0 => trivial)⟩, by rw [ht]; exact hw.2.1, va_K.moved hW.alike hK, hw.2.2.1⟩, hw.2.2.2.1.F ht⟩) hw.2.2.2.1.2.2 dX10_holds_382
      · have r_v_5 : RI v_5 61 61 := rc_eq1 r_v_5 rl_61 (ti_eq c_352) (by decide)
        refine lv_iload hx hb dX10_holds_355 (lv_at hl 0 rfl) ?_
        refine lv_iload hx hb dX10_holds_357 (lv_at hl 6 rfl) ?_
        refine lv_icmp_ne (tgt := 366) hx hb dX10_holds_359 (by decide) (fun c_359 => ?_) (fun c_359 => ?_)
        · refine lv_iconst (v := 0) hx hb dX10_holds_366 (by decide) ?_
          refine lv_goto (tgt := 382) hx hb dX10_holds_367 (by decide) ?_
          subst hQ
          exact W.zret (v := 0) hx hb hr (rfl) (fun t ht hW => ⟨⟨0, (), rfl, ⟨rl_0.to (by decide), (fun h0 => trivial), (fun _ => trivial)⟩, by rw [ht]; exact hw.2.1, va_K.moved hW.alike hK, hw.2.2.1⟩, hw.2.2.2.1.F ht⟩) hw.2.2.2.1.2.2 dX10_holds_382
        · refine lv_iconst (v := 1) hx hb dX10_holds_362 (by decide) ?_
          refine lv_goto (tgt := 382) hx hb dX10_holds_363 (by decide) ?_
          subst hQ
          exact W.zret (v := 1) hx hb hr (rfl) (fun t ht hW => ⟨⟨1, (), rfl, ⟨rl_1.to (by decide), (fun _ => trivial), (fun h0 => trivial)⟩, by rw [ht]; exact hw.2.1, va_K.moved hW.alike hK, hw.2.2.1⟩, hw.2.2.2.1.F ht⟩) hw.2.2.2.1.2.2 dX10_holds_382
    · have r_v_3 : RI v_3 60 60 := rc_eq1 r_v_3 rl_60 (ti_eq c_324) (by decide)
      refine lv_iload hx hb dX10_holds_327 (lv_at hl 0 rfl) ?_
      refine lv_iload hx hb dX10_holds_329 (lv_at hl 6 rfl) ?_
      refine lv_icmp_ge (tgt := 338) hx hb dX10_holds_331 (by decide) (fun c_331 => ?_) (fun c_331 => ?_)
      · refine lv_iconst (v := 0) hx hb dX10_holds_338 (by decide) ?_
        refine lv_goto (tgt := 382) hx hb dX10_holds_339 (by decide) ?_
        subst hQ
        exact W.zret (v := 0) hx hb hr (rfl) (fun t ht hW => ⟨⟨0, (), rfl, ⟨rl_0.to (by decide), (fun h0 => trivial), (fun _ => trivial)⟩, by rw [ht]; exact hw.2.1, va_K.moved hW.alike hK, hw.2.2.1⟩, hw.2.2.2.1.F ht⟩) hw.2.2.2.1.2.2 dX10_holds_382
      · have r_y0 : RI y0 (-2147483648) 2147483646 := rc_lt1 r_y0 r_x5 (ti_nle c_331) (by decide)
        have r_x5 : RI x5 (-2147483647) 2147483647 := rc_lt2 r_y0 r_x5 (ti_nle c_331) (by decide)
        refine lv_iconst (v := 1) hx hb dX10_holds_334 (by decide) ?_
        refine lv_goto (tgt := 382) hx hb dX10_holds_335 (by decide) ?_
        subst hQ
        exact W.zret (v := 1) hx hb hr (rfl) (fun t ht hW => ⟨⟨1, (), rfl, ⟨rl_1.to (by decide), (fun _ => trivial), (fun h0 => trivial)⟩, by rw [ht]; exact hw.2.1, va_K.moved hW.alike hK, hw.2.2.1⟩, hw.2.2.2.1.F ht⟩) hw.2.2.2.1.2.2 dX10_holds_382
  refine lv_sipush (v := 174) hx hb dX10_holds_0 (by decide) ?_
  refine lv_iconst (v := 4) hx hb dX10_holds_3 (by decide) ?_
  refine lv_iload_n hx hb dX10_holds_4 rfl (lv_at hl 1 rfl) ?_
  refine lv_imul hx hb dX10_holds_5 (lv_topi (fun v_6 e_v_6 => ?_))
  obtain ⟨t_v_6, r_v_6⟩ := tq_mul (lo := 0) (hi := 168) rl_4 r_p1 (by decide +kernel) e_v_6
  have t_v_6 : v_6.toInt = 4 * p1.toInt := t_v_6
  refine lv_iadd hx hb dX10_holds_6 (lv_topi (fun v_7 e_v_7 => ?_))
  obtain ⟨t_v_7, r_v_7⟩ := tq_add (lo := 174) (hi := 342) rl_174 r_v_6 (by decide +kernel) e_v_7
  have t_v_7 : v_7.toInt = 174 + v_6.toInt := t_v_7
  refine lv_istore_n (lv' := [(3, .int v_7), (0, .ref p0), (1, .int p1), (2, .int p2)]) hx hb dX10_holds_7 rfl hl (by decide) rfl (fun ls hl => ?_)
  refine lv_aload_n hx hb dX10_holds_8 rfl (lv_at hl 1 rfl) ?_
  refine tg_get (ci := 10) (ts := ty_MODEL) (C := RX10) (T := TX10) (N := 49) hx hb hts inX10 hown hK hw h_p0 rfl rfl 14 (by decide) (hts _ tw_1151) (fun _ h9 => h9) (ft := vR 34) rfl dX10_holds_9 (fun u_8 hv_u_8 m_u_8 => ?_)
  obtain ⟨vu_8, rfl, h_vu_8⟩ := hv_u_8
  refine lv_iload_n hx hb dX10_holds_12 rfl (lv_at hl 0 rfl) ?_
  refine lv_iconst (v := 1) hx hb dX10_holds_13 (by decide) ?_
  refine lv_iadd hx hb dX10_holds_14 (lv_topi (fun v_9 e_v_9 => ?_))
  obtain ⟨t_v_9, r_v_9⟩ := tq_add (lo := 175) (hi := 343) r_v_7 rl_1 (by decide +kernel) e_v_9
  have t_v_9 : v_9.toInt = v_7.toInt + 1 := t_v_9
  refine tg_iald (lo := (-2147483648)) (hi := 2147483647) hx hb hK hw h_vu_8 rfl 175 343 r_v_9 (by decide) (by decide +kernel) dX10_holds_15 (fun v_10 r_v_10 m_v_10 o_v_10 => ?_)
  refine lv_istore (lv' := [(4, .int v_10), (3, .int v_7), (0, .ref p0), (1, .int p1), (2, .int p2)]) hx hb dX10_holds_16 hl (by decide) rfl (fun ls hl => ?_)
  refine lv_aload_n hx hb dX10_holds_18 rfl (lv_at hl 2 rfl) ?_
  refine tg_mem (ci := 10) (C := RX10) (T := TX10) (N := 49) hx hb hts inX10 hown hK hw 14 m_u_8 rfl (by decide) (hts _ tw_1151) (fun _ h9 => h9) dX10_holds_19 ?_
  refine lv_iload_n hx hb dX10_holds_22 rfl (lv_at hl 1 rfl) ?_
  refine lv_iconst (v := 2) hx hb dX10_holds_23 (by decide) ?_
  refine lv_iadd hx hb dX10_holds_24 (lv_topi (fun v_11 e_v_11 => ?_))
  obtain ⟨t_v_11, r_v_11⟩ := tq_add (lo := 176) (hi := 344) r_v_7 rl_2 (by decide +kernel) e_v_11
  have t_v_11 : v_11.toInt = v_7.toInt + 2 := t_v_11
  refine tg_iald (lo := (-2147483648)) (hi := 2147483647) hx hb hK hw h_vu_8 rfl 176 344 r_v_11 (by decide) (by decide +kernel) dX10_holds_25 (fun v_12 r_v_12 m_v_12 o_v_12 => ?_)
  refine lv_istore (lv' := [(5, .int v_12), (4, .int v_10), (3, .int v_7), (0, .ref p0), (1, .int p1), (2, .int p2)]) hx hb dX10_holds_26 hl (by decide) rfl (fun ls hl => ?_)
  refine lv_aload_n hx hb dX10_holds_28 rfl (lv_at hl 3 rfl) ?_
  refine tg_mem (ci := 10) (C := RX10) (T := TX10) (N := 49) hx hb hts inX10 hown hK hw 14 m_u_8 rfl (by decide) (hts _ tw_1151) (fun _ h9 => h9) dX10_holds_29 ?_
  refine lv_iload_n hx hb dX10_holds_32 rfl (lv_at hl 2 rfl) ?_
  refine tg_iald (lo := (-2147483648)) (hi := 2147483647) hx hb hK hw h_vu_8 rfl 174 342 r_v_7 (by decide) (by decide +kernel) dX10_holds_33 (fun v_13 r_v_13 m_v_13 o_v_13 => ?_)
  by_cases k_34_1 : v_13 = 1
  · refine lv_lookup (tgt := 108) (off := 74) hx hb dX10_holds_34 (by decide) (by rw [k_34_1]; decide) (by decide) ?_
    have r_v_13 : RI v_13 1 1 := by rw [k_34_1]; exact rl_1
    have g_v_10 : 0 ≤ v_10.toInt ∧ v_10.toInt < p1.toInt := by obtain ⟨_, f9, e8, e7, q9, _⟩ := ax_of (k := 14) (t := 34) hw h_p0 rfl (fun _ => rfl); cases FLD.inj hw.2.2.1 e8 m_u_8; have t9 := ARR.ael hw.2.2.1 e7 m_v_13; have x9 := ARR.ael hw.2.2.1 e7 m_v_10; rw [show Int32.toNatClampNeg v_7 = 174 + 4 * Int32.toNatClampNeg p1 from (by have k1 := r_v_7.cl (by decide); have k2 := r_p1.cl (by decide); omega)] at t9; rw [show Int32.toNatClampNeg v_9 = 175 + 4 * Int32.toNatClampNeg p1 from (by have k1 := r_v_9.cl (by decide); have k2 := r_p1.cl (by decide); omega)] at x9; exact RN_child q9 (r_p1.to (by decide)) t9 x9 (r_v_13.to (by decide))
    have r_v_10 : RI v_10 0 41 := ⟨g_v_10.1, by have k1 := r_p1.2; omega⟩
    refine lv_aload_n hx hb dX10_holds_108 rfl (lv_at hl 3 rfl) ?_
    refine lv_iload hx hb dX10_holds_109 (lv_at hl 1 rfl) ?_
    refine lv_iload_n hx hb dX10_holds_111 rfl (lv_at hl 5 rfl) ?_
    refine tk_ir (va_runV (As := [.int v_10, .int p2]) (rest := []) ⟨hx, hb, hml, hown, hts⟩ (c_X10_holds__18 l D cy z s.heap.size Ps w0 hw.1 p0 v_10 p2 h_p0 r_v_10 r_p2) (cwV 2 hts (gV tw_1787 tw_1789 ts_119 tw_15 tw_1790) rfl rfl rfl (by decide +kernel) ⟨Nat.le_of_ble_eq_true rfl, Nat.le_of_ble_eq_true rfl⟩) (tg_preV hw hK hSD hA (ci := 10) (q := (RX10, TX10, 49)) rfl h_p0 rfl) rfl rfl hl.1 rfl (lv_room (Nat.le_of_ble_eq_true rfl)) dX10_holds_112 ⟨Nat.le_of_ble_eq_true rfl, Nat.le_of_ble_eq_true rfl⟩) hw hA (fun v_14  H locs hp_v_14 hw => ?_)
    have r_v_14 : RI v_14 0 1 := hp_v_14.1
    refine lv_if_ne (tgt := 122) hx hb dX10_holds_115 (by decide) (fun c_115 => ?_) (fun c_115 => ?_)
    · have r_v_14 : RI v_14 1 1 := rc_neL r_v_14 rl_0 (ti_ne c_115) (by decide)
      refine lv_iconst (v := 0) hx hb dX10_holds_122 (by decide) ?_
      subst hQ
      exact W.zret (v := 0) hx hb hr (rfl) (fun t ht hW => ⟨⟨0, (), rfl, ⟨rl_0.to (by decide), (fun h0 => trivial), (fun _ => trivial)⟩, by rw [ht]; exact hw.2.1, va_K.moved hW.alike hK, hw.2.2.1⟩, hw.2.2.2.1.F ht⟩) hw.2.2.2.1.2.2 dX10_holds_123
    · have r_v_14 : RI v_14 0 0 := rc_eq1 r_v_14 rl_0 (ti_eq c_115) (by decide)
      refine lv_iconst (v := 1) hx hb dX10_holds_118 (by decide) ?_
      refine lv_goto (tgt := 123) hx hb dX10_holds_119 (by decide) ?_
      subst hQ
      exact W.zret (v := 1) hx hb hr (rfl) (fun t ht hW => ⟨⟨1, (), rfl, ⟨rl_1.to (by decide), (fun _ => trivial), (fun h0 => trivial)⟩, by rw [ht]; exact hw.2.1, va_K.moved hW.alike hK, hw.2.2.1⟩, hw.2.2.2.1.F ht⟩) hw.2.2.2.1.2.2 dX10_holds_123
  · by_cases k_34_2 : v_13 = 2
    · refine lv_lookup (tgt := 124) (off := 90) hx hb dX10_holds_34 (by decide) (by rw [k_34_2]; decide) (by decide) ?_
      have r_v_13 : RI v_13 2 2 := by rw [k_34_2]; exact rl_2
      have g_v_10 : 0 ≤ v_10.toInt ∧ v_10.toInt < p1.toInt := by obtain ⟨_, f9, e8, e7, q9, _⟩ := ax_of (k := 14) (t := 34) hw h_p0 rfl (fun _ => rfl); cases FLD.inj hw.2.2.1 e8 m_u_8; have t9 := ARR.ael hw.2.2.1 e7 m_v_13; have x9 := ARR.ael hw.2.2.1 e7 m_v_10; rw [show Int32.toNatClampNeg v_7 = 174 + 4 * Int32.toNatClampNeg p1 from (by have k1 := r_v_7.cl (by decide); have k2 := r_p1.cl (by decide); omega)] at t9; rw [show Int32.toNatClampNeg v_9 = 175 + 4 * Int32.toNatClampNeg p1 from (by have k1 := r_v_9.cl (by decide); have k2 := r_p1.cl (by decide); omega)] at x9; exact RN_child q9 (r_p1.to (by decide)) t9 x9 (r_v_13.to (by decide))
      have r_v_10 : RI v_10 0 41 := ⟨g_v_10.1, by have k1 := r_p1.2; omega⟩
      have g_v_12 : 0 ≤ v_12.toInt ∧ v_12.toInt < p1.toInt := by obtain ⟨_, f9, e8, e7, q9, _⟩ := ax_of (k := 14) (t := 34) hw h_p0 rfl (fun _ => rfl); cases FLD.inj hw.2.2.1 e8 m_u_8; have t9 := ARR.ael hw.2.2.1 e7 m_v_13; have x9 := ARR.ael hw.2.2.1 e7 m_v_12; rw [show Int32.toNatClampNeg v_7 = 174 + 4 * Int32.toNatClampNeg p1 from (by have k1 := r_v_7.cl (by decide); have k2 := r_p1.cl (by decide); omega)] at t9; rw [show Int32.toNatClampNeg v_11 = 176 + 4 * Int32.toNatClampNeg p1 from (by have k1 := r_v_11.cl (by decide); have k2 := r_p1.cl (by decide); omega)] at x9; exact RN_child2 q9 (r_p1.to (by decide)) t9 x9 (r_v_13.to (by decide))
      have r_v_12 : RI v_12 0 41 := ⟨g_v_12.1, by have k1 := r_p1.2; omega⟩
      refine lv_aload_n hx hb dX10_holds_124 rfl (lv_at hl 3 rfl) ?_
      refine lv_iload hx hb dX10_holds_125 (lv_at hl 1 rfl) ?_
      refine lv_iload_n hx hb dX10_holds_127 rfl (lv_at hl 5 rfl) ?_
      refine tk_ir (va_runV (As := [.int v_10, .int p2]) (rest := []) ⟨hx, hb, hml, hown, hts⟩ (c_X10_holds__18 l D cy z s.heap.size Ps w0 hw.1 p0 v_10 p2 h_p0 r_v_10 r_p2) (cwV 2 hts (gV tw_1787 tw_1789 ts_119 tw_15 tw_1790) rfl rfl rfl (by decide +kernel) ⟨Nat.le_of_ble_eq_true rfl, Nat.le_of_ble_eq_true rfl⟩) (tg_preV hw hK hSD hA (ci := 10) (q := (RX10, TX10, 49)) rfl h_p0 rfl) rfl rfl hl.1 rfl (lv_room (Nat.le_of_ble_eq_true rfl)) dX10_holds_128 ⟨Nat.le_of_ble_eq_true rfl, Nat.le_of_ble_eq_true rfl⟩) hw hA (fun v_15  H locs hp_v_15 hw => ?_)
      have r_v_15 : RI v_15 0 1 := hp_v_15.1
      refine lv_if_eq (tgt := 148) hx hb dX10_holds_131 (by decide) (fun c_131 => ?_) (fun c_131 => ?_)
      · have r_v_15 : RI v_15 0 0 := rc_eq1 r_v_15 rl_0 (ti_eq c_131) (by decide)
        refine lv_iconst (v := 0) hx hb dX10_holds_148 (by decide) ?_
        subst hQ
        exact W.zret (v := 0) hx hb hr (rfl) (fun t ht hW => ⟨⟨0, (), rfl, ⟨rl_0.to (by decide), (fun h0 => trivial), (fun _ => trivial)⟩, by rw [ht]; exact hw.2.1, va_K.moved hW.alike hK, hw.2.2.1⟩, hw.2.2.2.1.F ht⟩) hw.2.2.2.1.2.2 dX10_holds_149
      · have r_v_15 : RI v_15 1 1 := rc_neL r_v_15 rl_0 (ti_ne c_131) (by decide)
        refine lv_aload_n hx hb dX10_holds_134 rfl (lv_at hl 3 rfl) ?_
        refine lv_iload hx hb dX10_holds_135 (lv_at hl 0 rfl) ?_
        refine lv_iload_n hx hb dX10_holds_137 rfl (lv_at hl 5 rfl) ?_
        refine tk_ir (va_runV (As := [.int v_12, .int p2]) (rest := []) ⟨hx, hb, hml, hown, hts⟩ (c_X10_holds__18 l D cy z H.size Ps w0 hw.1 p0 v_12 p2 h_p0 r_v_12 r_p2) (cwV 2 hts (gV tw_1787 tw_1789 ts_119 tw_15 tw_1790) rfl rfl rfl (by decide +kernel) ⟨Nat.le_of_ble_eq_true rfl, Nat.le_of_ble_eq_true rfl⟩) (tg_preV hw hK hSD hA (ci := 10) (q := (RX10, TX10, 49)) rfl h_p0 rfl) rfl rfl hl.1 rfl (lv_room (Nat.le_of_ble_eq_true rfl)) dX10_holds_138 ⟨Nat.le_of_ble_eq_true rfl, Nat.le_of_ble_eq_true rfl⟩) hw hA (fun v_16  H locs hp_v_16 hw => ?_)
        have r_v_16 : RI v_16 0 1 := hp_v_16.1
        refine lv_if_eq (tgt := 148) hx hb dX10_holds_141 (by decide) (fun c_141 => ?_) (fun c_141 => ?_)
        · have r_v_16 : RI v_16 0 0 := rc_eq1 r_v_16 rl_0 (ti_eq c_141) (by decide)
          refine lv_iconst (v := 0) hx hb dX10_holds_148 (by decide) ?_
          subst hQ
          exact W.zret (v := 0) hx hb hr (rfl) (fun t ht hW => ⟨⟨0, (), rfl, ⟨rl_0.to (by decide), (fun h0 => trivial), (fun _ => trivial)⟩, by rw [ht]; exact hw.2.1, va_K.moved hW.alike hK, hw.2.2.1⟩, hw.2.2.2.1.F ht⟩) hw.2.2.2.1.2.2 dX10_holds_149
        · have r_v_16 : RI v_16 1 1 := rc_neL r_v_16 rl_0 (ti_ne c_141) (by decide)
          refine lv_iconst (v := 1) hx hb dX10_holds_144 (by decide) ?_
          refine lv_goto (tgt := 149) hx hb dX10_holds_145 (by decide) ?_
          subst hQ
          exact W.zret (v := 1) hx hb hr (rfl) (fun t ht hW => ⟨⟨1, (), rfl, ⟨rl_1.to (by decide), (fun _ => trivial), (fun h0 => trivial)⟩, by rw [ht]; exact hw.2.1, va_K.moved hW.alike hK, hw.2.2.1⟩, hw.2.2.2.1.F ht⟩) hw.2.2.2.1.2.2 dX10_holds_149
    · by_cases k_34_3 : v_13 = 3
      · refine lv_lookup (tgt := 150) (off := 116) hx hb dX10_holds_34 (by decide) (by rw [k_34_3]; decide) (by decide) ?_
        have r_v_13 : RI v_13 3 3 := by rw [k_34_3]; exact rl_3
        have g_v_10 : 0 ≤ v_10.toInt ∧ v_10.toInt < p1.toInt := by obtain ⟨_, f9, e8, e7, q9, _⟩ := ax_of (k := 14) (t := 34) hw h_p0 rfl (fun _ => rfl); cases FLD.inj hw.2.2.1 e8 m_u_8; have t9 := ARR.ael hw.2.2.1 e7 m_v_13; have x9 := ARR.ael hw.2.2.1 e7 m_v_10; rw [show Int32.toNatClampNeg v_7 = 174 + 4 * Int32.toNatClampNeg p1 from (by have k1 := r_v_7.cl (by decide); have k2 := r_p1.cl (by decide); omega)] at t9; rw [show Int32.toNatClampNeg v_9 = 175 + 4 * Int32.toNatClampNeg p1 from (by have k1 := r_v_9.cl (by decide); have k2 := r_p1.cl (by decide); omega)] at x9; exact RN_child q9 (r_p1.to (by decide)) t9 x9 (r_v_13.to (by decide))
        have r_v_10 : RI v_10 0 41 := ⟨g_v_10.1, by have k1 := r_p1.2; omega⟩
        have g_v_12 : 0 ≤ v_12.toInt ∧ v_12.toInt < p1.toInt := by obtain ⟨_, f9, e8, e7, q9, _⟩ := ax_of (k := 14) (t := 34) hw h_p0 rfl (fun _ => rfl); cases FLD.inj hw.2.2.1 e8 m_u_8; have t9 := ARR.ael hw.2.2.1 e7 m_v_13; have x9 := ARR.ael hw.2.2.1 e7 m_v_12; rw [show Int32.toNatClampNeg v_7 = 174 + 4 * Int32.toNatClampNeg p1 from (by have k1 := r_v_7.cl (by decide); have k2 := r_p1.cl (by decide); omega)] at t9; rw [show Int32.toNatClampNeg v_11 = 176 + 4 * Int32.toNatClampNeg p1 from (by have k1 := r_v_11.cl (by decide); have k2 := r_p1.cl (by decide); omega)] at x9; exact RN_child2 q9 (r_p1.to (by decide)) t9 x9 (r_v_13.to (by decide))
        have r_v_12 : RI v_12 0 41 := ⟨g_v_12.1, by have k1 := r_p1.2; omega⟩
        refine lv_aload_n hx hb dX10_holds_150 rfl (lv_at hl 3 rfl) ?_
        refine lv_iload hx hb dX10_holds_151 (lv_at hl 1 rfl) ?_
        refine lv_iload_n hx hb dX10_holds_153 rfl (lv_at hl 5 rfl) ?_
        refine tk_ir (va_runV (As := [.int v_10, .int p2]) (rest := []) ⟨hx, hb, hml, hown, hts⟩ (c_X10_holds__18 l D cy z s.heap.size Ps w0 hw.1 p0 v_10 p2 h_p0 r_v_10 r_p2) (cwV 2 hts (gV tw_1787 tw_1789 ts_119 tw_15 tw_1790) rfl rfl rfl (by decide +kernel) ⟨Nat.le_of_ble_eq_true rfl, Nat.le_of_ble_eq_true rfl⟩) (tg_preV hw hK hSD hA (ci := 10) (q := (RX10, TX10, 49)) rfl h_p0 rfl) rfl rfl hl.1 rfl (lv_room (Nat.le_of_ble_eq_true rfl)) dX10_holds_154 ⟨Nat.le_of_ble_eq_true rfl, Nat.le_of_ble_eq_true rfl⟩) hw hA (fun v_17  H locs hp_v_17 hw => ?_)
        have r_v_17 : RI v_17 0 1 := hp_v_17.1
        refine lv_if_ne (tgt := 170) hx hb dX10_holds_157 (by decide) (fun c_157 => ?_) (fun c_157 => ?_)
        · have r_v_17 : RI v_17 1 1 := rc_neL r_v_17 rl_0 (ti_ne c_157) (by decide)
          refine lv_iconst (v := 1) hx hb dX10_holds_170 (by decide) ?_
          refine lv_goto (tgt := 175) hx hb dX10_holds_171 (by decide) ?_
          subst hQ
          exact W.zret (v := 1) hx hb hr (rfl) (fun t ht hW => ⟨⟨1, (), rfl, ⟨rl_1.to (by decide), (fun _ => trivial), (fun h0 => trivial)⟩, by rw [ht]; exact hw.2.1, va_K.moved hW.alike hK, hw.2.2.1⟩, hw.2.2.2.1.F ht⟩) hw.2.2.2.1.2.2 dX10_holds_175
        · have r_v_17 : RI v_17 0 0 := rc_eq1 r_v_17 rl_0 (ti_eq c_157) (by decide)
          refine lv_aload_n hx hb dX10_holds_160 rfl (lv_at hl 3 rfl) ?_
          refine lv_iload hx hb dX10_holds_161 (lv_at hl 0 rfl) ?_
          refine lv_iload_n hx hb dX10_holds_163 rfl (lv_at hl 5 rfl) ?_
          refine tk_ir (va_runV (As := [.int v_12, .int p2]) (rest := []) ⟨hx, hb, hml, hown, hts⟩ (c_X10_holds__18 l D cy z H.size Ps w0 hw.1 p0 v_12 p2 h_p0 r_v_12 r_p2) (cwV 2 hts (gV tw_1787 tw_1789 ts_119 tw_15 tw_1790) rfl rfl rfl (by decide +kernel) ⟨Nat.le_of_ble_eq_true rfl, Nat.le_of_ble_eq_true rfl⟩) (tg_preV hw hK hSD hA (ci := 10) (q := (RX10, TX10, 49)) rfl h_p0 rfl) rfl rfl hl.1 rfl (lv_room (Nat.le_of_ble_eq_true rfl)) dX10_holds_164 ⟨Nat.le_of_ble_eq_true rfl, Nat.le_of_ble_eq_true rfl⟩) hw hA (fun v_18  H locs hp_v_18 hw => ?_)
          have r_v_18 : RI v_18 0 1 := hp_v_18.1
          refine lv_if_eq (tgt := 174) hx hb dX10_holds_167 (by decide) (fun c_167 => ?_) (fun c_167 => ?_)
          · have r_v_18 : RI v_18 0 0 := rc_eq1 r_v_18 rl_0 (ti_eq c_167) (by decide)
            refine lv_iconst (v := 0) hx hb dX10_holds_174 (by decide) ?_
            subst hQ
            exact W.zret (v := 0) hx hb hr (rfl) (fun t ht hW => ⟨⟨0, (), rfl, ⟨rl_0.to (by decide), (fun h0 => trivial), (fun _ => trivial)⟩, by rw [ht]; exact hw.2.1, va_K.moved hW.alike hK, hw.2.2.1⟩, hw.2.2.2.1.F ht⟩) hw.2.2.2.1.2.2 dX10_holds_175
          · have r_v_18 : RI v_18 1 1 := rc_neL r_v_18 rl_0 (ti_ne c_167) (by decide)
            refine lv_iconst (v := 1) hx hb dX10_holds_170 (by decide) ?_
            refine lv_goto (tgt := 175) hx hb dX10_holds_171 (by decide) ?_
            subst hQ
            exact W.zret (v := 1) hx hb hr (rfl) (fun t ht hW => ⟨⟨1, (), rfl, ⟨rl_1.to (by decide), (fun _ => trivial), (fun h0 => trivial)⟩, by rw [ht]; exact hw.2.1, va_K.moved hW.alike hK, hw.2.2.1⟩, hw.2.2.2.1.F ht⟩) hw.2.2.2.1.2.2 dX10_holds_175
      · by_cases k_34_69 : v_13 = 69
        · refine lv_lookup (tgt := 176) (off := 142) hx hb dX10_holds_34 (by decide) (by rw [k_34_69]; decide) (by decide) ?_
          have r_v_13 : RI v_13 69 69 := by rw [k_34_69]; exact rl_69
          refine lv_aload_n hx hb dX10_holds_176 rfl (lv_at hl 3 rfl) ?_
          refine lv_iload_n hx hb dX10_holds_177 rfl (lv_at hl 5 rfl) ?_
          refine tk_ir (va_runV (As := [.int p2]) (rest := []) ⟨hx, hb, hml, hown, hts⟩ (c_X10_isOpen l D cy z s.heap.size Ps w0 hw.1 p0 p2 h_p0 (r_p2.to (by decide))) (cwV 1 hts (gV tw_1457 tw_1459 ts_71 tw_15 tw_1460) rfl rfl rfl (by decide +kernel) ⟨Nat.le_of_ble_eq_true rfl, Nat.le_of_ble_eq_true rfl⟩) (tg_preV hw hK hSD hA (ci := 10) (q := (RX10, TX10, 49)) rfl h_p0 rfl) rfl rfl hl.1 rfl (lv_room (Nat.le_of_ble_eq_true rfl)) dX10_holds_178 ⟨Nat.le_of_ble_eq_true rfl, Nat.le_of_ble_eq_true rfl⟩) hw hA (fun v_19  H locs hp_v_19 hw => ?_)
          have r_v_19 : RI v_19 0 1 := hp_v_19.1
          subst hQ
          exact W.zret (v := v_19) hx hb hr (tq_nz (r_v_19.to (by decide))) (fun t ht hW => ⟨⟨v_19, (), rfl, ⟨r_v_19.to (by decide), (fun h0 => trivial), (fun h0 => trivial)⟩, by rw [ht]; exact hw.2.1, va_K.moved hW.alike hK, hw.2.2.1⟩, hw.2.2.2.1.F ht⟩) hw.2.2.2.1.2.2 dX10_holds_181
        · by_cases k_34_70 : v_13 = 70
          · refine lv_lookup (tgt := 182) (off := 148) hx hb dX10_holds_34 (by decide) (by rw [k_34_70]; decide) (by decide) ?_
            have r_v_13 : RI v_13 70 70 := by rw [k_34_70]; exact rl_70
            refine lv_aload_n hx hb dX10_holds_182 rfl (lv_at hl 3 rfl) ?_
            refine lv_iload_n hx hb dX10_holds_183 rfl (lv_at hl 5 rfl) ?_
            refine tk_ir (va_runV (As := [.int p2]) (rest := []) ⟨hx, hb, hml, hown, hts⟩ (c_X10_whatIs l D cy z s.heap.size Ps w0 hw.1 p0 p2 h_p0 r_p2) (cwV 1 hts (gV tw_1449 tw_1451 ts_69 tw_15 tw_1452) rfl rfl rfl (by decide +kernel) ⟨Nat.le_of_ble_eq_true rfl, Nat.le_of_ble_eq_true rfl⟩) (tg_preV hw hK hSD hA (ci := 10) (q := (RX10, TX10, 49)) rfl h_p0 rfl) rfl rfl hl.1 rfl (lv_room (Nat.le_of_ble_eq_true rfl)) dX10_holds_184 ⟨Nat.le_of_ble_eq_true rfl, Nat.le_of_ble_eq_true rfl⟩) hw hA (fun v_20  H locs hp_v_20 hw => ?_)
            have r_v_20 : RI v_20 (-1) 5 := hp_v_20.1
            by_cases c9_v_20 : v_20.toInt < 0
            · have r_v_20 : RI v_20 (-1) (-1) := by unfold RI at r_v_20 ⊢; omega
              have x_NB_p0_p2 := (hp_v_20.2.2.2.2.1 (by omega)).1
              refine lv_iconst (v := (-1)) hx hb dX10_holds_187 (by decide) ?_
              refine lv_icmp_ne (tgt := 195) hx hb dX10_holds_188 (by decide) (fun c_188 => ?_) (fun c_188 => ?_)
              · exact absurd (r_v_20.eq.trans rl_m1.eq.symm) ((ti_ne c_188))
              · refine lv_iconst (v := 1) hx hb dX10_holds_191 (by decide) ?_
                refine lv_goto (tgt := 196) hx hb dX10_holds_192 (by decide) ?_
                subst hQ
                exact W.zret (v := 1) hx hb hr (rfl) (fun t ht hW => ⟨⟨1, (), rfl, ⟨rl_1.to (by decide), (fun _ => trivial), (fun h0 => trivial)⟩, by rw [ht]; exact hw.2.1, va_K.moved hW.alike hK, hw.2.2.1⟩, hw.2.2.2.1.F ht⟩) hw.2.2.2.1.2.2 dX10_holds_196
            · have r_v_20 : RI v_20 0 5 := by unfold RI at r_v_20 ⊢; omega
              have x_WB_p0_p2_v_20 := (hp_v_20.2.2.2.2.2 (by omega)).1
              refine lv_iconst (v := (-1)) hx hb dX10_holds_187 (by decide) ?_
              refine lv_icmp_ne (tgt := 195) hx hb dX10_holds_188 (by decide) (fun c_188 => ?_) (fun c_188 => ?_)
              · refine lv_iconst (v := 0) hx hb dX10_holds_195 (by decide) ?_
                subst hQ
                exact W.zret (v := 0) hx hb hr (rfl) (fun t ht hW => ⟨⟨0, (), rfl, ⟨rl_0.to (by decide), (fun h0 => trivial), (fun _ => trivial)⟩, by rw [ht]; exact hw.2.1, va_K.moved hW.alike hK, hw.2.2.1⟩, hw.2.2.2.1.F ht⟩) hw.2.2.2.1.2.2 dX10_holds_196
              · have r_v_20 : RI v_20 0 (-1) := rc_eq1 r_v_20 rl_m1 (ti_eq c_188) (by decide)
                exact (r_v_20.no (by decide)).elim
          · by_cases k_34_71 : v_13 = 71
            · refine lv_lookup (tgt := 197) (off := 163) hx hb dX10_holds_34 (by decide) (by rw [k_34_71]; decide) (by decide) ?_
              have r_v_13 : RI v_13 71 71 := by rw [k_34_71]; exact rl_71
              refine lv_aload_n hx hb dX10_holds_197 rfl (lv_at hl 3 rfl) ?_
              refine lv_iload_n hx hb dX10_holds_198 rfl (lv_at hl 5 rfl) ?_
              refine tk_ir (va_runV (As := [.int p2]) (rest := []) ⟨hx, hb, hml, hown, hts⟩ (c_X10_sittersOf l D cy z s.heap.size Ps w0 hw.1 p0 p2 h_p0 (r_p2.to (by decide))) (cwV 1 hts (gV tw_1461 tw_1463 ts_72 tw_15 tw_1464) rfl rfl rfl (by decide +kernel) ⟨Nat.le_of_ble_eq_true rfl, Nat.le_of_ble_eq_true rfl⟩) (tg_preV hw hK hSD hA (ci := 10) (q := (RX10, TX10, 49)) rfl h_p0 rfl) rfl rfl hl.1 rfl (lv_room (Nat.le_of_ble_eq_true rfl)) dX10_holds_199 ⟨Nat.le_of_ble_eq_true rfl, Nat.le_of_ble_eq_true rfl⟩) hw hA (fun v_21  H locs hp_v_21 hw => ?_)
              have r_v_21 : RI v_21 (-2147483648) 2147483647 := hp_v_21.1
              refine lv_if_eq (tgt := 209) hx hb dX10_holds_202 (by decide) (fun c_202 => ?_) (fun c_202 => ?_)
              · have r_v_21 : RI v_21 0 0 := rc_eq1 r_v_21 rl_0 (ti_eq c_202) (by decide)
                refine lv_iconst (v := 0) hx hb dX10_holds_209 (by decide) ?_
                subst hQ
                exact W.zret (v := 0) hx hb hr (rfl) (fun t ht hW => ⟨⟨0, (), rfl, ⟨rl_0.to (by decide), (fun h0 => trivial), (fun _ => trivial)⟩, by rw [ht]; exact hw.2.1, va_K.moved hW.alike hK, hw.2.2.1⟩, hw.2.2.2.1.F ht⟩) hw.2.2.2.1.2.2 dX10_holds_210
              · refine lv_iconst (v := 1) hx hb dX10_holds_205 (by decide) ?_
                refine lv_goto (tgt := 210) hx hb dX10_holds_206 (by decide) ?_
                subst hQ
                exact W.zret (v := 1) hx hb hr (rfl) (fun t ht hW => ⟨⟨1, (), rfl, ⟨rl_1.to (by decide), (fun _ => trivial), (fun h0 => trivial)⟩, by rw [ht]; exact hw.2.1, va_K.moved hW.alike hK, hw.2.2.1⟩, hw.2.2.2.1.F ht⟩) hw.2.2.2.1.2.2 dX10_holds_210
            · by_cases k_34_72 : v_13 = 72
              · refine lv_lookup (tgt := 211) (off := 177) hx hb dX10_holds_34 (by decide) (by rw [k_34_72]; decide) (by decide) ?_
                have r_v_13 : RI v_13 72 72 := by rw [k_34_72]; exact rl_72
                refine lv_aload_n hx hb dX10_holds_211 rfl (lv_at hl 3 rfl) ?_
                refine lv_iload_n hx hb dX10_holds_212 rfl (lv_at hl 5 rfl) ?_
                refine tk_ir (va_runV (As := [.int p2]) (rest := []) ⟨hx, hb, hml, hown, hts⟩ (c_X10_whatIs l D cy z s.heap.size Ps w0 hw.1 p0 p2 h_p0 r_p2) (cwV 1 hts (gV tw_1449 tw_1451 ts_69 tw_15 tw_1452) rfl rfl rfl (by decide +kernel) ⟨Nat.le_of_ble_eq_true rfl, Nat.le_of_ble_eq_true rfl⟩) (tg_preV hw hK hSD hA (ci := 10) (q := (RX10, TX10, 49)) rfl h_p0 rfl) rfl rfl hl.1 rfl (lv_room (Nat.le_of_ble_eq_true rfl)) dX10_holds_213 ⟨Nat.le_of_ble_eq_true rfl, Nat.le_of_ble_eq_true rfl⟩) hw hA (fun v_22  H locs hp_v_22 hw => ?_)
                have r_v_22 : RI v_22 (-1) 5 := hp_v_22.1
                by_cases c9_v_22 : v_22.toInt < 0
                · have r_v_22 : RI v_22 (-1) (-1) := by unfold RI at r_v_22 ⊢; omega
                  have x_NB_p0_p2 := (hp_v_22.2.2.2.2.1 (by omega)).1
                  refine lv_iload hx hb dX10_holds_216 (lv_at hl 1 rfl) ?_
                  refine lv_icmp_ne (tgt := 225) hx hb dX10_holds_218 (by decide) (fun c_218 => ?_) (fun c_218 => ?_)
                  · refine lv_iconst (v := 0) hx hb dX10_holds_225 (by decide) ?_
                    subst hQ
                    exact W.zret (v := 0) hx hb hr (rfl) (fun t ht hW => ⟨⟨0, (), rfl, ⟨rl_0.to (by decide), (fun h0 => trivial), (fun _ => trivial)⟩, by rw [ht]; exact hw.2.1, va_K.moved hW.alike hK, hw.2.2.1⟩, hw.2.2.2.1.F ht⟩) hw.2.2.2.1.2.2 dX10_holds_226
                  · have r_v_10 : RI v_10 (-1) (-1) := rc_eq2 r_v_22 r_v_10 (ti_eq c_218) (by decide)
                    refine lv_iconst (v := 1) hx hb dX10_holds_221 (by decide) ?_
                    refine lv_goto (tgt := 226) hx hb dX10_holds_222 (by decide) ?_
                    subst hQ
                    exact W.zret (v := 1) hx hb hr (rfl) (fun t ht hW => ⟨⟨1, (), rfl, ⟨rl_1.to (by decide), (fun _ => trivial), (fun h0 => trivial)⟩, by rw [ht]; exact hw.2.1, va_K.moved hW.alike hK, hw.2.2.1⟩, hw.2.2.2.1.F ht⟩) hw.2.2.2.1.2.2 dX10_holds_226
                · have r_v_22 : RI v_22 0 5 := by unfold RI at r_v_22 ⊢; omega
                  have x_WB_p0_p2_v_22 := (hp_v_22.2.2.2.2.2 (by omega)).1
                  refine lv_iload hx hb dX10_holds_216 (lv_at hl 1 rfl) ?_
                  refine lv_icmp_ne (tgt := 225) hx hb dX10_holds_218 (by decide) (fun c_218 => ?_) (fun c_218 => ?_)
                  · refine lv_iconst (v := 0) hx hb dX10_holds_225 (by decide) ?_
                    subst hQ
                    exact W.zret (v := 0) hx hb hr (rfl) (fun t ht hW => ⟨⟨0, (), rfl, ⟨rl_0.to (by decide), (fun h0 => trivial), (fun _ => trivial)⟩, by rw [ht]; exact hw.2.1, va_K.moved hW.alike hK, hw.2.2.1⟩, hw.2.2.2.1.F ht⟩) hw.2.2.2.1.2.2 dX10_holds_226
                  · have r_v_10 : RI v_10 0 5 := rc_eq2 r_v_22 r_v_10 (ti_eq c_218) (by decide)
                    refine lv_iconst (v := 1) hx hb dX10_holds_221 (by decide) ?_
                    refine lv_goto (tgt := 226) hx hb dX10_holds_222 (by decide) ?_
                    subst hQ
                    exact W.zret (v := 1) hx hb hr (rfl) (fun t ht hW => ⟨⟨1, (), rfl, ⟨rl_1.to (by decide), (fun _ => trivial), (fun h0 => trivial)⟩, by rw [ht]; exact hw.2.1, va_K.moved hW.alike hK, hw.2.2.1⟩, hw.2.2.2.1.F ht⟩) hw.2.2.2.1.2.2 dX10_holds_226
              · by_cases k_34_73 : v_13 = 73
                · refine lv_lookup (tgt := 227) (off := 193) hx hb dX10_holds_34 (by decide) (by rw [k_34_73]; decide) (by decide) ?_
                  have r_v_13 : RI v_13 73 73 := by rw [k_34_73]; exact rl_73
                  refine lv_aload_n hx hb dX10_holds_227 rfl (lv_at hl 3 rfl) ?_
                  refine tg_mem (ci := 10) (C := RX10) (T := TX10) (N := 49) hx hb hts inX10 hown hK hw 14 m_u_8 rfl (by decide) (hts _ tw_1151) (fun _ h9 => h9) dX10_holds_228 ?_
                  refine lv_bipush (v := 86) hx hb dX10_holds_231 (by decide) ?_
                  refine lv_iload_n hx hb dX10_holds_233 rfl (lv_at hl 5 rfl) ?_
                  refine lv_iadd hx hb dX10_holds_234 (lv_topi (fun v_23 e_v_23 => ?_))
                  obtain ⟨t_v_23, r_v_23⟩ := tq_add (lo := 86) (hi := 91) rl_86 r_p2 (by decide +kernel) e_v_23
                  have t_v_23 : v_23.toInt = 86 + p2.toInt := t_v_23
                  refine tg_iald (lo := (-2147483648)) (hi := 2147483647) hx hb hK hw h_vu_8 rfl 86 91 r_v_23 (by decide) (by decide +kernel) dX10_holds_235 (fun v_24 r_v_24 m_v_24 o_v_24 => ?_)
                  refine lv_iload hx hb dX10_holds_236 (lv_at hl 1 rfl) ?_
                  refine lv_icmp_ne (tgt := 245) hx hb dX10_holds_238 (by decide) (fun c_238 => ?_) (fun c_238 => ?_)
                  · refine lv_iconst (v := 0) hx hb dX10_holds_245 (by decide) ?_
                    subst hQ
                    exact W.zret (v := 0) hx hb hr (rfl) (fun t ht hW => ⟨⟨0, (), rfl, ⟨rl_0.to (by decide), (fun h0 => trivial), (fun _ => trivial)⟩, by rw [ht]; exact hw.2.1, va_K.moved hW.alike hK, hw.2.2.1⟩, hw.2.2.2.1.F ht⟩) hw.2.2.2.1.2.2 dX10_holds_246
                  · refine lv_iconst (v := 1) hx hb dX10_holds_241 (by decide) ?_
                    refine lv_goto (tgt := 246) hx hb dX10_holds_242 (by decide) ?_
                    subst hQ
                    exact W.zret (v := 1) hx hb hr (rfl) (fun t ht hW => ⟨⟨1, (), rfl, ⟨rl_1.to (by decide), (fun _ => trivial), (fun h0 => trivial)⟩, by rw [ht]; exact hw.2.1, va_K.moved hW.alike hK, hw.2.2.1⟩, hw.2.2.2.1.F ht⟩) hw.2.2.2.1.2.2 dX10_holds_246
                · refine lv_lookup (tgt := 247) (off := 213) hx hb dX10_holds_34 (by decide) ((lv_osw k_34_1 (by decide)).trans ((lv_osw k_34_2 (by decide)).trans ((lv_osw k_34_3 (by decide)).trans ((lv_osw k_34_69 (by decide)).trans ((lv_osw k_34_70 (by decide)).trans ((lv_osw k_34_71 (by decide)).trans ((lv_osw k_34_72 (by decide)).trans ((lv_osw k_34_73 (by decide)).trans (rfl))))))))) (by decide) ?_
                  refine lv_aload_n hx hb dX10_holds_247 rfl (lv_at hl 3 rfl) ?_
                  refine tg_mem (ci := 10) (C := RX10) (T := TX10) (N := 49) hx hb hts inX10 hown hK hw 14 m_u_8 rfl (by decide) (hts _ tw_1151) (fun _ h9 => h9) dX10_holds_248 ?_
                  refine lv_iload_n hx hb dX10_holds_251 rfl (lv_at hl 2 rfl) ?_
                  refine tg_imem hx hb hK hw h_vu_8 rfl r_v_7 (by decide) m_v_13 dX10_holds_252 ?_
                  refine lv_bipush (v := 50) hx hb dX10_holds_253 (by decide) ?_
                  refine lv_isub hx hb dX10_holds_255 (lv_topi (fun v_26 e_v_26 => ?_))
                  have r_v_26 := ri_any v_26
                  refine lv_istore (lv' := [(6, .int v_26), (5, .int v_12), (4, .int v_10), (3, .int v_7), (0, .ref p0), (1, .int p1), (2, .int p2)]) hx hb dX10_holds_256 hl (by decide) rfl (fun ls hl => ?_)
                  refine lv_iload hx hb dX10_holds_258 (lv_at hl 0 rfl) ?_
                  refine lv_bipush (v := 24) hx hb dX10_holds_260 (by decide) ?_
                  refine lv_icmp_ne (tgt := 273) hx hb dX10_holds_262 (by decide) (fun c_262 => ?_) (fun c_262 => ?_)
                  · refine lv_iload hx hb dX10_holds_273 (lv_at hl 0 rfl) ?_
                    refine lv_bipush (v := 25) hx hb dX10_holds_275 (by decide) ?_
                    refine lv_icmp_ne (tgt := 292) hx hb dX10_holds_277 (by decide) (fun c_277 => ?_) (fun c_277 => ?_)
                    · refine lv_iload hx hb dX10_holds_292 (lv_at hl 0 rfl) ?_
                      refine lv_bipush (v := 26) hx hb dX10_holds_294 (by decide) ?_
                      refine lv_icmp_ne (tgt := 311) hx hb dX10_holds_296 (by decide) (fun c_296 => ?_) (fun c_296 => ?_)
                      · refine lv_iload_n hx hb dX10_holds_311 rfl (lv_at hl 6 rfl) ?_
                        exact B312 v_7 v_10 v_12 v_26 p2 _ _ ls r_p1 r_p2 r_v_7 r_v_10 r_v_12 r_v_26 (r_p2.to (by decide)) hw (lv_sub hl [4, 5, 6, 3, 2, 1, 0] rfl)
                      · have r_v_26 : RI v_26 26 26 := rc_eq1 r_v_26 rl_26 (ti_eq c_296) (by decide)
                        refine lv_aload_n hx hb dX10_holds_299 rfl (lv_at hl 4 rfl) ?_
                        refine tg_mem (ci := 10) (C := RX10) (T := TX10) (N := 49) hx hb hts inX10 hown hK hw 14 m_u_8 rfl (by decide) (hts _ tw_1151) (fun _ h9 => h9) dX10_holds_300 ?_
                        refine lv_bipush (v := 98) hx hb dX10_holds_303 (by decide) ?_
                        refine lv_iload_n hx hb dX10_holds_305 rfl (lv_at hl 6 rfl) ?_
                        refine lv_iadd hx hb dX10_holds_306 (lv_topi (fun v_27 e_v_27 => ?_))
                        obtain ⟨t_v_27, r_v_27⟩ := tq_add (lo := 98) (hi := 103) rl_98 r_p2 (by decide +kernel) e_v_27
                        have t_v_27 : v_27.toInt = 98 + p2.toInt := t_v_27
                        refine tg_iald (lo := (-2147483648)) (hi := 2147483647) hx hb hK hw h_vu_8 rfl 98 103 r_v_27 (by decide) (by decide +kernel) dX10_holds_307 (fun v_28 r_v_28 m_v_28 o_v_28 => ?_)
                        refine lv_goto (tgt := 312) hx hb dX10_holds_308 (by decide) ?_
                        exact B312 v_7 v_10 v_12 v_26 v_28 _ _ ls r_p1 r_p2 r_v_7 r_v_10 r_v_12 (r_v_26.to (by decide)) r_v_28 hw (lv_sub hl [4, 5, 6, 3, 2, 1, 0] rfl)
                    · have r_v_26 : RI v_26 25 25 := rc_eq1 r_v_26 rl_25 (ti_eq c_277) (by decide)
                      refine lv_aload_n hx hb dX10_holds_280 rfl (lv_at hl 4 rfl) ?_
                      refine tg_mem (ci := 10) (C := RX10) (T := TX10) (N := 49) hx hb hts inX10 hown hK hw 14 m_u_8 rfl (by decide) (hts _ tw_1151) (fun _ h9 => h9) dX10_holds_281 ?_
                      refine lv_bipush (v := 92) hx hb dX10_holds_284 (by decide) ?_
                      refine lv_iload_n hx hb dX10_holds_286 rfl (lv_at hl 6 rfl) ?_
                      refine lv_iadd hx hb dX10_holds_287 (lv_topi (fun v_29 e_v_29 => ?_))
                      obtain ⟨t_v_29, r_v_29⟩ := tq_add (lo := 92) (hi := 97) rl_92 r_p2 (by decide +kernel) e_v_29
                      have t_v_29 : v_29.toInt = 92 + p2.toInt := t_v_29
                      refine tg_iald (lo := (-2147483648)) (hi := 2147483647) hx hb hK hw h_vu_8 rfl 92 97 r_v_29 (by decide) (by decide +kernel) dX10_holds_288 (fun v_30 r_v_30 m_v_30 o_v_30 => ?_)
                      refine lv_goto (tgt := 312) hx hb dX10_holds_289 (by decide) ?_
                      exact B312 v_7 v_10 v_12 v_26 v_30 _ _ ls r_p1 r_p2 r_v_7 r_v_10 r_v_12 (r_v_26.to (by decide)) r_v_30 hw (lv_sub hl [4, 5, 6, 3, 2, 1, 0] rfl)
                  · have r_v_26 : RI v_26 24 24 := rc_eq1 r_v_26 rl_24 (ti_eq c_262) (by decide)
                    refine lv_aload_n hx hb dX10_holds_265 rfl (lv_at hl 4 rfl) ?_
                    refine lv_iload_n hx hb dX10_holds_266 rfl (lv_at hl 6 rfl) ?_
                    refine tk_ir (va_runV (As := [.int p2]) (rest := []) ⟨hx, hb, hml, hown, hts⟩ (c_X10_sizeOf l D cy z s.heap.size Ps w0 hw.1 p0 p2 h_p0 r_p2) (cwV 1 hts (gV tw_1453 tw_1455 ts_70 tw_15 tw_1456) rfl rfl rfl (by decide +kernel) ⟨Nat.le_of_ble_eq_true rfl, Nat.le_of_ble_eq_true rfl⟩) (tg_preV hw hK hSD hA (ci := 10) (q := (RX10, TX10, 49)) rfl h_p0 rfl) rfl rfl hl.1 rfl (lv_room (Nat.le_of_ble_eq_true rfl)) dX10_holds_267 ⟨Nat.le_of_ble_eq_true rfl, Nat.le_of_ble_eq_true rfl⟩) hw hA (fun v_31  H locs hp_v_31 hw => ?_)
                    have r_v_31 : RI v_31 (-2147483648) 2147483647 := hp_v_31.1
                    refine lv_goto (tgt := 312) hx hb dX10_holds_270 (by decide) ?_
                    exact B312 v_7 v_10 v_12 v_26 v_31 _ _ ls r_p1 r_p2 r_v_7 r_v_10 r_v_12 (r_v_26.to (by decide)) r_v_31 hw (lv_sub hl [4, 5, 6, 3, 2, 1, 0] rfl)
abbrev wr_X10_holds__16 : List (Nat × Nat) := []
abbrev wa_X10_holds__16 : List Nat := []
set_option maxHeartbeats 4000000 in
set_option maxRecDepth 100000 in
theorem c_X10_holds__16 (l : Launch) (D : va_G) (cy : Nat → ClassId) (z : Nat → Nat) (sz : Nat) (Ps : PSI) (w0 : va_W) (hT : HT cy GG Ps w0) (p0 : Nat) (p1 : Int32) (p2 : Int32) (h_p0 : (p0, 55) ∈ Ps) (r_p1 : RI p1 0 43) (r_p2 : RI p2 0 5) : Met l yX10_holds (Cond.code yX10_holds cX10_holds 8 (some .boolean) :: gT) ({ frames := 46, cells := 0, slots := 0, locals := 9200 } : Room) (va_Pc [.ref p0, .int p1, .int p2] (PRE D cy z w0 sz)) (va_Qi (fun (r : Int32) (u : Unit) => RI r 0 1 ∧ (r = 0 → True) ∧ (¬ r = 0 → True)) (BB D cy (va_A w0 sz) (fun (u : Unit) => w0)) (va_A w0 sz)) 0 0 (va_A w0 sz) := by
  refine Met.ofW (cc := cX10_holds) (maxL := 8) (ret := (some .boolean)) (by decide) rfl ?_
  intro p e s m args below meth c s₁ B hml hv
  obtain ⟨rfl, hsz, hP, hK, hD0, hSD⟩ := hv
  have hx := B.exec
  have hb := B.bytes
  have hr := B.returns
  have hlocks := B.notSynchronized
  have hts : ∀ w ∈ gT, w.before _ s = true := fun w h => atoms_spec (ws := Cond.code yX10_holds cX10_holds 8 (some .boolean) :: gT) B.pre w (List.mem_cons_of_mem _ h)
  have hown : s.vm.findClass RX10 = some m.cls := findClass_of_methodNamed B.named
  subst hsz
  have hD := hD0.self (sz := s.heap.size)
  generalize hAe : va_A w0 s.heap.size = A at hD hSD ⊢
  have hA : ∀ q : Nat, s.heap.size ≤ q → A q := fun q h => by rw [← hAe]; exact Or.inr h
  have hl := lv_entry ([.ref p0, .int p1, .int p2]) (n := 8) (Nat.le_of_ble_eq_true rfl)
  rw [lg_entry_eq]
  generalize (lg_sl ([.ref p0, .int p1, .int p2]) ++ List.replicate (8 - (lg_sl ([.ref p0, .int p1, .int p2])).length) Slot.unset).toArray = ls at hl ⊢
  have hl : lv_has ls 8 [(0, .ref p0), (1, .int p1), (2, .int p2)] := hl
  refine nameQ (fun Q hQ => ?_)
  have hw : WD D cy GG A s wr_X10_holds__16 wa_X10_holds__16 Ps w0 Ps w0 s.heap [] := ⟨hT, hP, hD, va_S.rf, FR.rf, hT.1, [], (List.append_nil _).symm⟩
  have B312 : ∀ (x3 : Int32) (x4 : Int32) (x5 : Int32) (x6 : Int32) (y0 : Int32) (H : Heap) (locs : List Loc) (ls : Array Slot), RI p1 0 43 → RI p2 0 5 → RI x3 174 346 → RI x4 (-2147483648) 2147483647 → RI x5 (-2147483648) 2147483647 → RI x6 (-2147483648) 2147483647 → RI y0 (-2147483648) 2147483647 → WD D cy GG A s wr_X10_holds__16 wa_X10_holds__16 Ps w0 Ps w0 H locs → lv_has ls 8 [(0, .ref p0), (1, .int p1), (2, .int p2), (3, .int x3), (4, .int x4), (5, .int x5), (6, .int x6)] → W p l e (headSpec (Cond.code yX10_holds cX10_holds 8 (some .boolean) :: gT) ({ frames := 46, cells := 0, slots := 0, locals := 9200 } : Room)).room s m ([.ref p0, .int p1, .int p2] : List Value).toArray below meth c H locs 0 0 Q (F0 m 312 ls [.int y0]) := by
    intro x3 x4 x5 x6 y0 H locs ls r_p1 r_p2 r_x3 r_x4 r_x5 r_x6 r_y0 hw hl
    refine lv_istore (lv' := [(7, .int y0), (0, .ref p0), (1, .int p1), (2, .int p2), (3, .int x3), (4, .int x4), (5, .int x5), (6, .int x6)]) hx hb dX10_holds_312 hl (by decide) rfl (fun ls hl => ?_)
    refine lv_aload_n hx hb dX10_holds_314 rfl (lv_at hl 1 rfl) ?_
    refine tg_get (ci := 10) (ts := ty_MODEL) (C := RX10) (T := TX10) (N := 49) hx hb hts inX10 hown hK hw h_p0 rfl rfl 14 (by decide) (hts _ tw_1151) (fun _ h9 => h9) (ft := vR 34) rfl dX10_holds_315 (fun u_1 hv_u_1 m_u_1 => ?_)
    obtain ⟨vu_1, rfl, h_vu_1⟩ := hv_u_1
    refine lv_iload_n hx hb dX10_holds_318 rfl (lv_at hl 4 rfl) ?_
    refine lv_iconst (v := 3) hx hb dX10_holds_319 (by decide) ?_
    refine lv_iadd hx hb dX10_holds_320 (lv_topi (fun v_2 e_v_2 => ?_))
    obtain ⟨t_v_2, r_v_2⟩ := tq_add (lo := 177) (hi := 349) r_x3 rl_3 (by decide +kernel) e_v_2
    have t_v_2 : v_2.toInt = x3.toInt + 3 := t_v_2
    refine tg_iald (lo := (-2147483648)) (hi := 2147483647) hx hb hK hw h_vu_1 rfl 177 349 r_v_2 (by decide) (by decide +kernel) dX10_holds_321 (fun v_3 r_v_3 m_v_3 o_v_3 => ?_)
    refine lv_bipush (v := 60) hx hb dX10_holds_322 (by decide) ?_
    refine lv_icmp_ne (tgt := 342) hx hb dX10_holds_324 (by decide) (fun c_324 => ?_) (fun c_324 => ?_)
    · refine lv_aload_n hx hb dX10_holds_342 rfl (lv_at hl 1 rfl) ?_
      refine tg_mem (ci := 10) (C := RX10) (T := TX10) (N := 49) hx hb hts inX10 hown hK hw 14 m_u_1 rfl (by decide) (hts _ tw_1151) (fun _ h9 => h9) dX10_holds_343 ?_
      refine lv_iload_n hx hb dX10_holds_346 rfl (lv_at hl 4 rfl) ?_
      refine lv_iconst (v := 3) hx hb dX10_holds_347 (by decide) ?_
      refine lv_iadd hx hb dX10_holds_348 (lv_topi (fun v_4 e_v_4 => ?_))
      obtain ⟨t_v_4, r_v_4⟩ := tq_add (lo := 177) (hi := 349) r_x3 rl_3 (by decide +kernel) e_v_4
      have t_v_4 : v_4.toInt = x3.toInt + 3 := t_v_4
      refine tg_iald (lo := (-2147483648)) (hi := 2147483647) hx hb hK hw h_vu_1 rfl 177 349 r_v_4 (by decide) (by decide +kernel) dX10_holds_349 (fun v_5 r_v_5 m_v_5 o_v_5 => ?_)
      refine lv_bipush (v := 61) hx hb dX10_holds_350 (by decide) ?_
      refine lv_icmp_ne (tgt := 370) hx hb dX10_holds_352 (by decide) (fun c_352 => ?_) (fun c_352 => ?_)
      · refine lv_iload hx hb dX10_holds_370 (lv_at hl 0 rfl) ?_
        refine lv_iload hx hb dX10_holds_372 (lv_at hl 6 rfl) ?_
        refine lv_icmp_le (tgt := 381) hx hb dX10_holds_374 (by decide) (fun c_374 => ?_) (fun c_374 => ?_)
        · refine lv_iconst (v := 0) hx hb dX10_holds_381 (by decide) ?_
          subst hQ
          exact W.zret (v := 0) hx hb hr (rfl) (fun t ht hW => ⟨⟨0, (), rfl, ⟨rl_0.to (by decide), (fun h0 => trivial), (fun _ => trivial)⟩, by rw [ht]; exact hw.2.1, va_K.moved hW.alike hK, hw.2.2.1⟩, hw.2.2.2.1.F ht⟩) hw.2.2.2.1.2.2 dX10_holds_382
        · have r_x5 : RI x5 (-2147483648) 2147483646 := rc_lt1 r_x5 r_y0 (ti_nle c_374) (by decide)
          have r_y0 : RI y0 (-2147483647) 2147483647 := rc_lt2 r_x5 r_y0 (ti_nle c_374) (by decide)
          refine lv_iconst (v := 1) hx hb dX10_holds_377 (by decide) ?_
          refine lv_goto (tgt := 382) hx hb dX10_holds_378 (by decide) ?_
          subst hQ
          exact W.zret (v := 1) hx hb hr (rfl) (fun t ht hW => ⟨⟨1, (), rfl, ⟨rl_1.to (by decide), (fun _ => trivial), (fun h0 => trivial)⟩, by rw [ht]; exact hw.2.1, va_K.moved hW.alike hK, hw.2.2.1⟩, hw.2.2.2.1.F ht⟩) hw.2.2.2.1.2.2 dX10_holds_382
      · have r_v_5 : RI v_5 61 61 := rc_eq1 r_v_5 rl_61 (ti_eq c_352) (by decide)
        refine lv_iload hx hb dX10_holds_355 (lv_at hl 0 rfl) ?_
        refine lv_iload hx hb dX10_holds_357 (lv_at hl 6 rfl) ?_
        refine lv_icmp_ne (tgt := 366) hx hb dX10_holds_359 (by decide) (fun c_359 => ?_) (fun c_359 => ?_)
        · refine lv_iconst (v := 0) hx hb dX10_holds_366 (by decide) ?_
          refine lv_goto (tgt := 382) hx hb dX10_holds_367 (by decide) ?_
          subst hQ
          exact W.zret (v := 0) hx hb hr (rfl) (fun t ht hW => ⟨⟨0, (), rfl, ⟨rl_0.to (by decide), (fun h0 => trivial), (fun _ => trivial)⟩, by rw [ht]; exact hw.2.1, va_K.moved hW.alike hK, hw.2.2.1⟩, hw.2.2.2.1.F ht⟩) hw.2.2.2.1.2.2 dX10_holds_382
        · refine lv_iconst (v := 1) hx hb dX10_holds_362 (by decide) ?_
          refine lv_goto (tgt := 382) hx hb dX10_holds_363 (by decide) ?_
          subst hQ
          exact W.zret (v := 1) hx hb hr (rfl) (fun t ht hW => ⟨⟨1, (), rfl, ⟨rl_1.to (by decide), (fun _ => trivial), (fun h0 => trivial)⟩, by rw [ht]; exact hw.2.1, va_K.moved hW.alike hK, hw.2.2.1⟩, hw.2.2.2.1.F ht⟩) hw.2.2.2.1.2.2 dX10_holds_382
    · have r_v_3 : RI v_3 60 60 := rc_eq1 r_v_3 rl_60 (ti_eq c_324) (by decide)
      refine lv_iload hx hb dX10_holds_327 (lv_at hl 0 rfl) ?_
      refine lv_iload hx hb dX10_holds_329 (lv_at hl 6 rfl) ?_
      refine lv_icmp_ge (tgt := 338) hx hb dX10_holds_331 (by decide) (fun c_331 => ?_) (fun c_331 => ?_)
      · refine lv_iconst (v := 0) hx hb dX10_holds_338 (by decide) ?_
        refine lv_goto (tgt := 382) hx hb dX10_holds_339 (by decide) ?_
        subst hQ
        exact W.zret (v := 0) hx hb hr (rfl) (fun t ht hW => ⟨⟨0, (), rfl, ⟨rl_0.to (by decide), (fun h0 => trivial), (fun _ => trivial)⟩, by rw [ht]; exact hw.2.1, va_K.moved hW.alike hK, hw.2.2.1⟩, hw.2.2.2.1.F ht⟩) hw.2.2.2.1.2.2 dX10_holds_382
      · have r_y0 : RI y0 (-2147483648) 2147483646 := rc_lt1 r_y0 r_x5 (ti_nle c_331) (by decide)
        have r_x5 : RI x5 (-2147483647) 2147483647 := rc_lt2 r_y0 r_x5 (ti_nle c_331) (by decide)
        refine lv_iconst (v := 1) hx hb dX10_holds_334 (by decide) ?_
        refine lv_goto (tgt := 382) hx hb dX10_holds_335 (by decide) ?_
        subst hQ
        exact W.zret (v := 1) hx hb hr (rfl) (fun t ht hW => ⟨⟨1, (), rfl, ⟨rl_1.to (by decide), (fun _ => trivial), (fun h0 => trivial)⟩, by rw [ht]; exact hw.2.1, va_K.moved hW.alike hK, hw.2.2.1⟩, hw.2.2.2.1.F ht⟩) hw.2.2.2.1.2.2 dX10_holds_382
  refine lv_sipush (v := 174) hx hb dX10_holds_0 (by decide) ?_
  refine lv_iconst (v := 4) hx hb dX10_holds_3 (by decide) ?_
  refine lv_iload_n hx hb dX10_holds_4 rfl (lv_at hl 1 rfl) ?_
  refine lv_imul hx hb dX10_holds_5 (lv_topi (fun v_6 e_v_6 => ?_))
  obtain ⟨t_v_6, r_v_6⟩ := tq_mul (lo := 0) (hi := 172) rl_4 r_p1 (by decide +kernel) e_v_6
  have t_v_6 : v_6.toInt = 4 * p1.toInt := t_v_6
  refine lv_iadd hx hb dX10_holds_6 (lv_topi (fun v_7 e_v_7 => ?_))
  obtain ⟨t_v_7, r_v_7⟩ := tq_add (lo := 174) (hi := 346) rl_174 r_v_6 (by decide +kernel) e_v_7
  have t_v_7 : v_7.toInt = 174 + v_6.toInt := t_v_7
  refine lv_istore_n (lv' := [(3, .int v_7), (0, .ref p0), (1, .int p1), (2, .int p2)]) hx hb dX10_holds_7 rfl hl (by decide) rfl (fun ls hl => ?_)
  refine lv_aload_n hx hb dX10_holds_8 rfl (lv_at hl 1 rfl) ?_
  refine tg_get (ci := 10) (ts := ty_MODEL) (C := RX10) (T := TX10) (N := 49) hx hb hts inX10 hown hK hw h_p0 rfl rfl 14 (by decide) (hts _ tw_1151) (fun _ h9 => h9) (ft := vR 34) rfl dX10_holds_9 (fun u_8 hv_u_8 m_u_8 => ?_)
  obtain ⟨vu_8, rfl, h_vu_8⟩ := hv_u_8
  refine lv_iload_n hx hb dX10_holds_12 rfl (lv_at hl 0 rfl) ?_
  refine lv_iconst (v := 1) hx hb dX10_holds_13 (by decide) ?_
  refine lv_iadd hx hb dX10_holds_14 (lv_topi (fun v_9 e_v_9 => ?_))
  obtain ⟨t_v_9, r_v_9⟩ := tq_add (lo := 175) (hi := 347) r_v_7 rl_1 (by decide +kernel) e_v_9
  have t_v_9 : v_9.toInt = v_7.toInt + 1 := t_v_9
  refine tg_iald (lo := (-2147483648)) (hi := 2147483647) hx hb hK hw h_vu_8 rfl 175 347 r_v_9 (by decide) (by decide +kernel) dX10_holds_15 (fun v_10 r_v_10 m_v_10 o_v_10 => ?_)
  refine lv_istore (lv' := [(4, .int v_10), (3, .int v_7), (0, .ref p0), (1, .int p1), (2, .int p2)]) hx hb dX10_holds_16 hl (by decide) rfl (fun ls hl => ?_)
  refine lv_aload_n hx hb dX10_holds_18 rfl (lv_at hl 2 rfl) ?_
  refine tg_mem (ci := 10) (C := RX10) (T := TX10) (N := 49) hx hb hts inX10 hown hK hw 14 m_u_8 rfl (by decide) (hts _ tw_1151) (fun _ h9 => h9) dX10_holds_19 ?_
  refine lv_iload_n hx hb dX10_holds_22 rfl (lv_at hl 1 rfl) ?_
  refine lv_iconst (v := 2) hx hb dX10_holds_23 (by decide) ?_
  refine lv_iadd hx hb dX10_holds_24 (lv_topi (fun v_11 e_v_11 => ?_))
  obtain ⟨t_v_11, r_v_11⟩ := tq_add (lo := 176) (hi := 348) r_v_7 rl_2 (by decide +kernel) e_v_11
  have t_v_11 : v_11.toInt = v_7.toInt + 2 := t_v_11
  refine tg_iald (lo := (-2147483648)) (hi := 2147483647) hx hb hK hw h_vu_8 rfl 176 348 r_v_11 (by decide) (by decide +kernel) dX10_holds_25 (fun v_12 r_v_12 m_v_12 o_v_12 => ?_)
  refine lv_istore (lv' := [(5, .int v_12), (4, .int v_10), (3, .int v_7), (0, .ref p0), (1, .int p1), (2, .int p2)]) hx hb dX10_holds_26 hl (by decide) rfl (fun ls hl => ?_)
  refine lv_aload_n hx hb dX10_holds_28 rfl (lv_at hl 3 rfl) ?_
  refine tg_mem (ci := 10) (C := RX10) (T := TX10) (N := 49) hx hb hts inX10 hown hK hw 14 m_u_8 rfl (by decide) (hts _ tw_1151) (fun _ h9 => h9) dX10_holds_29 ?_
  refine lv_iload_n hx hb dX10_holds_32 rfl (lv_at hl 2 rfl) ?_
  refine tg_iald (lo := (-2147483648)) (hi := 2147483647) hx hb hK hw h_vu_8 rfl 174 346 r_v_7 (by decide) (by decide +kernel) dX10_holds_33 (fun v_13 r_v_13 m_v_13 o_v_13 => ?_)
  by_cases k_34_1 : v_13 = 1
  · refine lv_lookup (tgt := 108) (off := 74) hx hb dX10_holds_34 (by decide) (by rw [k_34_1]; decide) (by decide) ?_
    have r_v_13 : RI v_13 1 1 := by rw [k_34_1]; exact rl_1
    have g_v_10 : 0 ≤ v_10.toInt ∧ v_10.toInt < p1.toInt := by obtain ⟨_, f9, e8, e7, q9, _⟩ := ax_of (k := 14) (t := 34) hw h_p0 rfl (fun _ => rfl); cases FLD.inj hw.2.2.1 e8 m_u_8; have t9 := ARR.ael hw.2.2.1 e7 m_v_13; have x9 := ARR.ael hw.2.2.1 e7 m_v_10; rw [show Int32.toNatClampNeg v_7 = 174 + 4 * Int32.toNatClampNeg p1 from (by have k1 := r_v_7.cl (by decide); have k2 := r_p1.cl (by decide); omega)] at t9; rw [show Int32.toNatClampNeg v_9 = 175 + 4 * Int32.toNatClampNeg p1 from (by have k1 := r_v_9.cl (by decide); have k2 := r_p1.cl (by decide); omega)] at x9; exact RN_child q9 (r_p1.to (by decide)) t9 x9 (r_v_13.to (by decide))
    have r_v_10 : RI v_10 0 42 := ⟨g_v_10.1, by have k1 := r_p1.2; omega⟩
    refine lv_aload_n hx hb dX10_holds_108 rfl (lv_at hl 3 rfl) ?_
    refine lv_iload hx hb dX10_holds_109 (lv_at hl 1 rfl) ?_
    refine lv_iload_n hx hb dX10_holds_111 rfl (lv_at hl 5 rfl) ?_
    refine tk_ir (va_runV (As := [.int v_10, .int p2]) (rest := []) ⟨hx, hb, hml, hown, hts⟩ (c_X10_holds__17 l D cy z s.heap.size Ps w0 hw.1 p0 v_10 p2 h_p0 r_v_10 r_p2) (cwV 2 hts (gV tw_1787 tw_1789 ts_119 tw_15 tw_1790) rfl rfl rfl (by decide +kernel) ⟨Nat.le_of_ble_eq_true rfl, Nat.le_of_ble_eq_true rfl⟩) (tg_preV hw hK hSD hA (ci := 10) (q := (RX10, TX10, 49)) rfl h_p0 rfl) rfl rfl hl.1 rfl (lv_room (Nat.le_of_ble_eq_true rfl)) dX10_holds_112 ⟨Nat.le_of_ble_eq_true rfl, Nat.le_of_ble_eq_true rfl⟩) hw hA (fun v_14  H locs hp_v_14 hw => ?_)
    have r_v_14 : RI v_14 0 1 := hp_v_14.1
    refine lv_if_ne (tgt := 122) hx hb dX10_holds_115 (by decide) (fun c_115 => ?_) (fun c_115 => ?_)
    · have r_v_14 : RI v_14 1 1 := rc_neL r_v_14 rl_0 (ti_ne c_115) (by decide)
      refine lv_iconst (v := 0) hx hb dX10_holds_122 (by decide) ?_
      subst hQ
      exact W.zret (v := 0) hx hb hr (rfl) (fun t ht hW => ⟨⟨0, (), rfl, ⟨rl_0.to (by decide), (fun h0 => trivial), (fun _ => trivial)⟩, by rw [ht]; exact hw.2.1, va_K.moved hW.alike hK, hw.2.2.1⟩, hw.2.2.2.1.F ht⟩) hw.2.2.2.1.2.2 dX10_holds_123
    · have r_v_14 : RI v_14 0 0 := rc_eq1 r_v_14 rl_0 (ti_eq c_115) (by decide)
      refine lv_iconst (v := 1) hx hb dX10_holds_118 (by decide) ?_
      refine lv_goto (tgt := 123) hx hb dX10_holds_119 (by decide) ?_
      subst hQ
      exact W.zret (v := 1) hx hb hr (rfl) (fun t ht hW => ⟨⟨1, (), rfl, ⟨rl_1.to (by decide), (fun _ => trivial), (fun h0 => trivial)⟩, by rw [ht]; exact hw.2.1, va_K.moved hW.alike hK, hw.2.2.1⟩, hw.2.2.2.1.F ht⟩) hw.2.2.2.1.2.2 dX10_holds_123
  · by_cases k_34_2 : v_13 = 2
    · refine lv_lookup (tgt := 124) (off := 90) hx hb dX10_holds_34 (by decide) (by rw [k_34_2]; decide) (by decide) ?_
      have r_v_13 : RI v_13 2 2 := by rw [k_34_2]; exact rl_2
      have g_v_10 : 0 ≤ v_10.toInt ∧ v_10.toInt < p1.toInt := by obtain ⟨_, f9, e8, e7, q9, _⟩ := ax_of (k := 14) (t := 34) hw h_p0 rfl (fun _ => rfl); cases FLD.inj hw.2.2.1 e8 m_u_8; have t9 := ARR.ael hw.2.2.1 e7 m_v_13; have x9 := ARR.ael hw.2.2.1 e7 m_v_10; rw [show Int32.toNatClampNeg v_7 = 174 + 4 * Int32.toNatClampNeg p1 from (by have k1 := r_v_7.cl (by decide); have k2 := r_p1.cl (by decide); omega)] at t9; rw [show Int32.toNatClampNeg v_9 = 175 + 4 * Int32.toNatClampNeg p1 from (by have k1 := r_v_9.cl (by decide); have k2 := r_p1.cl (by decide); omega)] at x9; exact RN_child q9 (r_p1.to (by decide)) t9 x9 (r_v_13.to (by decide))
      have r_v_10 : RI v_10 0 42 := ⟨g_v_10.1, by have k1 := r_p1.2; omega⟩
      have g_v_12 : 0 ≤ v_12.toInt ∧ v_12.toInt < p1.toInt := by obtain ⟨_, f9, e8, e7, q9, _⟩ := ax_of (k := 14) (t := 34) hw h_p0 rfl (fun _ => rfl); cases FLD.inj hw.2.2.1 e8 m_u_8; have t9 := ARR.ael hw.2.2.1 e7 m_v_13; have x9 := ARR.ael hw.2.2.1 e7 m_v_12; rw [show Int32.toNatClampNeg v_7 = 174 + 4 * Int32.toNatClampNeg p1 from (by have k1 := r_v_7.cl (by decide); have k2 := r_p1.cl (by decide); omega)] at t9; rw [show Int32.toNatClampNeg v_11 = 176 + 4 * Int32.toNatClampNeg p1 from (by have k1 := r_v_11.cl (by decide); have k2 := r_p1.cl (by decide); omega)] at x9; exact RN_child2 q9 (r_p1.to (by decide)) t9 x9 (r_v_13.to (by decide))
      have r_v_12 : RI v_12 0 42 := ⟨g_v_12.1, by have k1 := r_p1.2; omega⟩
      refine lv_aload_n hx hb dX10_holds_124 rfl (lv_at hl 3 rfl) ?_
      refine lv_iload hx hb dX10_holds_125 (lv_at hl 1 rfl) ?_
      refine lv_iload_n hx hb dX10_holds_127 rfl (lv_at hl 5 rfl) ?_
      refine tk_ir (va_runV (As := [.int v_10, .int p2]) (rest := []) ⟨hx, hb, hml, hown, hts⟩ (c_X10_holds__17 l D cy z s.heap.size Ps w0 hw.1 p0 v_10 p2 h_p0 r_v_10 r_p2) (cwV 2 hts (gV tw_1787 tw_1789 ts_119 tw_15 tw_1790) rfl rfl rfl (by decide +kernel) ⟨Nat.le_of_ble_eq_true rfl, Nat.le_of_ble_eq_true rfl⟩) (tg_preV hw hK hSD hA (ci := 10) (q := (RX10, TX10, 49)) rfl h_p0 rfl) rfl rfl hl.1 rfl (lv_room (Nat.le_of_ble_eq_true rfl)) dX10_holds_128 ⟨Nat.le_of_ble_eq_true rfl, Nat.le_of_ble_eq_true rfl⟩) hw hA (fun v_15  H locs hp_v_15 hw => ?_)
      have r_v_15 : RI v_15 0 1 := hp_v_15.1
      refine lv_if_eq (tgt := 148) hx hb dX10_holds_131 (by decide) (fun c_131 => ?_) (fun c_131 => ?_)
      · have r_v_15 : RI v_15 0 0 := rc_eq1 r_v_15 rl_0 (ti_eq c_131) (by decide)
        refine lv_iconst (v := 0) hx hb dX10_holds_148 (by decide) ?_
        subst hQ
        exact W.zret (v := 0) hx hb hr (rfl) (fun t ht hW => ⟨⟨0, (), rfl, ⟨rl_0.to (by decide), (fun h0 => trivial), (fun _ => trivial)⟩, by rw [ht]; exact hw.2.1, va_K.moved hW.alike hK, hw.2.2.1⟩, hw.2.2.2.1.F ht⟩) hw.2.2.2.1.2.2 dX10_holds_149
      · have r_v_15 : RI v_15 1 1 := rc_neL r_v_15 rl_0 (ti_ne c_131) (by decide)
        refine lv_aload_n hx hb dX10_holds_134 rfl (lv_at hl 3 rfl) ?_
        refine lv_iload hx hb dX10_holds_135 (lv_at hl 0 rfl) ?_
        refine lv_iload_n hx hb dX10_holds_137 rfl (lv_at hl 5 rfl) ?_
        refine tk_ir (va_runV (As := [.int v_12, .int p2]) (rest := []) ⟨hx, hb, hml, hown, hts⟩ (c_X10_holds__17 l D cy z H.size Ps w0 hw.1 p0 v_12 p2 h_p0 r_v_12 r_p2) (cwV 2 hts (gV tw_1787 tw_1789 ts_119 tw_15 tw_1790) rfl rfl rfl (by decide +kernel) ⟨Nat.le_of_ble_eq_true rfl, Nat.le_of_ble_eq_true rfl⟩) (tg_preV hw hK hSD hA (ci := 10) (q := (RX10, TX10, 49)) rfl h_p0 rfl) rfl rfl hl.1 rfl (lv_room (Nat.le_of_ble_eq_true rfl)) dX10_holds_138 ⟨Nat.le_of_ble_eq_true rfl, Nat.le_of_ble_eq_true rfl⟩) hw hA (fun v_16  H locs hp_v_16 hw => ?_)
        have r_v_16 : RI v_16 0 1 := hp_v_16.1
        refine lv_if_eq (tgt := 148) hx hb dX10_holds_141 (by decide) (fun c_141 => ?_) (fun c_141 => ?_)
        · have r_v_16 : RI v_16 0 0 := rc_eq1 r_v_16 rl_0 (ti_eq c_141) (by decide)
          refine lv_iconst (v := 0) hx hb dX10_holds_148 (by decide) ?_
          subst hQ
          exact W.zret (v := 0) hx hb hr (rfl) (fun t ht hW => ⟨⟨0, (), rfl, ⟨rl_0.to (by decide), (fun h0 => trivial), (fun _ => trivial)⟩, by rw [ht]; exact hw.2.1, va_K.moved hW.alike hK, hw.2.2.1⟩, hw.2.2.2.1.F ht⟩) hw.2.2.2.1.2.2 dX10_holds_149
        · have r_v_16 : RI v_16 1 1 := rc_neL r_v_16 rl_0 (ti_ne c_141) (by decide)
          refine lv_iconst (v := 1) hx hb dX10_holds_144 (by decide) ?_
          refine lv_goto (tgt := 149) hx hb dX10_holds_145 (by decide) ?_
          subst hQ
          exact W.zret (v := 1) hx hb hr (rfl) (fun t ht hW => ⟨⟨1, (), rfl, ⟨rl_1.to (by decide), (fun _ => trivial), (fun h0 => trivial)⟩, by rw [ht]; exact hw.2.1, va_K.moved hW.alike hK, hw.2.2.1⟩, hw.2.2.2.1.F ht⟩) hw.2.2.2.1.2.2 dX10_holds_149
    · by_cases k_34_3 : v_13 = 3
      · refine lv_lookup (tgt := 150) (off := 116) hx hb dX10_holds_34 (by decide) (by rw [k_34_3]; decide) (by decide) ?_
        have r_v_13 : RI v_13 3 3 := by rw [k_34_3]; exact rl_3
        have g_v_10 : 0 ≤ v_10.toInt ∧ v_10.toInt < p1.toInt := by obtain ⟨_, f9, e8, e7, q9, _⟩ := ax_of (k := 14) (t := 34) hw h_p0 rfl (fun _ => rfl); cases FLD.inj hw.2.2.1 e8 m_u_8; have t9 := ARR.ael hw.2.2.1 e7 m_v_13; have x9 := ARR.ael hw.2.2.1 e7 m_v_10; rw [show Int32.toNatClampNeg v_7 = 174 + 4 * Int32.toNatClampNeg p1 from (by have k1 := r_v_7.cl (by decide); have k2 := r_p1.cl (by decide); omega)] at t9; rw [show Int32.toNatClampNeg v_9 = 175 + 4 * Int32.toNatClampNeg p1 from (by have k1 := r_v_9.cl (by decide); have k2 := r_p1.cl (by decide); omega)] at x9; exact RN_child q9 (r_p1.to (by decide)) t9 x9 (r_v_13.to (by decide))
        have r_v_10 : RI v_10 0 42 := ⟨g_v_10.1, by have k1 := r_p1.2; omega⟩
        have g_v_12 : 0 ≤ v_12.toInt ∧ v_12.toInt < p1.toInt := by obtain ⟨_, f9, e8, e7, q9, _⟩ := ax_of (k := 14) (t := 34) hw h_p0 rfl (fun _ => rfl); cases FLD.inj hw.2.2.1 e8 m_u_8; have t9 := ARR.ael hw.2.2.1 e7 m_v_13; have x9 := ARR.ael hw.2.2.1 e7 m_v_12; rw [show Int32.toNatClampNeg v_7 = 174 + 4 * Int32.toNatClampNeg p1 from (by have k1 := r_v_7.cl (by decide); have k2 := r_p1.cl (by decide); omega)] at t9; rw [show Int32.toNatClampNeg v_11 = 176 + 4 * Int32.toNatClampNeg p1 from (by have k1 := r_v_11.cl (by decide); have k2 := r_p1.cl (by decide); omega)] at x9; exact RN_child2 q9 (r_p1.to (by decide)) t9 x9 (r_v_13.to (by decide))
        have r_v_12 : RI v_12 0 42 := ⟨g_v_12.1, by have k1 := r_p1.2; omega⟩
        refine lv_aload_n hx hb dX10_holds_150 rfl (lv_at hl 3 rfl) ?_
        refine lv_iload hx hb dX10_holds_151 (lv_at hl 1 rfl) ?_
        refine lv_iload_n hx hb dX10_holds_153 rfl (lv_at hl 5 rfl) ?_
        refine tk_ir (va_runV (As := [.int v_10, .int p2]) (rest := []) ⟨hx, hb, hml, hown, hts⟩ (c_X10_holds__17 l D cy z s.heap.size Ps w0 hw.1 p0 v_10 p2 h_p0 r_v_10 r_p2) (cwV 2 hts (gV tw_1787 tw_1789 ts_119 tw_15 tw_1790) rfl rfl rfl (by decide +kernel) ⟨Nat.le_of_ble_eq_true rfl, Nat.le_of_ble_eq_true rfl⟩) (tg_preV hw hK hSD hA (ci := 10) (q := (RX10, TX10, 49)) rfl h_p0 rfl) rfl rfl hl.1 rfl (lv_room (Nat.le_of_ble_eq_true rfl)) dX10_holds_154 ⟨Nat.le_of_ble_eq_true rfl, Nat.le_of_ble_eq_true rfl⟩) hw hA (fun v_17  H locs hp_v_17 hw => ?_)
        have r_v_17 : RI v_17 0 1 := hp_v_17.1
        refine lv_if_ne (tgt := 170) hx hb dX10_holds_157 (by decide) (fun c_157 => ?_) (fun c_157 => ?_)
        · have r_v_17 : RI v_17 1 1 := rc_neL r_v_17 rl_0 (ti_ne c_157) (by decide)
          refine lv_iconst (v := 1) hx hb dX10_holds_170 (by decide) ?_
          refine lv_goto (tgt := 175) hx hb dX10_holds_171 (by decide) ?_
          subst hQ
          exact W.zret (v := 1) hx hb hr (rfl) (fun t ht hW => ⟨⟨1, (), rfl, ⟨rl_1.to (by decide), (fun _ => trivial), (fun h0 => trivial)⟩, by rw [ht]; exact hw.2.1, va_K.moved hW.alike hK, hw.2.2.1⟩, hw.2.2.2.1.F ht⟩) hw.2.2.2.1.2.2 dX10_holds_175
        · have r_v_17 : RI v_17 0 0 := rc_eq1 r_v_17 rl_0 (ti_eq c_157) (by decide)
          refine lv_aload_n hx hb dX10_holds_160 rfl (lv_at hl 3 rfl) ?_
          refine lv_iload hx hb dX10_holds_161 (lv_at hl 0 rfl) ?_
          refine lv_iload_n hx hb dX10_holds_163 rfl (lv_at hl 5 rfl) ?_
          refine tk_ir (va_runV (As := [.int v_12, .int p2]) (rest := []) ⟨hx, hb, hml, hown, hts⟩ (c_X10_holds__17 l D cy z H.size Ps w0 hw.1 p0 v_12 p2 h_p0 r_v_12 r_p2) (cwV 2 hts (gV tw_1787 tw_1789 ts_119 tw_15 tw_1790) rfl rfl rfl (by decide +kernel) ⟨Nat.le_of_ble_eq_true rfl, Nat.le_of_ble_eq_true rfl⟩) (tg_preV hw hK hSD hA (ci := 10) (q := (RX10, TX10, 49)) rfl h_p0 rfl) rfl rfl hl.1 rfl (lv_room (Nat.le_of_ble_eq_true rfl)) dX10_holds_164 ⟨Nat.le_of_ble_eq_true rfl, Nat.le_of_ble_eq_true rfl⟩) hw hA (fun v_18  H locs hp_v_18 hw => ?_)
          have r_v_18 : RI v_18 0 1 := hp_v_18.1
          refine lv_if_eq (tgt := 174) hx hb dX10_holds_167 (by decide) (fun c_167 => ?_) (fun c_167 => ?_)
          · have r_v_18 : RI v_18 0 0 := rc_eq1 r_v_18 rl_0 (ti_eq c_167) (by decide)
            refine lv_iconst (v := 0) hx hb dX10_holds_174 (by decide) ?_
            subst hQ
            exact W.zret (v := 0) hx hb hr (rfl) (fun t ht hW => ⟨⟨0, (), rfl, ⟨rl_0.to (by decide), (fun h0 => trivial), (fun _ => trivial)⟩, by rw [ht]; exact hw.2.1, va_K.moved hW.alike hK, hw.2.2.1⟩, hw.2.2.2.1.F ht⟩) hw.2.2.2.1.2.2 dX10_holds_175
          · have r_v_18 : RI v_18 1 1 := rc_neL r_v_18 rl_0 (ti_ne c_167) (by decide)
            refine lv_iconst (v := 1) hx hb dX10_holds_170 (by decide) ?_
            refine lv_goto (tgt := 175) hx hb dX10_holds_171 (by decide) ?_
            subst hQ
            exact W.zret (v := 1) hx hb hr (rfl) (fun t ht hW => ⟨⟨1, (), rfl, ⟨rl_1.to (by decide), (fun _ => trivial), (fun h0 => trivial)⟩, by rw [ht]; exact hw.2.1, va_K.moved hW.alike hK, hw.2.2.1⟩, hw.2.2.2.1.F ht⟩) hw.2.2.2.1.2.2 dX10_holds_175
      · by_cases k_34_69 : v_13 = 69
        · refine lv_lookup (tgt := 176) (off := 142) hx hb dX10_holds_34 (by decide) (by rw [k_34_69]; decide) (by decide) ?_
          have r_v_13 : RI v_13 69 69 := by rw [k_34_69]; exact rl_69
          refine lv_aload_n hx hb dX10_holds_176 rfl (lv_at hl 3 rfl) ?_
          refine lv_iload_n hx hb dX10_holds_177 rfl (lv_at hl 5 rfl) ?_
          refine tk_ir (va_runV (As := [.int p2]) (rest := []) ⟨hx, hb, hml, hown, hts⟩ (c_X10_isOpen l D cy z s.heap.size Ps w0 hw.1 p0 p2 h_p0 (r_p2.to (by decide))) (cwV 1 hts (gV tw_1457 tw_1459 ts_71 tw_15 tw_1460) rfl rfl rfl (by decide +kernel) ⟨Nat.le_of_ble_eq_true rfl, Nat.le_of_ble_eq_true rfl⟩) (tg_preV hw hK hSD hA (ci := 10) (q := (RX10, TX10, 49)) rfl h_p0 rfl) rfl rfl hl.1 rfl (lv_room (Nat.le_of_ble_eq_true rfl)) dX10_holds_178 ⟨Nat.le_of_ble_eq_true rfl, Nat.le_of_ble_eq_true rfl⟩) hw hA (fun v_19  H locs hp_v_19 hw => ?_)
          have r_v_19 : RI v_19 0 1 := hp_v_19.1
          subst hQ
          exact W.zret (v := v_19) hx hb hr (tq_nz (r_v_19.to (by decide))) (fun t ht hW => ⟨⟨v_19, (), rfl, ⟨r_v_19.to (by decide), (fun h0 => trivial), (fun h0 => trivial)⟩, by rw [ht]; exact hw.2.1, va_K.moved hW.alike hK, hw.2.2.1⟩, hw.2.2.2.1.F ht⟩) hw.2.2.2.1.2.2 dX10_holds_181
        · by_cases k_34_70 : v_13 = 70
          · refine lv_lookup (tgt := 182) (off := 148) hx hb dX10_holds_34 (by decide) (by rw [k_34_70]; decide) (by decide) ?_
            have r_v_13 : RI v_13 70 70 := by rw [k_34_70]; exact rl_70
            refine lv_aload_n hx hb dX10_holds_182 rfl (lv_at hl 3 rfl) ?_
            refine lv_iload_n hx hb dX10_holds_183 rfl (lv_at hl 5 rfl) ?_
            refine tk_ir (va_runV (As := [.int p2]) (rest := []) ⟨hx, hb, hml, hown, hts⟩ (c_X10_whatIs l D cy z s.heap.size Ps w0 hw.1 p0 p2 h_p0 r_p2) (cwV 1 hts (gV tw_1449 tw_1451 ts_69 tw_15 tw_1452) rfl rfl rfl (by decide +kernel) ⟨Nat.le_of_ble_eq_true rfl, Nat.le_of_ble_eq_true rfl⟩) (tg_preV hw hK hSD hA (ci := 10) (q := (RX10, TX10, 49)) rfl h_p0 rfl) rfl rfl hl.1 rfl (lv_room (Nat.le_of_ble_eq_true rfl)) dX10_holds_184 ⟨Nat.le_of_ble_eq_true rfl, Nat.le_of_ble_eq_true rfl⟩) hw hA (fun v_20  H locs hp_v_20 hw => ?_)
            have r_v_20 : RI v_20 (-1) 5 := hp_v_20.1
            by_cases c9_v_20 : v_20.toInt < 0
            · have r_v_20 : RI v_20 (-1) (-1) := by unfold RI at r_v_20 ⊢; omega
              have x_NB_p0_p2 := (hp_v_20.2.2.2.2.1 (by omega)).1
              refine lv_iconst (v := (-1)) hx hb dX10_holds_187 (by decide) ?_
              refine lv_icmp_ne (tgt := 195) hx hb dX10_holds_188 (by decide) (fun c_188 => ?_) (fun c_188 => ?_)
              · exact absurd (r_v_20.eq.trans rl_m1.eq.symm) ((ti_ne c_188))
              · refine lv_iconst (v := 1) hx hb dX10_holds_191 (by decide) ?_
                refine lv_goto (tgt := 196) hx hb dX10_holds_192 (by decide) ?_
                subst hQ
                exact W.zret (v := 1) hx hb hr (rfl) (fun t ht hW => ⟨⟨1, (), rfl, ⟨rl_1.to (by decide), (fun _ => trivial), (fun h0 => trivial)⟩, by rw [ht]; exact hw.2.1, va_K.moved hW.alike hK, hw.2.2.1⟩, hw.2.2.2.1.F ht⟩) hw.2.2.2.1.2.2 dX10_holds_196
            · have r_v_20 : RI v_20 0 5 := by unfold RI at r_v_20 ⊢; omega
              have x_WB_p0_p2_v_20 := (hp_v_20.2.2.2.2.2 (by omega)).1
              refine lv_iconst (v := (-1)) hx hb dX10_holds_187 (by decide) ?_
              refine lv_icmp_ne (tgt := 195) hx hb dX10_holds_188 (by decide) (fun c_188 => ?_) (fun c_188 => ?_)
              · refine lv_iconst (v := 0) hx hb dX10_holds_195 (by decide) ?_
                subst hQ
                exact W.zret (v := 0) hx hb hr (rfl) (fun t ht hW => ⟨⟨0, (), rfl, ⟨rl_0.to (by decide), (fun h0 => trivial), (fun _ => trivial)⟩, by rw [ht]; exact hw.2.1, va_K.moved hW.alike hK, hw.2.2.1⟩, hw.2.2.2.1.F ht⟩) hw.2.2.2.1.2.2 dX10_holds_196
              · have r_v_20 : RI v_20 0 (-1) := rc_eq1 r_v_20 rl_m1 (ti_eq c_188) (by decide)
                exact (r_v_20.no (by decide)).elim
          · by_cases k_34_71 : v_13 = 71
            · refine lv_lookup (tgt := 197) (off := 163) hx hb dX10_holds_34 (by decide) (by rw [k_34_71]; decide) (by decide) ?_
              have r_v_13 : RI v_13 71 71 := by rw [k_34_71]; exact rl_71
              refine lv_aload_n hx hb dX10_holds_197 rfl (lv_at hl 3 rfl) ?_
              refine lv_iload_n hx hb dX10_holds_198 rfl (lv_at hl 5 rfl) ?_
              refine tk_ir (va_runV (As := [.int p2]) (rest := []) ⟨hx, hb, hml, hown, hts⟩ (c_X10_sittersOf l D cy z s.heap.size Ps w0 hw.1 p0 p2 h_p0 (r_p2.to (by decide))) (cwV 1 hts (gV tw_1461 tw_1463 ts_72 tw_15 tw_1464) rfl rfl rfl (by decide +kernel) ⟨Nat.le_of_ble_eq_true rfl, Nat.le_of_ble_eq_true rfl⟩) (tg_preV hw hK hSD hA (ci := 10) (q := (RX10, TX10, 49)) rfl h_p0 rfl) rfl rfl hl.1 rfl (lv_room (Nat.le_of_ble_eq_true rfl)) dX10_holds_199 ⟨Nat.le_of_ble_eq_true rfl, Nat.le_of_ble_eq_true rfl⟩) hw hA (fun v_21  H locs hp_v_21 hw => ?_)
              have r_v_21 : RI v_21 (-2147483648) 2147483647 := hp_v_21.1
              refine lv_if_eq (tgt := 209) hx hb dX10_holds_202 (by decide) (fun c_202 => ?_) (fun c_202 => ?_)
              · have r_v_21 : RI v_21 0 0 := rc_eq1 r_v_21 rl_0 (ti_eq c_202) (by decide)
                refine lv_iconst (v := 0) hx hb dX10_holds_209 (by decide) ?_
                subst hQ
                exact W.zret (v := 0) hx hb hr (rfl) (fun t ht hW => ⟨⟨0, (), rfl, ⟨rl_0.to (by decide), (fun h0 => trivial), (fun _ => trivial)⟩, by rw [ht]; exact hw.2.1, va_K.moved hW.alike hK, hw.2.2.1⟩, hw.2.2.2.1.F ht⟩) hw.2.2.2.1.2.2 dX10_holds_210
              · refine lv_iconst (v := 1) hx hb dX10_holds_205 (by decide) ?_
                refine lv_goto (tgt := 210) hx hb dX10_holds_206 (by decide) ?_
                subst hQ
                exact W.zret (v := 1) hx hb hr (rfl) (fun t ht hW => ⟨⟨1, (), rfl, ⟨rl_1.to (by decide), (fun _ => trivial), (fun h0 => trivial)⟩, by rw [ht]; exact hw.2.1, va_K.moved hW.alike hK, hw.2.2.1⟩, hw.2.2.2.1.F ht⟩) hw.2.2.2.1.2.2 dX10_holds_210
            · by_cases k_34_72 : v_13 = 72
              · refine lv_lookup (tgt := 211) (off := 177) hx hb dX10_holds_34 (by decide) (by rw [k_34_72]; decide) (by decide) ?_
                have r_v_13 : RI v_13 72 72 := by rw [k_34_72]; exact rl_72
                refine lv_aload_n hx hb dX10_holds_211 rfl (lv_at hl 3 rfl) ?_
                refine lv_iload_n hx hb dX10_holds_212 rfl (lv_at hl 5 rfl) ?_
                refine tk_ir (va_runV (As := [.int p2]) (rest := []) ⟨hx, hb, hml, hown, hts⟩ (c_X10_whatIs l D cy z s.heap.size Ps w0 hw.1 p0 p2 h_p0 r_p2) (cwV 1 hts (gV tw_1449 tw_1451 ts_69 tw_15 tw_1452) rfl rfl rfl (by decide +kernel) ⟨Nat.le_of_ble_eq_true rfl, Nat.le_of_ble_eq_true rfl⟩) (tg_preV hw hK hSD hA (ci := 10) (q := (RX10, TX10, 49)) rfl h_p0 rfl) rfl rfl hl.1 rfl (lv_room (Nat.le_of_ble_eq_true rfl)) dX10_holds_213 ⟨Nat.le_of_ble_eq_true rfl, Nat.le_of_ble_eq_true rfl⟩) hw hA (fun v_22  H locs hp_v_22 hw => ?_)
                have r_v_22 : RI v_22 (-1) 5 := hp_v_22.1
                by_cases c9_v_22 : v_22.toInt < 0
                · have r_v_22 : RI v_22 (-1) (-1) := by unfold RI at r_v_22 ⊢; omega
                  have x_NB_p0_p2 := (hp_v_22.2.2.2.2.1 (by omega)).1
                  refine lv_iload hx hb dX10_holds_216 (lv_at hl 1 rfl) ?_
                  refine lv_icmp_ne (tgt := 225) hx hb dX10_holds_218 (by decide) (fun c_218 => ?_) (fun c_218 => ?_)
                  · refine lv_iconst (v := 0) hx hb dX10_holds_225 (by decide) ?_
                    subst hQ
                    exact W.zret (v := 0) hx hb hr (rfl) (fun t ht hW => ⟨⟨0, (), rfl, ⟨rl_0.to (by decide), (fun h0 => trivial), (fun _ => trivial)⟩, by rw [ht]; exact hw.2.1, va_K.moved hW.alike hK, hw.2.2.1⟩, hw.2.2.2.1.F ht⟩) hw.2.2.2.1.2.2 dX10_holds_226
                  · have r_v_10 : RI v_10 (-1) (-1) := rc_eq2 r_v_22 r_v_10 (ti_eq c_218) (by decide)
                    refine lv_iconst (v := 1) hx hb dX10_holds_221 (by decide) ?_
                    refine lv_goto (tgt := 226) hx hb dX10_holds_222 (by decide) ?_
                    subst hQ
                    exact W.zret (v := 1) hx hb hr (rfl) (fun t ht hW => ⟨⟨1, (), rfl, ⟨rl_1.to (by decide), (fun _ => trivial), (fun h0 => trivial)⟩, by rw [ht]; exact hw.2.1, va_K.moved hW.alike hK, hw.2.2.1⟩, hw.2.2.2.1.F ht⟩) hw.2.2.2.1.2.2 dX10_holds_226
                · have r_v_22 : RI v_22 0 5 := by unfold RI at r_v_22 ⊢; omega
                  have x_WB_p0_p2_v_22 := (hp_v_22.2.2.2.2.2 (by omega)).1
                  refine lv_iload hx hb dX10_holds_216 (lv_at hl 1 rfl) ?_
                  refine lv_icmp_ne (tgt := 225) hx hb dX10_holds_218 (by decide) (fun c_218 => ?_) (fun c_218 => ?_)
                  · refine lv_iconst (v := 0) hx hb dX10_holds_225 (by decide) ?_
                    subst hQ
                    exact W.zret (v := 0) hx hb hr (rfl) (fun t ht hW => ⟨⟨0, (), rfl, ⟨rl_0.to (by decide), (fun h0 => trivial), (fun _ => trivial)⟩, by rw [ht]; exact hw.2.1, va_K.moved hW.alike hK, hw.2.2.1⟩, hw.2.2.2.1.F ht⟩) hw.2.2.2.1.2.2 dX10_holds_226
                  · have r_v_10 : RI v_10 0 5 := rc_eq2 r_v_22 r_v_10 (ti_eq c_218) (by decide)
                    refine lv_iconst (v := 1) hx hb dX10_holds_221 (by decide) ?_
                    refine lv_goto (tgt := 226) hx hb dX10_holds_222 (by decide) ?_
                    subst hQ
                    exact W.zret (v := 1) hx hb hr (rfl) (fun t ht hW => ⟨⟨1, (), rfl, ⟨rl_1.to (by decide), (fun _ => trivial), (fun h0 => trivial)⟩, by rw [ht]; exact hw.2.1, va_K.moved hW.alike hK, hw.2.2.1⟩, hw.2.2.2.1.F ht⟩) hw.2.2.2.1.2.2 dX10_holds_226
              · by_cases k_34_73 : v_13 = 73
                · refine lv_lookup (tgt := 227) (off := 193) hx hb dX10_holds_34 (by decide) (by rw [k_34_73]; decide) (by decide) ?_
                  have r_v_13 : RI v_13 73 73 := by rw [k_34_73]; exact rl_73
                  refine lv_aload_n hx hb dX10_holds_227 rfl (lv_at hl 3 rfl) ?_
                  refine tg_mem (ci := 10) (C := RX10) (T := TX10) (N := 49) hx hb hts inX10 hown hK hw 14 m_u_8 rfl (by decide) (hts _ tw_1151) (fun _ h9 => h9) dX10_holds_228 ?_
                  refine lv_bipush (v := 86) hx hb dX10_holds_231 (by decide) ?_
                  refine lv_iload_n hx hb dX10_holds_233 rfl (lv_at hl 5 rfl) ?_
                  refine lv_iadd hx hb dX10_holds_234 (lv_topi (fun v_23 e_v_23 => ?_))
                  obtain ⟨t_v_23, r_v_23⟩ := tq_add (lo := 86) (hi := 91) rl_86 r_p2 (by decide +kernel) e_v_23
                  have t_v_23 : v_23.toInt = 86 + p2.toInt := t_v_23
                  refine tg_iald (lo := (-2147483648)) (hi := 2147483647) hx hb hK hw h_vu_8 rfl 86 91 r_v_23 (by decide) (by decide +kernel) dX10_holds_235 (fun v_24 r_v_24 m_v_24 o_v_24 => ?_)
                  refine lv_iload hx hb dX10_holds_236 (lv_at hl 1 rfl) ?_
                  refine lv_icmp_ne (tgt := 245) hx hb dX10_holds_238 (by decide) (fun c_238 => ?_) (fun c_238 => ?_)
                  · refine lv_iconst (v := 0) hx hb dX10_holds_245 (by decide) ?_
                    subst hQ
                    exact W.zret (v := 0) hx hb hr (rfl) (fun t ht hW => ⟨⟨0, (), rfl, ⟨rl_0.to (by decide), (fun h0 => trivial), (fun _ => trivial)⟩, by rw [ht]; exact hw.2.1, va_K.moved hW.alike hK, hw.2.2.1⟩, hw.2.2.2.1.F ht⟩) hw.2.2.2.1.2.2 dX10_holds_246
                  · refine lv_iconst (v := 1) hx hb dX10_holds_241 (by decide) ?_
                    refine lv_goto (tgt := 246) hx hb dX10_holds_242 (by decide) ?_
                    subst hQ
                    exact W.zret (v := 1) hx hb hr (rfl) (fun t ht hW => ⟨⟨1, (), rfl, ⟨rl_1.to (by decide), (fun _ => trivial), (fun h0 => trivial)⟩, by rw [ht]; exact hw.2.1, va_K.moved hW.alike hK, hw.2.2.1⟩, hw.2.2.2.1.F ht⟩) hw.2.2.2.1.2.2 dX10_holds_246
                · refine lv_lookup (tgt := 247) (off := 213) hx hb dX10_holds_34 (by decide) ((lv_osw k_34_1 (by decide)).trans ((lv_osw k_34_2 (by decide)).trans ((lv_osw k_34_3 (by decide)).trans ((lv_osw k_34_69 (by decide)).trans ((lv_osw k_34_70 (by decide)).trans ((lv_osw k_34_71 (by decide)).trans ((lv_osw k_34_72 (by decide)).trans ((lv_osw k_34_73 (by decide)).trans (rfl))))))))) (by decide) ?_
                  refine lv_aload_n hx hb dX10_holds_247 rfl (lv_at hl 3 rfl) ?_
                  refine tg_mem (ci := 10) (C := RX10) (T := TX10) (N := 49) hx hb hts inX10 hown hK hw 14 m_u_8 rfl (by decide) (hts _ tw_1151) (fun _ h9 => h9) dX10_holds_248 ?_
                  refine lv_iload_n hx hb dX10_holds_251 rfl (lv_at hl 2 rfl) ?_
                  refine tg_imem hx hb hK hw h_vu_8 rfl r_v_7 (by decide) m_v_13 dX10_holds_252 ?_
                  refine lv_bipush (v := 50) hx hb dX10_holds_253 (by decide) ?_
                  refine lv_isub hx hb dX10_holds_255 (lv_topi (fun v_26 e_v_26 => ?_))
                  have r_v_26 := ri_any v_26
                  refine lv_istore (lv' := [(6, .int v_26), (5, .int v_12), (4, .int v_10), (3, .int v_7), (0, .ref p0), (1, .int p1), (2, .int p2)]) hx hb dX10_holds_256 hl (by decide) rfl (fun ls hl => ?_)
                  refine lv_iload hx hb dX10_holds_258 (lv_at hl 0 rfl) ?_
                  refine lv_bipush (v := 24) hx hb dX10_holds_260 (by decide) ?_
                  refine lv_icmp_ne (tgt := 273) hx hb dX10_holds_262 (by decide) (fun c_262 => ?_) (fun c_262 => ?_)
                  · refine lv_iload hx hb dX10_holds_273 (lv_at hl 0 rfl) ?_
                    refine lv_bipush (v := 25) hx hb dX10_holds_275 (by decide) ?_
                    refine lv_icmp_ne (tgt := 292) hx hb dX10_holds_277 (by decide) (fun c_277 => ?_) (fun c_277 => ?_)
                    · refine lv_iload hx hb dX10_holds_292 (lv_at hl 0 rfl) ?_
                      refine lv_bipush (v := 26) hx hb dX10_holds_294 (by decide) ?_
                      refine lv_icmp_ne (tgt := 311) hx hb dX10_holds_296 (by decide) (fun c_296 => ?_) (fun c_296 => ?_)
                      · refine lv_iload_n hx hb dX10_holds_311 rfl (lv_at hl 6 rfl) ?_
                        exact B312 v_7 v_10 v_12 v_26 p2 _ _ ls r_p1 r_p2 r_v_7 r_v_10 r_v_12 r_v_26 (r_p2.to (by decide)) hw (lv_sub hl [4, 5, 6, 3, 2, 1, 0] rfl)
                      · have r_v_26 : RI v_26 26 26 := rc_eq1 r_v_26 rl_26 (ti_eq c_296) (by decide)
                        refine lv_aload_n hx hb dX10_holds_299 rfl (lv_at hl 4 rfl) ?_
                        refine tg_mem (ci := 10) (C := RX10) (T := TX10) (N := 49) hx hb hts inX10 hown hK hw 14 m_u_8 rfl (by decide) (hts _ tw_1151) (fun _ h9 => h9) dX10_holds_300 ?_
                        refine lv_bipush (v := 98) hx hb dX10_holds_303 (by decide) ?_
                        refine lv_iload_n hx hb dX10_holds_305 rfl (lv_at hl 6 rfl) ?_
                        refine lv_iadd hx hb dX10_holds_306 (lv_topi (fun v_27 e_v_27 => ?_))
                        obtain ⟨t_v_27, r_v_27⟩ := tq_add (lo := 98) (hi := 103) rl_98 r_p2 (by decide +kernel) e_v_27
                        have t_v_27 : v_27.toInt = 98 + p2.toInt := t_v_27
                        refine tg_iald (lo := (-2147483648)) (hi := 2147483647) hx hb hK hw h_vu_8 rfl 98 103 r_v_27 (by decide) (by decide +kernel) dX10_holds_307 (fun v_28 r_v_28 m_v_28 o_v_28 => ?_)
                        refine lv_goto (tgt := 312) hx hb dX10_holds_308 (by decide) ?_
                        exact B312 v_7 v_10 v_12 v_26 v_28 _ _ ls r_p1 r_p2 r_v_7 r_v_10 r_v_12 (r_v_26.to (by decide)) r_v_28 hw (lv_sub hl [4, 5, 6, 3, 2, 1, 0] rfl)
                    · have r_v_26 : RI v_26 25 25 := rc_eq1 r_v_26 rl_25 (ti_eq c_277) (by decide)
                      refine lv_aload_n hx hb dX10_holds_280 rfl (lv_at hl 4 rfl) ?_
                      refine tg_mem (ci := 10) (C := RX10) (T := TX10) (N := 49) hx hb hts inX10 hown hK hw 14 m_u_8 rfl (by decide) (hts _ tw_1151) (fun _ h9 => h9) dX10_holds_281 ?_
                      refine lv_bipush (v := 92) hx hb dX10_holds_284 (by decide) ?_
                      refine lv_iload_n hx hb dX10_holds_286 rfl (lv_at hl 6 rfl) ?_
                      refine lv_iadd hx hb dX10_holds_287 (lv_topi (fun v_29 e_v_29 => ?_))
                      obtain ⟨t_v_29, r_v_29⟩ := tq_add (lo := 92) (hi := 97) rl_92 r_p2 (by decide +kernel) e_v_29
                      have t_v_29 : v_29.toInt = 92 + p2.toInt := t_v_29
                      refine tg_iald (lo := (-2147483648)) (hi := 2147483647) hx hb hK hw h_vu_8 rfl 92 97 r_v_29 (by decide) (by decide +kernel) dX10_holds_288 (fun v_30 r_v_30 m_v_30 o_v_30 => ?_)
                      refine lv_goto (tgt := 312) hx hb dX10_holds_289 (by decide) ?_
                      exact B312 v_7 v_10 v_12 v_26 v_30 _ _ ls r_p1 r_p2 r_v_7 r_v_10 r_v_12 (r_v_26.to (by decide)) r_v_30 hw (lv_sub hl [4, 5, 6, 3, 2, 1, 0] rfl)
                  · have r_v_26 : RI v_26 24 24 := rc_eq1 r_v_26 rl_24 (ti_eq c_262) (by decide)
                    refine lv_aload_n hx hb dX10_holds_265 rfl (lv_at hl 4 rfl) ?_
                    refine lv_iload_n hx hb dX10_holds_266 rfl (lv_at hl 6 rfl) ?_
                    refine tk_ir (va_runV (As := [.int p2]) (rest := []) ⟨hx, hb, hml, hown, hts⟩ (c_X10_sizeOf l D cy z s.heap.size Ps w0 hw.1 p0 p2 h_p0 r_p2) (cwV 1 hts (gV tw_1453 tw_1455 ts_70 tw_15 tw_1456) rfl rfl rfl (by decide +kernel) ⟨Nat.le_of_ble_eq_true rfl, Nat.le_of_ble_eq_true rfl⟩) (tg_preV hw hK hSD hA (ci := 10) (q := (RX10, TX10, 49)) rfl h_p0 rfl) rfl rfl hl.1 rfl (lv_room (Nat.le_of_ble_eq_true rfl)) dX10_holds_267 ⟨Nat.le_of_ble_eq_true rfl, Nat.le_of_ble_eq_true rfl⟩) hw hA (fun v_31  H locs hp_v_31 hw => ?_)
                    have r_v_31 : RI v_31 (-2147483648) 2147483647 := hp_v_31.1
                    refine lv_goto (tgt := 312) hx hb dX10_holds_270 (by decide) ?_
                    exact B312 v_7 v_10 v_12 v_26 v_31 _ _ ls r_p1 r_p2 r_v_7 r_v_10 r_v_12 (r_v_26.to (by decide)) r_v_31 hw (lv_sub hl [4, 5, 6, 3, 2, 1, 0] rfl)
abbrev wr_X10_holds__15 : List (Nat × Nat) := []
abbrev wa_X10_holds__15 : List Nat := []
set_option maxHeartbeats 4000000 in
set_option maxRecDepth 100000 in
theorem c_X10_holds__15 (l : Launch) (D : va_G) (cy : Nat → ClassId) (z : Nat → Nat) (sz : Nat) (Ps : PSI) (w0 : va_W) (hT : HT cy GG Ps w0) (p0 : Nat) (p1 : Int32) (p2 : Int32) (h_p0 : (p0, 55) ∈ Ps) (r_p1 : RI p1 0 44) (r_p2 : RI p2 0 5) : Met l yX10_holds (Cond.code yX10_holds cX10_holds 8 (some .boolean) :: gT) ({ frames := 47, cells := 0, slots := 0, locals := 9400 } : Room) (va_Pc [.ref p0, .int p1, .int p2] (PRE D cy z w0 sz)) (va_Qi (fun (r : Int32) (u : Unit) => RI r 0 1 ∧ (r = 0 → True) ∧ (¬ r = 0 → True)) (BB D cy (va_A w0 sz) (fun (u : Unit) => w0)) (va_A w0 sz)) 0 0 (va_A w0 sz) := by
  refine Met.ofW (cc := cX10_holds) (maxL := 8) (ret := (some .boolean)) (by decide) rfl ?_
  intro p e s m args below meth c s₁ B hml hv
  obtain ⟨rfl, hsz, hP, hK, hD0, hSD⟩ := hv
  have hx := B.exec
  have hb := B.bytes
  have hr := B.returns
  have hlocks := B.notSynchronized
  have hts : ∀ w ∈ gT, w.before _ s = true := fun w h => atoms_spec (ws := Cond.code yX10_holds cX10_holds 8 (some .boolean) :: gT) B.pre w (List.mem_cons_of_mem _ h)
  have hown : s.vm.findClass RX10 = some m.cls := findClass_of_methodNamed B.named
  subst hsz
  have hD := hD0.self (sz := s.heap.size)
  generalize hAe : va_A w0 s.heap.size = A at hD hSD ⊢
  have hA : ∀ q : Nat, s.heap.size ≤ q → A q := fun q h => by rw [← hAe]; exact Or.inr h
  have hl := lv_entry ([.ref p0, .int p1, .int p2]) (n := 8) (Nat.le_of_ble_eq_true rfl)
  rw [lg_entry_eq]
  generalize (lg_sl ([.ref p0, .int p1, .int p2]) ++ List.replicate (8 - (lg_sl ([.ref p0, .int p1, .int p2])).length) Slot.unset).toArray = ls at hl ⊢
  have hl : lv_has ls 8 [(0, .ref p0), (1, .int p1), (2, .int p2)] := hl
  refine nameQ (fun Q hQ => ?_)
  have hw : WD D cy GG A s wr_X10_holds__15 wa_X10_holds__15 Ps w0 Ps w0 s.heap [] := ⟨hT, hP, hD, va_S.rf, FR.rf, hT.1, [], (List.append_nil _).symm⟩
  have B312 : ∀ (x3 : Int32) (x4 : Int32) (x5 : Int32) (x6 : Int32) (y0 : Int32) (H : Heap) (locs : List Loc) (ls : Array Slot), RI p1 0 44 → RI p2 0 5 → RI x3 174 350 → RI x4 (-2147483648) 2147483647 → RI x5 (-2147483648) 2147483647 → RI x6 (-2147483648) 2147483647 → RI y0 (-2147483648) 2147483647 → WD D cy GG A s wr_X10_holds__15 wa_X10_holds__15 Ps w0 Ps w0 H locs → lv_has ls 8 [(0, .ref p0), (1, .int p1), (2, .int p2), (3, .int x3), (4, .int x4), (5, .int x5), (6, .int x6)] → W p l e (headSpec (Cond.code yX10_holds cX10_holds 8 (some .boolean) :: gT) ({ frames := 47, cells := 0, slots := 0, locals := 9400 } : Room)).room s m ([.ref p0, .int p1, .int p2] : List Value).toArray below meth c H locs 0 0 Q (F0 m 312 ls [.int y0]) := by
    intro x3 x4 x5 x6 y0 H locs ls r_p1 r_p2 r_x3 r_x4 r_x5 r_x6 r_y0 hw hl
    refine lv_istore (lv' := [(7, .int y0), (0, .ref p0), (1, .int p1), (2, .int p2), (3, .int x3), (4, .int x4), (5, .int x5), (6, .int x6)]) hx hb dX10_holds_312 hl (by decide) rfl (fun ls hl => ?_)
    refine lv_aload_n hx hb dX10_holds_314 rfl (lv_at hl 1 rfl) ?_
    refine tg_get (ci := 10) (ts := ty_MODEL) (C := RX10) (T := TX10) (N := 49) hx hb hts inX10 hown hK hw h_p0 rfl rfl 14 (by decide) (hts _ tw_1151) (fun _ h9 => h9) (ft := vR 34) rfl dX10_holds_315 (fun u_1 hv_u_1 m_u_1 => ?_)
    obtain ⟨vu_1, rfl, h_vu_1⟩ := hv_u_1
    refine lv_iload_n hx hb dX10_holds_318 rfl (lv_at hl 4 rfl) ?_
    refine lv_iconst (v := 3) hx hb dX10_holds_319 (by decide) ?_
    refine lv_iadd hx hb dX10_holds_320 (lv_topi (fun v_2 e_v_2 => ?_))
    obtain ⟨t_v_2, r_v_2⟩ := tq_add (lo := 177) (hi := 353) r_x3 rl_3 (by decide +kernel) e_v_2
    have t_v_2 : v_2.toInt = x3.toInt + 3 := t_v_2
    refine tg_iald (lo := (-2147483648)) (hi := 2147483647) hx hb hK hw h_vu_1 rfl 177 353 r_v_2 (by decide) (by decide +kernel) dX10_holds_321 (fun v_3 r_v_3 m_v_3 o_v_3 => ?_)
    refine lv_bipush (v := 60) hx hb dX10_holds_322 (by decide) ?_
    refine lv_icmp_ne (tgt := 342) hx hb dX10_holds_324 (by decide) (fun c_324 => ?_) (fun c_324 => ?_)
    · refine lv_aload_n hx hb dX10_holds_342 rfl (lv_at hl 1 rfl) ?_
      refine tg_mem (ci := 10) (C := RX10) (T := TX10) (N := 49) hx hb hts inX10 hown hK hw 14 m_u_1 rfl (by decide) (hts _ tw_1151) (fun _ h9 => h9) dX10_holds_343 ?_
      refine lv_iload_n hx hb dX10_holds_346 rfl (lv_at hl 4 rfl) ?_
      refine lv_iconst (v := 3) hx hb dX10_holds_347 (by decide) ?_
      refine lv_iadd hx hb dX10_holds_348 (lv_topi (fun v_4 e_v_4 => ?_))
      obtain ⟨t_v_4, r_v_4⟩ := tq_add (lo := 177) (hi := 353) r_x3 rl_3 (by decide +kernel) e_v_4
      have t_v_4 : v_4.toInt = x3.toInt + 3 := t_v_4
      refine tg_iald (lo := (-2147483648)) (hi := 2147483647) hx hb hK hw h_vu_1 rfl 177 353 r_v_4 (by decide) (by decide +kernel) dX10_holds_349 (fun v_5 r_v_5 m_v_5 o_v_5 => ?_)
      refine lv_bipush (v := 61) hx hb dX10_holds_350 (by decide) ?_
      refine lv_icmp_ne (tgt := 370) hx hb dX10_holds_352 (by decide) (fun c_352 => ?_) (fun c_352 => ?_)
      · refine lv_iload hx hb dX10_holds_370 (lv_at hl 0 rfl) ?_
        refine lv_iload hx hb dX10_holds_372 (lv_at hl 6 rfl) ?_
        refine lv_icmp_le (tgt := 381) hx hb dX10_holds_374 (by decide) (fun c_374 => ?_) (fun c_374 => ?_)
        · refine lv_iconst (v := 0) hx hb dX10_holds_381 (by decide) ?_
          subst hQ
          exact W.zret (v := 0) hx hb hr (rfl) (fun t ht hW => ⟨⟨0, (), rfl, ⟨rl_0.to (by decide), (fun h0 => trivial), (fun _ => trivial)⟩, by rw [ht]; exact hw.2.1, va_K.moved hW.alike hK, hw.2.2.1⟩, hw.2.2.2.1.F ht⟩) hw.2.2.2.1.2.2 dX10_holds_382
        · have r_x5 : RI x5 (-2147483648) 2147483646 := rc_lt1 r_x5 r_y0 (ti_nle c_374) (by decide)
          have r_y0 : RI y0 (-2147483647) 2147483647 := rc_lt2 r_x5 r_y0 (ti_nle c_374) (by decide)
          refine lv_iconst (v := 1) hx hb dX10_holds_377 (by decide) ?_
          refine lv_goto (tgt := 382) hx hb dX10_holds_378 (by decide) ?_
          subst hQ
          exact W.zret (v := 1) hx hb hr (rfl) (fun t ht hW => ⟨⟨1, (), rfl, ⟨rl_1.to (by decide), (fun _ => trivial), (fun h0 => trivial)⟩, by rw [ht]; exact hw.2.1, va_K.moved hW.alike hK, hw.2.2.1⟩, hw.2.2.2.1.F ht⟩) hw.2.2.2.1.2.2 dX10_holds_382
      · have r_v_5 : RI v_5 61 61 := rc_eq1 r_v_5 rl_61 (ti_eq c_352) (by decide)
        refine lv_iload hx hb dX10_holds_355 (lv_at hl 0 rfl) ?_
        refine lv_iload hx hb dX10_holds_357 (lv_at hl 6 rfl) ?_
        refine lv_icmp_ne (tgt := 366) hx hb dX10_holds_359 (by decide) (fun c_359 => ?_) (fun c_359 => ?_)
        · refine lv_iconst (v := 0) hx hb dX10_holds_366 (by decide) ?_
          refine lv_goto (tgt := 382) hx hb dX10_holds_367 (by decide) ?_
          subst hQ
          exact W.zret (v := 0) hx hb hr (rfl) (fun t ht hW => ⟨⟨0, (), rfl, ⟨rl_0.to (by decide), (fun h0 => trivial), (fun _ => trivial)⟩, by rw [ht]; exact hw.2.1, va_K.moved hW.alike hK, hw.2.2.1⟩, hw.2.2.2.1.F ht⟩) hw.2.2.2.1.2.2 dX10_holds_382
        · refine lv_iconst (v := 1) hx hb dX10_holds_362 (by decide) ?_
          refine lv_goto (tgt := 382) hx hb dX10_holds_363 (by decide) ?_
          subst hQ
          exact W.zret (v := 1) hx hb hr (rfl) (fun t ht hW => ⟨⟨1, (), rfl, ⟨rl_1.to (by decide), (fun _ => trivial), (fun h0 => trivial)⟩, by rw [ht]; exact hw.2.1, va_K.moved hW.alike hK, hw.2.2.1⟩, hw.2.2.2.1.F ht⟩) hw.2.2.2.1.2.2 dX10_holds_382
    · have r_v_3 : RI v_3 60 60 := rc_eq1 r_v_3 rl_60 (ti_eq c_324) (by decide)
      refine lv_iload hx hb dX10_holds_327 (lv_at hl 0 rfl) ?_
      refine lv_iload hx hb dX10_holds_329 (lv_at hl 6 rfl) ?_
      refine lv_icmp_ge (tgt := 338) hx hb dX10_holds_331 (by decide) (fun c_331 => ?_) (fun c_331 => ?_)
      · refine lv_iconst (v := 0) hx hb dX10_holds_338 (by decide) ?_
        refine lv_goto (tgt := 382) hx hb dX10_holds_339 (by decide) ?_
        subst hQ
        exact W.zret (v := 0) hx hb hr (rfl) (fun t ht hW => ⟨⟨0, (), rfl, ⟨rl_0.to (by decide), (fun h0 => trivial), (fun _ => trivial)⟩, by rw [ht]; exact hw.2.1, va_K.moved hW.alike hK, hw.2.2.1⟩, hw.2.2.2.1.F ht⟩) hw.2.2.2.1.2.2 dX10_holds_382
      · have r_y0 : RI y0 (-2147483648) 2147483646 := rc_lt1 r_y0 r_x5 (ti_nle c_331) (by decide)
        have r_x5 : RI x5 (-2147483647) 2147483647 := rc_lt2 r_y0 r_x5 (ti_nle c_331) (by decide)
        refine lv_iconst (v := 1) hx hb dX10_holds_334 (by decide) ?_
        refine lv_goto (tgt := 382) hx hb dX10_holds_335 (by decide) ?_
        subst hQ
        exact W.zret (v := 1) hx hb hr (rfl) (fun t ht hW => ⟨⟨1, (), rfl, ⟨rl_1.to (by decide), (fun _ => trivial), (fun h0 => trivial)⟩, by rw [ht]; exact hw.2.1, va_K.moved hW.alike hK, hw.2.2.1⟩, hw.2.2.2.1.F ht⟩) hw.2.2.2.1.2.2 dX10_holds_382
  refine lv_sipush (v := 174) hx hb dX10_holds_0 (by decide) ?_
  refine lv_iconst (v := 4) hx hb dX10_holds_3 (by decide) ?_
  refine lv_iload_n hx hb dX10_holds_4 rfl (lv_at hl 1 rfl) ?_
  refine lv_imul hx hb dX10_holds_5 (lv_topi (fun v_6 e_v_6 => ?_))
  obtain ⟨t_v_6, r_v_6⟩ := tq_mul (lo := 0) (hi := 176) rl_4 r_p1 (by decide +kernel) e_v_6
  have t_v_6 : v_6.toInt = 4 * p1.toInt := t_v_6
  refine lv_iadd hx hb dX10_holds_6 (lv_topi (fun v_7 e_v_7 => ?_))
  obtain ⟨t_v_7, r_v_7⟩ := tq_add (lo := 174) (hi := 350) rl_174 r_v_6 (by decide +kernel) e_v_7
  have t_v_7 : v_7.toInt = 174 + v_6.toInt := t_v_7
  refine lv_istore_n (lv' := [(3, .int v_7), (0, .ref p0), (1, .int p1), (2, .int p2)]) hx hb dX10_holds_7 rfl hl (by decide) rfl (fun ls hl => ?_)
  refine lv_aload_n hx hb dX10_holds_8 rfl (lv_at hl 1 rfl) ?_
  refine tg_get (ci := 10) (ts := ty_MODEL) (C := RX10) (T := TX10) (N := 49) hx hb hts inX10 hown hK hw h_p0 rfl rfl 14 (by decide) (hts _ tw_1151) (fun _ h9 => h9) (ft := vR 34) rfl dX10_holds_9 (fun u_8 hv_u_8 m_u_8 => ?_)
  obtain ⟨vu_8, rfl, h_vu_8⟩ := hv_u_8
  refine lv_iload_n hx hb dX10_holds_12 rfl (lv_at hl 0 rfl) ?_
  refine lv_iconst (v := 1) hx hb dX10_holds_13 (by decide) ?_
  refine lv_iadd hx hb dX10_holds_14 (lv_topi (fun v_9 e_v_9 => ?_))
  obtain ⟨t_v_9, r_v_9⟩ := tq_add (lo := 175) (hi := 351) r_v_7 rl_1 (by decide +kernel) e_v_9
  have t_v_9 : v_9.toInt = v_7.toInt + 1 := t_v_9
  refine tg_iald (lo := (-2147483648)) (hi := 2147483647) hx hb hK hw h_vu_8 rfl 175 351 r_v_9 (by decide) (by decide +kernel) dX10_holds_15 (fun v_10 r_v_10 m_v_10 o_v_10 => ?_)
  refine lv_istore (lv' := [(4, .int v_10), (3, .int v_7), (0, .ref p0), (1, .int p1), (2, .int p2)]) hx hb dX10_holds_16 hl (by decide) rfl (fun ls hl => ?_)
  refine lv_aload_n hx hb dX10_holds_18 rfl (lv_at hl 2 rfl) ?_
  refine tg_mem (ci := 10) (C := RX10) (T := TX10) (N := 49) hx hb hts inX10 hown hK hw 14 m_u_8 rfl (by decide) (hts _ tw_1151) (fun _ h9 => h9) dX10_holds_19 ?_
  refine lv_iload_n hx hb dX10_holds_22 rfl (lv_at hl 1 rfl) ?_
  refine lv_iconst (v := 2) hx hb dX10_holds_23 (by decide) ?_
  refine lv_iadd hx hb dX10_holds_24 (lv_topi (fun v_11 e_v_11 => ?_))
  obtain ⟨t_v_11, r_v_11⟩ := tq_add (lo := 176) (hi := 352) r_v_7 rl_2 (by decide +kernel) e_v_11
  have t_v_11 : v_11.toInt = v_7.toInt + 2 := t_v_11
  refine tg_iald (lo := (-2147483648)) (hi := 2147483647) hx hb hK hw h_vu_8 rfl 176 352 r_v_11 (by decide) (by decide +kernel) dX10_holds_25 (fun v_12 r_v_12 m_v_12 o_v_12 => ?_)
  refine lv_istore (lv' := [(5, .int v_12), (4, .int v_10), (3, .int v_7), (0, .ref p0), (1, .int p1), (2, .int p2)]) hx hb dX10_holds_26 hl (by decide) rfl (fun ls hl => ?_)
  refine lv_aload_n hx hb dX10_holds_28 rfl (lv_at hl 3 rfl) ?_
  refine tg_mem (ci := 10) (C := RX10) (T := TX10) (N := 49) hx hb hts inX10 hown hK hw 14 m_u_8 rfl (by decide) (hts _ tw_1151) (fun _ h9 => h9) dX10_holds_29 ?_
  refine lv_iload_n hx hb dX10_holds_32 rfl (lv_at hl 2 rfl) ?_
  refine tg_iald (lo := (-2147483648)) (hi := 2147483647) hx hb hK hw h_vu_8 rfl 174 350 r_v_7 (by decide) (by decide +kernel) dX10_holds_33 (fun v_13 r_v_13 m_v_13 o_v_13 => ?_)
  by_cases k_34_1 : v_13 = 1
  · refine lv_lookup (tgt := 108) (off := 74) hx hb dX10_holds_34 (by decide) (by rw [k_34_1]; decide) (by decide) ?_
    have r_v_13 : RI v_13 1 1 := by rw [k_34_1]; exact rl_1
    have g_v_10 : 0 ≤ v_10.toInt ∧ v_10.toInt < p1.toInt := by obtain ⟨_, f9, e8, e7, q9, _⟩ := ax_of (k := 14) (t := 34) hw h_p0 rfl (fun _ => rfl); cases FLD.inj hw.2.2.1 e8 m_u_8; have t9 := ARR.ael hw.2.2.1 e7 m_v_13; have x9 := ARR.ael hw.2.2.1 e7 m_v_10; rw [show Int32.toNatClampNeg v_7 = 174 + 4 * Int32.toNatClampNeg p1 from (by have k1 := r_v_7.cl (by decide); have k2 := r_p1.cl (by decide); omega)] at t9; rw [show Int32.toNatClampNeg v_9 = 175 + 4 * Int32.toNatClampNeg p1 from (by have k1 := r_v_9.cl (by decide); have k2 := r_p1.cl (by decide); omega)] at x9; exact RN_child q9 (r_p1.to (by decide)) t9 x9 (r_v_13.to (by decide))
    have r_v_10 : RI v_10 0 43 := ⟨g_v_10.1, by have k1 := r_p1.2; omega⟩
    refine lv_aload_n hx hb dX10_holds_108 rfl (lv_at hl 3 rfl) ?_
    refine lv_iload hx hb dX10_holds_109 (lv_at hl 1 rfl) ?_
    refine lv_iload_n hx hb dX10_holds_111 rfl (lv_at hl 5 rfl) ?_
    refine tk_ir (va_runV (As := [.int v_10, .int p2]) (rest := []) ⟨hx, hb, hml, hown, hts⟩ (c_X10_holds__16 l D cy z s.heap.size Ps w0 hw.1 p0 v_10 p2 h_p0 r_v_10 r_p2) (cwV 2 hts (gV tw_1787 tw_1789 ts_119 tw_15 tw_1790) rfl rfl rfl (by decide +kernel) ⟨Nat.le_of_ble_eq_true rfl, Nat.le_of_ble_eq_true rfl⟩) (tg_preV hw hK hSD hA (ci := 10) (q := (RX10, TX10, 49)) rfl h_p0 rfl) rfl rfl hl.1 rfl (lv_room (Nat.le_of_ble_eq_true rfl)) dX10_holds_112 ⟨Nat.le_of_ble_eq_true rfl, Nat.le_of_ble_eq_true rfl⟩) hw hA (fun v_14  H locs hp_v_14 hw => ?_)
    have r_v_14 : RI v_14 0 1 := hp_v_14.1
    refine lv_if_ne (tgt := 122) hx hb dX10_holds_115 (by decide) (fun c_115 => ?_) (fun c_115 => ?_)
    · have r_v_14 : RI v_14 1 1 := rc_neL r_v_14 rl_0 (ti_ne c_115) (by decide)
      refine lv_iconst (v := 0) hx hb dX10_holds_122 (by decide) ?_
      subst hQ
      exact W.zret (v := 0) hx hb hr (rfl) (fun t ht hW => ⟨⟨0, (), rfl, ⟨rl_0.to (by decide), (fun h0 => trivial), (fun _ => trivial)⟩, by rw [ht]; exact hw.2.1, va_K.moved hW.alike hK, hw.2.2.1⟩, hw.2.2.2.1.F ht⟩) hw.2.2.2.1.2.2 dX10_holds_123
    · have r_v_14 : RI v_14 0 0 := rc_eq1 r_v_14 rl_0 (ti_eq c_115) (by decide)
      refine lv_iconst (v := 1) hx hb dX10_holds_118 (by decide) ?_
      refine lv_goto (tgt := 123) hx hb dX10_holds_119 (by decide) ?_
      subst hQ
      exact W.zret (v := 1) hx hb hr (rfl) (fun t ht hW => ⟨⟨1, (), rfl, ⟨rl_1.to (by decide), (fun _ => trivial), (fun h0 => trivial)⟩, by rw [ht]; exact hw.2.1, va_K.moved hW.alike hK, hw.2.2.1⟩, hw.2.2.2.1.F ht⟩) hw.2.2.2.1.2.2 dX10_holds_123
  · by_cases k_34_2 : v_13 = 2
    · refine lv_lookup (tgt := 124) (off := 90) hx hb dX10_holds_34 (by decide) (by rw [k_34_2]; decide) (by decide) ?_
      have r_v_13 : RI v_13 2 2 := by rw [k_34_2]; exact rl_2
      have g_v_10 : 0 ≤ v_10.toInt ∧ v_10.toInt < p1.toInt := by obtain ⟨_, f9, e8, e7, q9, _⟩ := ax_of (k := 14) (t := 34) hw h_p0 rfl (fun _ => rfl); cases FLD.inj hw.2.2.1 e8 m_u_8; have t9 := ARR.ael hw.2.2.1 e7 m_v_13; have x9 := ARR.ael hw.2.2.1 e7 m_v_10; rw [show Int32.toNatClampNeg v_7 = 174 + 4 * Int32.toNatClampNeg p1 from (by have k1 := r_v_7.cl (by decide); have k2 := r_p1.cl (by decide); omega)] at t9; rw [show Int32.toNatClampNeg v_9 = 175 + 4 * Int32.toNatClampNeg p1 from (by have k1 := r_v_9.cl (by decide); have k2 := r_p1.cl (by decide); omega)] at x9; exact RN_child q9 (r_p1.to (by decide)) t9 x9 (r_v_13.to (by decide))
      have r_v_10 : RI v_10 0 43 := ⟨g_v_10.1, by have k1 := r_p1.2; omega⟩
      have g_v_12 : 0 ≤ v_12.toInt ∧ v_12.toInt < p1.toInt := by obtain ⟨_, f9, e8, e7, q9, _⟩ := ax_of (k := 14) (t := 34) hw h_p0 rfl (fun _ => rfl); cases FLD.inj hw.2.2.1 e8 m_u_8; have t9 := ARR.ael hw.2.2.1 e7 m_v_13; have x9 := ARR.ael hw.2.2.1 e7 m_v_12; rw [show Int32.toNatClampNeg v_7 = 174 + 4 * Int32.toNatClampNeg p1 from (by have k1 := r_v_7.cl (by decide); have k2 := r_p1.cl (by decide); omega)] at t9; rw [show Int32.toNatClampNeg v_11 = 176 + 4 * Int32.toNatClampNeg p1 from (by have k1 := r_v_11.cl (by decide); have k2 := r_p1.cl (by decide); omega)] at x9; exact RN_child2 q9 (r_p1.to (by decide)) t9 x9 (r_v_13.to (by decide))
      have r_v_12 : RI v_12 0 43 := ⟨g_v_12.1, by have k1 := r_p1.2; omega⟩
      refine lv_aload_n hx hb dX10_holds_124 rfl (lv_at hl 3 rfl) ?_
      refine lv_iload hx hb dX10_holds_125 (lv_at hl 1 rfl) ?_
      refine lv_iload_n hx hb dX10_holds_127 rfl (lv_at hl 5 rfl) ?_
      refine tk_ir (va_runV (As := [.int v_10, .int p2]) (rest := []) ⟨hx, hb, hml, hown, hts⟩ (c_X10_holds__16 l D cy z s.heap.size Ps w0 hw.1 p0 v_10 p2 h_p0 r_v_10 r_p2) (cwV 2 hts (gV tw_1787 tw_1789 ts_119 tw_15 tw_1790) rfl rfl rfl (by decide +kernel) ⟨Nat.le_of_ble_eq_true rfl, Nat.le_of_ble_eq_true rfl⟩) (tg_preV hw hK hSD hA (ci := 10) (q := (RX10, TX10, 49)) rfl h_p0 rfl) rfl rfl hl.1 rfl (lv_room (Nat.le_of_ble_eq_true rfl)) dX10_holds_128 ⟨Nat.le_of_ble_eq_true rfl, Nat.le_of_ble_eq_true rfl⟩) hw hA (fun v_15  H locs hp_v_15 hw => ?_)
      have r_v_15 : RI v_15 0 1 := hp_v_15.1
      refine lv_if_eq (tgt := 148) hx hb dX10_holds_131 (by decide) (fun c_131 => ?_) (fun c_131 => ?_)
      · have r_v_15 : RI v_15 0 0 := rc_eq1 r_v_15 rl_0 (ti_eq c_131) (by decide)
        refine lv_iconst (v := 0) hx hb dX10_holds_148 (by decide) ?_
        subst hQ
        exact W.zret (v := 0) hx hb hr (rfl) (fun t ht hW => ⟨⟨0, (), rfl, ⟨rl_0.to (by decide), (fun h0 => trivial), (fun _ => trivial)⟩, by rw [ht]; exact hw.2.1, va_K.moved hW.alike hK, hw.2.2.1⟩, hw.2.2.2.1.F ht⟩) hw.2.2.2.1.2.2 dX10_holds_149
      · have r_v_15 : RI v_15 1 1 := rc_neL r_v_15 rl_0 (ti_ne c_131) (by decide)
        refine lv_aload_n hx hb dX10_holds_134 rfl (lv_at hl 3 rfl) ?_
        refine lv_iload hx hb dX10_holds_135 (lv_at hl 0 rfl) ?_
        refine lv_iload_n hx hb dX10_holds_137 rfl (lv_at hl 5 rfl) ?_
        refine tk_ir (va_runV (As := [.int v_12, .int p2]) (rest := []) ⟨hx, hb, hml, hown, hts⟩ (c_X10_holds__16 l D cy z H.size Ps w0 hw.1 p0 v_12 p2 h_p0 r_v_12 r_p2) (cwV 2 hts (gV tw_1787 tw_1789 ts_119 tw_15 tw_1790) rfl rfl rfl (by decide +kernel) ⟨Nat.le_of_ble_eq_true rfl, Nat.le_of_ble_eq_true rfl⟩) (tg_preV hw hK hSD hA (ci := 10) (q := (RX10, TX10, 49)) rfl h_p0 rfl) rfl rfl hl.1 rfl (lv_room (Nat.le_of_ble_eq_true rfl)) dX10_holds_138 ⟨Nat.le_of_ble_eq_true rfl, Nat.le_of_ble_eq_true rfl⟩) hw hA (fun v_16  H locs hp_v_16 hw => ?_)
        have r_v_16 : RI v_16 0 1 := hp_v_16.1
        refine lv_if_eq (tgt := 148) hx hb dX10_holds_141 (by decide) (fun c_141 => ?_) (fun c_141 => ?_)
        · have r_v_16 : RI v_16 0 0 := rc_eq1 r_v_16 rl_0 (ti_eq c_141) (by decide)
          refine lv_iconst (v := 0) hx hb dX10_holds_148 (by decide) ?_
          subst hQ
          exact W.zret (v := 0) hx hb hr (rfl) (fun t ht hW => ⟨⟨0, (), rfl, ⟨rl_0.to (by decide), (fun h0 => trivial), (fun _ => trivial)⟩, by rw [ht]; exact hw.2.1, va_K.moved hW.alike hK, hw.2.2.1⟩, hw.2.2.2.1.F ht⟩) hw.2.2.2.1.2.2 dX10_holds_149
        · have r_v_16 : RI v_16 1 1 := rc_neL r_v_16 rl_0 (ti_ne c_141) (by decide)
          refine lv_iconst (v := 1) hx hb dX10_holds_144 (by decide) ?_
          refine lv_goto (tgt := 149) hx hb dX10_holds_145 (by decide) ?_
          subst hQ
          exact W.zret (v := 1) hx hb hr (rfl) (fun t ht hW => ⟨⟨1, (), rfl, ⟨rl_1.to (by decide), (fun _ => trivial), (fun h0 => trivial)⟩, by rw [ht]; exact hw.2.1, va_K.moved hW.alike hK, hw.2.2.1⟩, hw.2.2.2.1.F ht⟩) hw.2.2.2.1.2.2 dX10_holds_149
    · by_cases k_34_3 : v_13 = 3
      · refine lv_lookup (tgt := 150) (off := 116) hx hb dX10_holds_34 (by decide) (by rw [k_34_3]; decide) (by decide) ?_
        have r_v_13 : RI v_13 3 3 := by rw [k_34_3]; exact rl_3
        have g_v_10 : 0 ≤ v_10.toInt ∧ v_10.toInt < p1.toInt := by obtain ⟨_, f9, e8, e7, q9, _⟩ := ax_of (k := 14) (t := 34) hw h_p0 rfl (fun _ => rfl); cases FLD.inj hw.2.2.1 e8 m_u_8; have t9 := ARR.ael hw.2.2.1 e7 m_v_13; have x9 := ARR.ael hw.2.2.1 e7 m_v_10; rw [show Int32.toNatClampNeg v_7 = 174 + 4 * Int32.toNatClampNeg p1 from (by have k1 := r_v_7.cl (by decide); have k2 := r_p1.cl (by decide); omega)] at t9; rw [show Int32.toNatClampNeg v_9 = 175 + 4 * Int32.toNatClampNeg p1 from (by have k1 := r_v_9.cl (by decide); have k2 := r_p1.cl (by decide); omega)] at x9; exact RN_child q9 (r_p1.to (by decide)) t9 x9 (r_v_13.to (by decide))
        have r_v_10 : RI v_10 0 43 := ⟨g_v_10.1, by have k1 := r_p1.2; omega⟩
        have g_v_12 : 0 ≤ v_12.toInt ∧ v_12.toInt < p1.toInt := by obtain ⟨_, f9, e8, e7, q9, _⟩ := ax_of (k := 14) (t := 34) hw h_p0 rfl (fun _ => rfl); cases FLD.inj hw.2.2.1 e8 m_u_8; have t9 := ARR.ael hw.2.2.1 e7 m_v_13; have x9 := ARR.ael hw.2.2.1 e7 m_v_12; rw [show Int32.toNatClampNeg v_7 = 174 + 4 * Int32.toNatClampNeg p1 from (by have k1 := r_v_7.cl (by decide); have k2 := r_p1.cl (by decide); omega)] at t9; rw [show Int32.toNatClampNeg v_11 = 176 + 4 * Int32.toNatClampNeg p1 from (by have k1 := r_v_11.cl (by decide); have k2 := r_p1.cl (by decide); omega)] at x9; exact RN_child2 q9 (r_p1.to (by decide)) t9 x9 (r_v_13.to (by decide))
        have r_v_12 : RI v_12 0 43 := ⟨g_v_12.1, by have k1 := r_p1.2; omega⟩
        refine lv_aload_n hx hb dX10_holds_150 rfl (lv_at hl 3 rfl) ?_
        refine lv_iload hx hb dX10_holds_151 (lv_at hl 1 rfl) ?_
        refine lv_iload_n hx hb dX10_holds_153 rfl (lv_at hl 5 rfl) ?_
        refine tk_ir (va_runV (As := [.int v_10, .int p2]) (rest := []) ⟨hx, hb, hml, hown, hts⟩ (c_X10_holds__16 l D cy z s.heap.size Ps w0 hw.1 p0 v_10 p2 h_p0 r_v_10 r_p2) (cwV 2 hts (gV tw_1787 tw_1789 ts_119 tw_15 tw_1790) rfl rfl rfl (by decide +kernel) ⟨Nat.le_of_ble_eq_true rfl, Nat.le_of_ble_eq_true rfl⟩) (tg_preV hw hK hSD hA (ci := 10) (q := (RX10, TX10, 49)) rfl h_p0 rfl) rfl rfl hl.1 rfl (lv_room (Nat.le_of_ble_eq_true rfl)) dX10_holds_154 ⟨Nat.le_of_ble_eq_true rfl, Nat.le_of_ble_eq_true rfl⟩) hw hA (fun v_17  H locs hp_v_17 hw => ?_)
        have r_v_17 : RI v_17 0 1 := hp_v_17.1
        refine lv_if_ne (tgt := 170) hx hb dX10_holds_157 (by decide) (fun c_157 => ?_) (fun c_157 => ?_)
        · have r_v_17 : RI v_17 1 1 := rc_neL r_v_17 rl_0 (ti_ne c_157) (by decide)
          refine lv_iconst (v := 1) hx hb dX10_holds_170 (by decide) ?_
          refine lv_goto (tgt := 175) hx hb dX10_holds_171 (by decide) ?_
          subst hQ
          exact W.zret (v := 1) hx hb hr (rfl) (fun t ht hW => ⟨⟨1, (), rfl, ⟨rl_1.to (by decide), (fun _ => trivial), (fun h0 => trivial)⟩, by rw [ht]; exact hw.2.1, va_K.moved hW.alike hK, hw.2.2.1⟩, hw.2.2.2.1.F ht⟩) hw.2.2.2.1.2.2 dX10_holds_175
        · have r_v_17 : RI v_17 0 0 := rc_eq1 r_v_17 rl_0 (ti_eq c_157) (by decide)
          refine lv_aload_n hx hb dX10_holds_160 rfl (lv_at hl 3 rfl) ?_
          refine lv_iload hx hb dX10_holds_161 (lv_at hl 0 rfl) ?_
          refine lv_iload_n hx hb dX10_holds_163 rfl (lv_at hl 5 rfl) ?_
          refine tk_ir (va_runV (As := [.int v_12, .int p2]) (rest := []) ⟨hx, hb, hml, hown, hts⟩ (c_X10_holds__16 l D cy z H.size Ps w0 hw.1 p0 v_12 p2 h_p0 r_v_12 r_p2) (cwV 2 hts (gV tw_1787 tw_1789 ts_119 tw_15 tw_1790) rfl rfl rfl (by decide +kernel) ⟨Nat.le_of_ble_eq_true rfl, Nat.le_of_ble_eq_true rfl⟩) (tg_preV hw hK hSD hA (ci := 10) (q := (RX10, TX10, 49)) rfl h_p0 rfl) rfl rfl hl.1 rfl (lv_room (Nat.le_of_ble_eq_true rfl)) dX10_holds_164 ⟨Nat.le_of_ble_eq_true rfl, Nat.le_of_ble_eq_true rfl⟩) hw hA (fun v_18  H locs hp_v_18 hw => ?_)
          have r_v_18 : RI v_18 0 1 := hp_v_18.1
          refine lv_if_eq (tgt := 174) hx hb dX10_holds_167 (by decide) (fun c_167 => ?_) (fun c_167 => ?_)
          · have r_v_18 : RI v_18 0 0 := rc_eq1 r_v_18 rl_0 (ti_eq c_167) (by decide)
            refine lv_iconst (v := 0) hx hb dX10_holds_174 (by decide) ?_
            subst hQ
            exact W.zret (v := 0) hx hb hr (rfl) (fun t ht hW => ⟨⟨0, (), rfl, ⟨rl_0.to (by decide), (fun h0 => trivial), (fun _ => trivial)⟩, by rw [ht]; exact hw.2.1, va_K.moved hW.alike hK, hw.2.2.1⟩, hw.2.2.2.1.F ht⟩) hw.2.2.2.1.2.2 dX10_holds_175
          · have r_v_18 : RI v_18 1 1 := rc_neL r_v_18 rl_0 (ti_ne c_167) (by decide)
            refine lv_iconst (v := 1) hx hb dX10_holds_170 (by decide) ?_
            refine lv_goto (tgt := 175) hx hb dX10_holds_171 (by decide) ?_
            subst hQ
            exact W.zret (v := 1) hx hb hr (rfl) (fun t ht hW => ⟨⟨1, (), rfl, ⟨rl_1.to (by decide), (fun _ => trivial), (fun h0 => trivial)⟩, by rw [ht]; exact hw.2.1, va_K.moved hW.alike hK, hw.2.2.1⟩, hw.2.2.2.1.F ht⟩) hw.2.2.2.1.2.2 dX10_holds_175
      · by_cases k_34_69 : v_13 = 69
        · refine lv_lookup (tgt := 176) (off := 142) hx hb dX10_holds_34 (by decide) (by rw [k_34_69]; decide) (by decide) ?_
          have r_v_13 : RI v_13 69 69 := by rw [k_34_69]; exact rl_69
          refine lv_aload_n hx hb dX10_holds_176 rfl (lv_at hl 3 rfl) ?_
          refine lv_iload_n hx hb dX10_holds_177 rfl (lv_at hl 5 rfl) ?_
          refine tk_ir (va_runV (As := [.int p2]) (rest := []) ⟨hx, hb, hml, hown, hts⟩ (c_X10_isOpen l D cy z s.heap.size Ps w0 hw.1 p0 p2 h_p0 (r_p2.to (by decide))) (cwV 1 hts (gV tw_1457 tw_1459 ts_71 tw_15 tw_1460) rfl rfl rfl (by decide +kernel) ⟨Nat.le_of_ble_eq_true rfl, Nat.le_of_ble_eq_true rfl⟩) (tg_preV hw hK hSD hA (ci := 10) (q := (RX10, TX10, 49)) rfl h_p0 rfl) rfl rfl hl.1 rfl (lv_room (Nat.le_of_ble_eq_true rfl)) dX10_holds_178 ⟨Nat.le_of_ble_eq_true rfl, Nat.le_of_ble_eq_true rfl⟩) hw hA (fun v_19  H locs hp_v_19 hw => ?_)
          have r_v_19 : RI v_19 0 1 := hp_v_19.1
          subst hQ
          exact W.zret (v := v_19) hx hb hr (tq_nz (r_v_19.to (by decide))) (fun t ht hW => ⟨⟨v_19, (), rfl, ⟨r_v_19.to (by decide), (fun h0 => trivial), (fun h0 => trivial)⟩, by rw [ht]; exact hw.2.1, va_K.moved hW.alike hK, hw.2.2.1⟩, hw.2.2.2.1.F ht⟩) hw.2.2.2.1.2.2 dX10_holds_181
        · by_cases k_34_70 : v_13 = 70
          · refine lv_lookup (tgt := 182) (off := 148) hx hb dX10_holds_34 (by decide) (by rw [k_34_70]; decide) (by decide) ?_
            have r_v_13 : RI v_13 70 70 := by rw [k_34_70]; exact rl_70
            refine lv_aload_n hx hb dX10_holds_182 rfl (lv_at hl 3 rfl) ?_
            refine lv_iload_n hx hb dX10_holds_183 rfl (lv_at hl 5 rfl) ?_
            refine tk_ir (va_runV (As := [.int p2]) (rest := []) ⟨hx, hb, hml, hown, hts⟩ (c_X10_whatIs l D cy z s.heap.size Ps w0 hw.1 p0 p2 h_p0 r_p2) (cwV 1 hts (gV tw_1449 tw_1451 ts_69 tw_15 tw_1452) rfl rfl rfl (by decide +kernel) ⟨Nat.le_of_ble_eq_true rfl, Nat.le_of_ble_eq_true rfl⟩) (tg_preV hw hK hSD hA (ci := 10) (q := (RX10, TX10, 49)) rfl h_p0 rfl) rfl rfl hl.1 rfl (lv_room (Nat.le_of_ble_eq_true rfl)) dX10_holds_184 ⟨Nat.le_of_ble_eq_true rfl, Nat.le_of_ble_eq_true rfl⟩) hw hA (fun v_20  H locs hp_v_20 hw => ?_)
            have r_v_20 : RI v_20 (-1) 5 := hp_v_20.1
            by_cases c9_v_20 : v_20.toInt < 0
            · have r_v_20 : RI v_20 (-1) (-1) := by unfold RI at r_v_20 ⊢; omega
              have x_NB_p0_p2 := (hp_v_20.2.2.2.2.1 (by omega)).1
              refine lv_iconst (v := (-1)) hx hb dX10_holds_187 (by decide) ?_
              refine lv_icmp_ne (tgt := 195) hx hb dX10_holds_188 (by decide) (fun c_188 => ?_) (fun c_188 => ?_)
              · exact absurd (r_v_20.eq.trans rl_m1.eq.symm) ((ti_ne c_188))
              · refine lv_iconst (v := 1) hx hb dX10_holds_191 (by decide) ?_
                refine lv_goto (tgt := 196) hx hb dX10_holds_192 (by decide) ?_
                subst hQ
                exact W.zret (v := 1) hx hb hr (rfl) (fun t ht hW => ⟨⟨1, (), rfl, ⟨rl_1.to (by decide), (fun _ => trivial), (fun h0 => trivial)⟩, by rw [ht]; exact hw.2.1, va_K.moved hW.alike hK, hw.2.2.1⟩, hw.2.2.2.1.F ht⟩) hw.2.2.2.1.2.2 dX10_holds_196
            · have r_v_20 : RI v_20 0 5 := by unfold RI at r_v_20 ⊢; omega
              have x_WB_p0_p2_v_20 := (hp_v_20.2.2.2.2.2 (by omega)).1
              refine lv_iconst (v := (-1)) hx hb dX10_holds_187 (by decide) ?_
              refine lv_icmp_ne (tgt := 195) hx hb dX10_holds_188 (by decide) (fun c_188 => ?_) (fun c_188 => ?_)
              · refine lv_iconst (v := 0) hx hb dX10_holds_195 (by decide) ?_
                subst hQ
                exact W.zret (v := 0) hx hb hr (rfl) (fun t ht hW => ⟨⟨0, (), rfl, ⟨rl_0.to (by decide), (fun h0 => trivial), (fun _ => trivial)⟩, by rw [ht]; exact hw.2.1, va_K.moved hW.alike hK, hw.2.2.1⟩, hw.2.2.2.1.F ht⟩) hw.2.2.2.1.2.2 dX10_holds_196
              · have r_v_20 : RI v_20 0 (-1) := rc_eq1 r_v_20 rl_m1 (ti_eq c_188) (by decide)
                exact (r_v_20.no (by decide)).elim
          · by_cases k_34_71 : v_13 = 71
            · refine lv_lookup (tgt := 197) (off := 163) hx hb dX10_holds_34 (by decide) (by rw [k_34_71]; decide) (by decide) ?_
              have r_v_13 : RI v_13 71 71 := by rw [k_34_71]; exact rl_71
              refine lv_aload_n hx hb dX10_holds_197 rfl (lv_at hl 3 rfl) ?_
              refine lv_iload_n hx hb dX10_holds_198 rfl (lv_at hl 5 rfl) ?_
              refine tk_ir (va_runV (As := [.int p2]) (rest := []) ⟨hx, hb, hml, hown, hts⟩ (c_X10_sittersOf l D cy z s.heap.size Ps w0 hw.1 p0 p2 h_p0 (r_p2.to (by decide))) (cwV 1 hts (gV tw_1461 tw_1463 ts_72 tw_15 tw_1464) rfl rfl rfl (by decide +kernel) ⟨Nat.le_of_ble_eq_true rfl, Nat.le_of_ble_eq_true rfl⟩) (tg_preV hw hK hSD hA (ci := 10) (q := (RX10, TX10, 49)) rfl h_p0 rfl) rfl rfl hl.1 rfl (lv_room (Nat.le_of_ble_eq_true rfl)) dX10_holds_199 ⟨Nat.le_of_ble_eq_true rfl, Nat.le_of_ble_eq_true rfl⟩) hw hA (fun v_21  H locs hp_v_21 hw => ?_)
              have r_v_21 : RI v_21 (-2147483648) 2147483647 := hp_v_21.1
              refine lv_if_eq (tgt := 209) hx hb dX10_holds_202 (by decide) (fun c_202 => ?_) (fun c_202 => ?_)
              · have r_v_21 : RI v_21 0 0 := rc_eq1 r_v_21 rl_0 (ti_eq c_202) (by decide)
                refine lv_iconst (v := 0) hx hb dX10_holds_209 (by decide) ?_
                subst hQ
                exact W.zret (v := 0) hx hb hr (rfl) (fun t ht hW => ⟨⟨0, (), rfl, ⟨rl_0.to (by decide), (fun h0 => trivial), (fun _ => trivial)⟩, by rw [ht]; exact hw.2.1, va_K.moved hW.alike hK, hw.2.2.1⟩, hw.2.2.2.1.F ht⟩) hw.2.2.2.1.2.2 dX10_holds_210
              · refine lv_iconst (v := 1) hx hb dX10_holds_205 (by decide) ?_
                refine lv_goto (tgt := 210) hx hb dX10_holds_206 (by decide) ?_
                subst hQ
                exact W.zret (v := 1) hx hb hr (rfl) (fun t ht hW => ⟨⟨1, (), rfl, ⟨rl_1.to (by decide), (fun _ => trivial), (fun h0 => trivial)⟩, by rw [ht]; exact hw.2.1, va_K.moved hW.alike hK, hw.2.2.1⟩, hw.2.2.2.1.F ht⟩) hw.2.2.2.1.2.2 dX10_holds_210
            · by_cases k_34_72 : v_13 = 72
              · refine lv_lookup (tgt := 211) (off := 177) hx hb dX10_holds_34 (by decide) (by rw [k_34_72]; decide) (by decide) ?_
                have r_v_13 : RI v_13 72 72 := by rw [k_34_72]; exact rl_72
                refine lv_aload_n hx hb dX10_holds_211 rfl (lv_at hl 3 rfl) ?_
                refine lv_iload_n hx hb dX10_holds_212 rfl (lv_at hl 5 rfl) ?_
                refine tk_ir (va_runV (As := [.int p2]) (rest := []) ⟨hx, hb, hml, hown, hts⟩ (c_X10_whatIs l D cy z s.heap.size Ps w0 hw.1 p0 p2 h_p0 r_p2) (cwV 1 hts (gV tw_1449 tw_1451 ts_69 tw_15 tw_1452) rfl rfl rfl (by decide +kernel) ⟨Nat.le_of_ble_eq_true rfl, Nat.le_of_ble_eq_true rfl⟩) (tg_preV hw hK hSD hA (ci := 10) (q := (RX10, TX10, 49)) rfl h_p0 rfl) rfl rfl hl.1 rfl (lv_room (Nat.le_of_ble_eq_true rfl)) dX10_holds_213 ⟨Nat.le_of_ble_eq_true rfl, Nat.le_of_ble_eq_true rfl⟩) hw hA (fun v_22  H locs hp_v_22 hw => ?_)
                have r_v_22 : RI v_22 (-1) 5 := hp_v_22.1
                by_cases c9_v_22 : v_22.toInt < 0
                · have r_v_22 : RI v_22 (-1) (-1) := by unfold RI at r_v_22 ⊢; omega
                  have x_NB_p0_p2 := (hp_v_22.2.2.2.2.1 (by omega)).1
                  refine lv_iload hx hb dX10_holds_216 (lv_at hl 1 rfl) ?_
                  refine lv_icmp_ne (tgt := 225) hx hb dX10_holds_218 (by decide) (fun c_218 => ?_) (fun c_218 => ?_)
                  · refine lv_iconst (v := 0) hx hb dX10_holds_225 (by decide) ?_
                    subst hQ
                    exact W.zret (v := 0) hx hb hr (rfl) (fun t ht hW => ⟨⟨0, (), rfl, ⟨rl_0.to (by decide), (fun h0 => trivial), (fun _ => trivial)⟩, by rw [ht]; exact hw.2.1, va_K.moved hW.alike hK, hw.2.2.1⟩, hw.2.2.2.1.F ht⟩) hw.2.2.2.1.2.2 dX10_holds_226
                  · have r_v_10 : RI v_10 (-1) (-1) := rc_eq2 r_v_22 r_v_10 (ti_eq c_218) (by decide)
                    refine lv_iconst (v := 1) hx hb dX10_holds_221 (by decide) ?_
                    refine lv_goto (tgt := 226) hx hb dX10_holds_222 (by decide) ?_
                    subst hQ
                    exact W.zret (v := 1) hx hb hr (rfl) (fun t ht hW => ⟨⟨1, (), rfl, ⟨rl_1.to (by decide), (fun _ => trivial), (fun h0 => trivial)⟩, by rw [ht]; exact hw.2.1, va_K.moved hW.alike hK, hw.2.2.1⟩, hw.2.2.2.1.F ht⟩) hw.2.2.2.1.2.2 dX10_holds_226
                · have r_v_22 : RI v_22 0 5 := by unfold RI at r_v_22 ⊢; omega
                  have x_WB_p0_p2_v_22 := (hp_v_22.2.2.2.2.2 (by omega)).1
                  refine lv_iload hx hb dX10_holds_216 (lv_at hl 1 rfl) ?_
                  refine lv_icmp_ne (tgt := 225) hx hb dX10_holds_218 (by decide) (fun c_218 => ?_) (fun c_218 => ?_)
                  · refine lv_iconst (v := 0) hx hb dX10_holds_225 (by decide) ?_
                    subst hQ
                    exact W.zret (v := 0) hx hb hr (rfl) (fun t ht hW => ⟨⟨0, (), rfl, ⟨rl_0.to (by decide), (fun h0 => trivial), (fun _ => trivial)⟩, by rw [ht]; exact hw.2.1, va_K.moved hW.alike hK, hw.2.2.1⟩, hw.2.2.2.1.F ht⟩) hw.2.2.2.1.2.2 dX10_holds_226
                  · have r_v_10 : RI v_10 0 5 := rc_eq2 r_v_22 r_v_10 (ti_eq c_218) (by decide)
                    refine lv_iconst (v := 1) hx hb dX10_holds_221 (by decide) ?_
                    refine lv_goto (tgt := 226) hx hb dX10_holds_222 (by decide) ?_
                    subst hQ
                    exact W.zret (v := 1) hx hb hr (rfl) (fun t ht hW => ⟨⟨1, (), rfl, ⟨rl_1.to (by decide), (fun _ => trivial), (fun h0 => trivial)⟩, by rw [ht]; exact hw.2.1, va_K.moved hW.alike hK, hw.2.2.1⟩, hw.2.2.2.1.F ht⟩) hw.2.2.2.1.2.2 dX10_holds_226
              · by_cases k_34_73 : v_13 = 73
                · refine lv_lookup (tgt := 227) (off := 193) hx hb dX10_holds_34 (by decide) (by rw [k_34_73]; decide) (by decide) ?_
                  have r_v_13 : RI v_13 73 73 := by rw [k_34_73]; exact rl_73
                  refine lv_aload_n hx hb dX10_holds_227 rfl (lv_at hl 3 rfl) ?_
                  refine tg_mem (ci := 10) (C := RX10) (T := TX10) (N := 49) hx hb hts inX10 hown hK hw 14 m_u_8 rfl (by decide) (hts _ tw_1151) (fun _ h9 => h9) dX10_holds_228 ?_
                  refine lv_bipush (v := 86) hx hb dX10_holds_231 (by decide) ?_
                  refine lv_iload_n hx hb dX10_holds_233 rfl (lv_at hl 5 rfl) ?_
                  refine lv_iadd hx hb dX10_holds_234 (lv_topi (fun v_23 e_v_23 => ?_))
                  obtain ⟨t_v_23, r_v_23⟩ := tq_add (lo := 86) (hi := 91) rl_86 r_p2 (by decide +kernel) e_v_23
                  have t_v_23 : v_23.toInt = 86 + p2.toInt := t_v_23
                  refine tg_iald (lo := (-2147483648)) (hi := 2147483647) hx hb hK hw h_vu_8 rfl 86 91 r_v_23 (by decide) (by decide +kernel) dX10_holds_235 (fun v_24 r_v_24 m_v_24 o_v_24 => ?_)
                  refine lv_iload hx hb dX10_holds_236 (lv_at hl 1 rfl) ?_
                  refine lv_icmp_ne (tgt := 245) hx hb dX10_holds_238 (by decide) (fun c_238 => ?_) (fun c_238 => ?_)
                  · refine lv_iconst (v := 0) hx hb dX10_holds_245 (by decide) ?_
                    subst hQ
                    exact W.zret (v := 0) hx hb hr (rfl) (fun t ht hW => ⟨⟨0, (), rfl, ⟨rl_0.to (by decide), (fun h0 => trivial), (fun _ => trivial)⟩, by rw [ht]; exact hw.2.1, va_K.moved hW.alike hK, hw.2.2.1⟩, hw.2.2.2.1.F ht⟩) hw.2.2.2.1.2.2 dX10_holds_246
                  · refine lv_iconst (v := 1) hx hb dX10_holds_241 (by decide) ?_
                    refine lv_goto (tgt := 246) hx hb dX10_holds_242 (by decide) ?_
                    subst hQ
                    exact W.zret (v := 1) hx hb hr (rfl) (fun t ht hW => ⟨⟨1, (), rfl, ⟨rl_1.to (by decide), (fun _ => trivial), (fun h0 => trivial)⟩, by rw [ht]; exact hw.2.1, va_K.moved hW.alike hK, hw.2.2.1⟩, hw.2.2.2.1.F ht⟩) hw.2.2.2.1.2.2 dX10_holds_246
                · refine lv_lookup (tgt := 247) (off := 213) hx hb dX10_holds_34 (by decide) ((lv_osw k_34_1 (by decide)).trans ((lv_osw k_34_2 (by decide)).trans ((lv_osw k_34_3 (by decide)).trans ((lv_osw k_34_69 (by decide)).trans ((lv_osw k_34_70 (by decide)).trans ((lv_osw k_34_71 (by decide)).trans ((lv_osw k_34_72 (by decide)).trans ((lv_osw k_34_73 (by decide)).trans (rfl))))))))) (by decide) ?_
                  refine lv_aload_n hx hb dX10_holds_247 rfl (lv_at hl 3 rfl) ?_
                  refine tg_mem (ci := 10) (C := RX10) (T := TX10) (N := 49) hx hb hts inX10 hown hK hw 14 m_u_8 rfl (by decide) (hts _ tw_1151) (fun _ h9 => h9) dX10_holds_248 ?_
                  refine lv_iload_n hx hb dX10_holds_251 rfl (lv_at hl 2 rfl) ?_
                  refine tg_imem hx hb hK hw h_vu_8 rfl r_v_7 (by decide) m_v_13 dX10_holds_252 ?_
                  refine lv_bipush (v := 50) hx hb dX10_holds_253 (by decide) ?_
                  refine lv_isub hx hb dX10_holds_255 (lv_topi (fun v_26 e_v_26 => ?_))
                  have r_v_26 := ri_any v_26
                  refine lv_istore (lv' := [(6, .int v_26), (5, .int v_12), (4, .int v_10), (3, .int v_7), (0, .ref p0), (1, .int p1), (2, .int p2)]) hx hb dX10_holds_256 hl (by decide) rfl (fun ls hl => ?_)
                  refine lv_iload hx hb dX10_holds_258 (lv_at hl 0 rfl) ?_
                  refine lv_bipush (v := 24) hx hb dX10_holds_260 (by decide) ?_
                  refine lv_icmp_ne (tgt := 273) hx hb dX10_holds_262 (by decide) (fun c_262 => ?_) (fun c_262 => ?_)
                  · refine lv_iload hx hb dX10_holds_273 (lv_at hl 0 rfl) ?_
                    refine lv_bipush (v := 25) hx hb dX10_holds_275 (by decide) ?_
                    refine lv_icmp_ne (tgt := 292) hx hb dX10_holds_277 (by decide) (fun c_277 => ?_) (fun c_277 => ?_)
                    · refine lv_iload hx hb dX10_holds_292 (lv_at hl 0 rfl) ?_
                      refine lv_bipush (v := 26) hx hb dX10_holds_294 (by decide) ?_
                      refine lv_icmp_ne (tgt := 311) hx hb dX10_holds_296 (by decide) (fun c_296 => ?_) (fun c_296 => ?_)
                      · refine lv_iload_n hx hb dX10_holds_311 rfl (lv_at hl 6 rfl) ?_
                        exact B312 v_7 v_10 v_12 v_26 p2 _ _ ls r_p1 r_p2 r_v_7 r_v_10 r_v_12 r_v_26 (r_p2.to (by decide)) hw (lv_sub hl [4, 5, 6, 3, 2, 1, 0] rfl)
                      · have r_v_26 : RI v_26 26 26 := rc_eq1 r_v_26 rl_26 (ti_eq c_296) (by decide)
                        refine lv_aload_n hx hb dX10_holds_299 rfl (lv_at hl 4 rfl) ?_
                        refine tg_mem (ci := 10) (C := RX10) (T := TX10) (N := 49) hx hb hts inX10 hown hK hw 14 m_u_8 rfl (by decide) (hts _ tw_1151) (fun _ h9 => h9) dX10_holds_300 ?_
                        refine lv_bipush (v := 98) hx hb dX10_holds_303 (by decide) ?_
                        refine lv_iload_n hx hb dX10_holds_305 rfl (lv_at hl 6 rfl) ?_
                        refine lv_iadd hx hb dX10_holds_306 (lv_topi (fun v_27 e_v_27 => ?_))
                        obtain ⟨t_v_27, r_v_27⟩ := tq_add (lo := 98) (hi := 103) rl_98 r_p2 (by decide +kernel) e_v_27
                        have t_v_27 : v_27.toInt = 98 + p2.toInt := t_v_27
                        refine tg_iald (lo := (-2147483648)) (hi := 2147483647) hx hb hK hw h_vu_8 rfl 98 103 r_v_27 (by decide) (by decide +kernel) dX10_holds_307 (fun v_28 r_v_28 m_v_28 o_v_28 => ?_)
                        refine lv_goto (tgt := 312) hx hb dX10_holds_308 (by decide) ?_
                        exact B312 v_7 v_10 v_12 v_26 v_28 _ _ ls r_p1 r_p2 r_v_7 r_v_10 r_v_12 (r_v_26.to (by decide)) r_v_28 hw (lv_sub hl [4, 5, 6, 3, 2, 1, 0] rfl)
                    · have r_v_26 : RI v_26 25 25 := rc_eq1 r_v_26 rl_25 (ti_eq c_277) (by decide)
                      refine lv_aload_n hx hb dX10_holds_280 rfl (lv_at hl 4 rfl) ?_
                      refine tg_mem (ci := 10) (C := RX10) (T := TX10) (N := 49) hx hb hts inX10 hown hK hw 14 m_u_8 rfl (by decide) (hts _ tw_1151) (fun _ h9 => h9) dX10_holds_281 ?_
                      refine lv_bipush (v := 92) hx hb dX10_holds_284 (by decide) ?_
                      refine lv_iload_n hx hb dX10_holds_286 rfl (lv_at hl 6 rfl) ?_
                      refine lv_iadd hx hb dX10_holds_287 (lv_topi (fun v_29 e_v_29 => ?_))
                      obtain ⟨t_v_29, r_v_29⟩ := tq_add (lo := 92) (hi := 97) rl_92 r_p2 (by decide +kernel) e_v_29
                      have t_v_29 : v_29.toInt = 92 + p2.toInt := t_v_29
                      refine tg_iald (lo := (-2147483648)) (hi := 2147483647) hx hb hK hw h_vu_8 rfl 92 97 r_v_29 (by decide) (by decide +kernel) dX10_holds_288 (fun v_30 r_v_30 m_v_30 o_v_30 => ?_)
                      refine lv_goto (tgt := 312) hx hb dX10_holds_289 (by decide) ?_
                      exact B312 v_7 v_10 v_12 v_26 v_30 _ _ ls r_p1 r_p2 r_v_7 r_v_10 r_v_12 (r_v_26.to (by decide)) r_v_30 hw (lv_sub hl [4, 5, 6, 3, 2, 1, 0] rfl)
                  · have r_v_26 : RI v_26 24 24 := rc_eq1 r_v_26 rl_24 (ti_eq c_262) (by decide)
                    refine lv_aload_n hx hb dX10_holds_265 rfl (lv_at hl 4 rfl) ?_
                    refine lv_iload_n hx hb dX10_holds_266 rfl (lv_at hl 6 rfl) ?_
                    refine tk_ir (va_runV (As := [.int p2]) (rest := []) ⟨hx, hb, hml, hown, hts⟩ (c_X10_sizeOf l D cy z s.heap.size Ps w0 hw.1 p0 p2 h_p0 r_p2) (cwV 1 hts (gV tw_1453 tw_1455 ts_70 tw_15 tw_1456) rfl rfl rfl (by decide +kernel) ⟨Nat.le_of_ble_eq_true rfl, Nat.le_of_ble_eq_true rfl⟩) (tg_preV hw hK hSD hA (ci := 10) (q := (RX10, TX10, 49)) rfl h_p0 rfl) rfl rfl hl.1 rfl (lv_room (Nat.le_of_ble_eq_true rfl)) dX10_holds_267 ⟨Nat.le_of_ble_eq_true rfl, Nat.le_of_ble_eq_true rfl⟩) hw hA (fun v_31  H locs hp_v_31 hw => ?_)
                    have r_v_31 : RI v_31 (-2147483648) 2147483647 := hp_v_31.1
                    refine lv_goto (tgt := 312) hx hb dX10_holds_270 (by decide) ?_
                    exact B312 v_7 v_10 v_12 v_26 v_31 _ _ ls r_p1 r_p2 r_v_7 r_v_10 r_v_12 (r_v_26.to (by decide)) r_v_31 hw (lv_sub hl [4, 5, 6, 3, 2, 1, 0] rfl)
abbrev wr_X10_holds__14 : List (Nat × Nat) := []
abbrev wa_X10_holds__14 : List Nat := []
set_option maxHeartbeats 4000000 in
set_option maxRecDepth 100000 in
theorem c_X10_holds__14 (l : Launch) (D : va_G) (cy : Nat → ClassId) (z : Nat → Nat) (sz : Nat) (Ps : PSI) (w0 : va_W) (hT : HT cy GG Ps w0) (p0 : Nat) (p1 : Int32) (p2 : Int32) (h_p0 : (p0, 55) ∈ Ps) (r_p1 : RI p1 0 45) (r_p2 : RI p2 0 5) : Met l yX10_holds (Cond.code yX10_holds cX10_holds 8 (some .boolean) :: gT) ({ frames := 48, cells := 0, slots := 0, locals := 9600 } : Room) (va_Pc [.ref p0, .int p1, .int p2] (PRE D cy z w0 sz)) (va_Qi (fun (r : Int32) (u : Unit) => RI r 0 1 ∧ (r = 0 → True) ∧ (¬ r = 0 → True)) (BB D cy (va_A w0 sz) (fun (u : Unit) => w0)) (va_A w0 sz)) 0 0 (va_A w0 sz) := by
  refine Met.ofW (cc := cX10_holds) (maxL := 8) (ret := (some .boolean)) (by decide) rfl ?_
  intro p e s m args below meth c s₁ B hml hv
  obtain ⟨rfl, hsz, hP, hK, hD0, hSD⟩ := hv
  have hx := B.exec
  have hb := B.bytes
  have hr := B.returns
  have hlocks := B.notSynchronized
  have hts : ∀ w ∈ gT, w.before _ s = true := fun w h => atoms_spec (ws := Cond.code yX10_holds cX10_holds 8 (some .boolean) :: gT) B.pre w (List.mem_cons_of_mem _ h)
  have hown : s.vm.findClass RX10 = some m.cls := findClass_of_methodNamed B.named
  subst hsz
  have hD := hD0.self (sz := s.heap.size)
  generalize hAe : va_A w0 s.heap.size = A at hD hSD ⊢
  have hA : ∀ q : Nat, s.heap.size ≤ q → A q := fun q h => by rw [← hAe]; exact Or.inr h
  have hl := lv_entry ([.ref p0, .int p1, .int p2]) (n := 8) (Nat.le_of_ble_eq_true rfl)
  rw [lg_entry_eq]
  generalize (lg_sl ([.ref p0, .int p1, .int p2]) ++ List.replicate (8 - (lg_sl ([.ref p0, .int p1, .int p2])).length) Slot.unset).toArray = ls at hl ⊢
  have hl : lv_has ls 8 [(0, .ref p0), (1, .int p1), (2, .int p2)] := hl
  refine nameQ (fun Q hQ => ?_)
  have hw : WD D cy GG A s wr_X10_holds__14 wa_X10_holds__14 Ps w0 Ps w0 s.heap [] := ⟨hT, hP, hD, va_S.rf, FR.rf, hT.1, [], (List.append_nil _).symm⟩
  have B312 : ∀ (x3 : Int32) (x4 : Int32) (x5 : Int32) (x6 : Int32) (y0 : Int32) (H : Heap) (locs : List Loc) (ls : Array Slot), RI p1 0 45 → RI p2 0 5 → RI x3 174 354 → RI x4 (-2147483648) 2147483647 → RI x5 (-2147483648) 2147483647 → RI x6 (-2147483648) 2147483647 → RI y0 (-2147483648) 2147483647 → WD D cy GG A s wr_X10_holds__14 wa_X10_holds__14 Ps w0 Ps w0 H locs → lv_has ls 8 [(0, .ref p0), (1, .int p1), (2, .int p2), (3, .int x3), (4, .int x4), (5, .int x5), (6, .int x6)] → W p l e (headSpec (Cond.code yX10_holds cX10_holds 8 (some .boolean) :: gT) ({ frames := 48, cells := 0, slots := 0, locals := 9600 } : Room)).room s m ([.ref p0, .int p1, .int p2] : List Value).toArray below meth c H locs 0 0 Q (F0 m 312 ls [.int y0]) := by
    intro x3 x4 x5 x6 y0 H locs ls r_p1 r_p2 r_x3 r_x4 r_x5 r_x6 r_y0 hw hl
    refine lv_istore (lv' := [(7, .int y0), (0, .ref p0), (1, .int p1), (2, .int p2), (3, .int x3), (4, .int x4), (5, .int x5), (6, .int x6)]) hx hb dX10_holds_312 hl (by decide) rfl (fun ls hl => ?_)
    refine lv_aload_n hx hb dX10_holds_314 rfl (lv_at hl 1 rfl) ?_
    refine tg_get (ci := 10) (ts := ty_MODEL) (C := RX10) (T := TX10) (N := 49) hx hb hts inX10 hown hK hw h_p0 rfl rfl 14 (by decide) (hts _ tw_1151) (fun _ h9 => h9) (ft := vR 34) rfl dX10_holds_315 (fun u_1 hv_u_1 m_u_1 => ?_)
    obtain ⟨vu_1, rfl, h_vu_1⟩ := hv_u_1
    refine lv_iload_n hx hb dX10_holds_318 rfl (lv_at hl 4 rfl) ?_
    refine lv_iconst (v := 3) hx hb dX10_holds_319 (by decide) ?_
    refine lv_iadd hx hb dX10_holds_320 (lv_topi (fun v_2 e_v_2 => ?_))
    obtain ⟨t_v_2, r_v_2⟩ := tq_add (lo := 177) (hi := 357) r_x3 rl_3 (by decide +kernel) e_v_2
    have t_v_2 : v_2.toInt = x3.toInt + 3 := t_v_2
    refine tg_iald (lo := (-2147483648)) (hi := 2147483647) hx hb hK hw h_vu_1 rfl 177 357 r_v_2 (by decide) (by decide +kernel) dX10_holds_321 (fun v_3 r_v_3 m_v_3 o_v_3 => ?_)
    refine lv_bipush (v := 60) hx hb dX10_holds_322 (by decide) ?_
    refine lv_icmp_ne (tgt := 342) hx hb dX10_holds_324 (by decide) (fun c_324 => ?_) (fun c_324 => ?_)
    · refine lv_aload_n hx hb dX10_holds_342 rfl (lv_at hl 1 rfl) ?_
      refine tg_mem (ci := 10) (C := RX10) (T := TX10) (N := 49) hx hb hts inX10 hown hK hw 14 m_u_1 rfl (by decide) (hts _ tw_1151) (fun _ h9 => h9) dX10_holds_343 ?_
      refine lv_iload_n hx hb dX10_holds_346 rfl (lv_at hl 4 rfl) ?_
      refine lv_iconst (v := 3) hx hb dX10_holds_347 (by decide) ?_
      refine lv_iadd hx hb dX10_holds_348 (lv_topi (fun v_4 e_v_4 => ?_))
      obtain ⟨t_v_4, r_v_4⟩ := tq_add (lo := 177) (hi := 357) r_x3 rl_3 (by decide +kernel) e_v_4
      have t_v_4 : v_4.toInt = x3.toInt + 3 := t_v_4
      refine tg_iald (lo := (-2147483648)) (hi := 2147483647) hx hb hK hw h_vu_1 rfl 177 357 r_v_4 (by decide) (by decide +kernel) dX10_holds_349 (fun v_5 r_v_5 m_v_5 o_v_5 => ?_)
      refine lv_bipush (v := 61) hx hb dX10_holds_350 (by decide) ?_
      refine lv_icmp_ne (tgt := 370) hx hb dX10_holds_352 (by decide) (fun c_352 => ?_) (fun c_352 => ?_)
      · refine lv_iload hx hb dX10_holds_370 (lv_at hl 0 rfl) ?_
        refine lv_iload hx hb dX10_holds_372 (lv_at hl 6 rfl) ?_
        refine lv_icmp_le (tgt := 381) hx hb dX10_holds_374 (by decide) (fun c_374 => ?_) (fun c_374 => ?_)
        · refine lv_iconst (v := 0) hx hb dX10_holds_381 (by decide) ?_
          subst hQ
          exact W.zret (v := 0) hx hb hr (rfl) (fun t ht hW => ⟨⟨0, (), rfl, ⟨rl_0.to (by decide), (fun h0 => trivial), (fun _ => trivial)⟩, by rw [ht]; exact hw.2.1, va_K.moved hW.alike hK, hw.2.2.1⟩, hw.2.2.2.1.F ht⟩) hw.2.2.2.1.2.2 dX10_holds_382
        · have r_x5 : RI x5 (-2147483648) 2147483646 := rc_lt1 r_x5 r_y0 (ti_nle c_374) (by decide)
          have r_y0 : RI y0 (-2147483647) 2147483647 := rc_lt2 r_x5 r_y0 (ti_nle c_374) (by decide)
          refine lv_iconst (v := 1) hx hb dX10_holds_377 (by decide) ?_
          refine lv_goto (tgt := 382) hx hb dX10_holds_378 (by decide) ?_
          subst hQ
          exact W.zret (v := 1) hx hb hr (rfl) (fun t ht hW => ⟨⟨1, (), rfl, ⟨rl_1.to (by decide), (fun _ => trivial), (fun h0 => trivial)⟩, by rw [ht]; exact hw.2.1, va_K.moved hW.alike hK, hw.2.2.1⟩, hw.2.2.2.1.F ht⟩) hw.2.2.2.1.2.2 dX10_holds_382
      · have r_v_5 : RI v_5 61 61 := rc_eq1 r_v_5 rl_61 (ti_eq c_352) (by decide)
        refine lv_iload hx hb dX10_holds_355 (lv_at hl 0 rfl) ?_
        refine lv_iload hx hb dX10_holds_357 (lv_at hl 6 rfl) ?_
        refine lv_icmp_ne (tgt := 366) hx hb dX10_holds_359 (by decide) (fun c_359 => ?_) (fun c_359 => ?_)
        · refine lv_iconst (v := 0) hx hb dX10_holds_366 (by decide) ?_
          refine lv_goto (tgt := 382) hx hb dX10_holds_367 (by decide) ?_
          subst hQ
          exact W.zret (v := 0) hx hb hr (rfl) (fun t ht hW => ⟨⟨0, (), rfl, ⟨rl_0.to (by decide), (fun h0 => trivial), (fun _ => trivial)⟩, by rw [ht]; exact hw.2.1, va_K.moved hW.alike hK, hw.2.2.1⟩, hw.2.2.2.1.F ht⟩) hw.2.2.2.1.2.2 dX10_holds_382
        · refine lv_iconst (v := 1) hx hb dX10_holds_362 (by decide) ?_
          refine lv_goto (tgt := 382) hx hb dX10_holds_363 (by decide) ?_
          subst hQ
          exact W.zret (v := 1) hx hb hr (rfl) (fun t ht hW => ⟨⟨1, (), rfl, ⟨rl_1.to (by decide), (fun _ => trivial), (fun h0 => trivial)⟩, by rw [ht]; exact hw.2.1, va_K.moved hW.alike hK, hw.2.2.1⟩, hw.2.2.2.1.F ht⟩) hw.2.2.2.1.2.2 dX10_holds_382
    · have r_v_3 : RI v_3 60 60 := rc_eq1 r_v_3 rl_60 (ti_eq c_324) (by decide)
      refine lv_iload hx hb dX10_holds_327 (lv_at hl 0 rfl) ?_
      refine lv_iload hx hb dX10_holds_329 (lv_at hl 6 rfl) ?_
      refine lv_icmp_ge (tgt := 338) hx hb dX10_holds_331 (by decide) (fun c_331 => ?_) (fun c_331 => ?_)
      · refine lv_iconst (v := 0) hx hb dX10_holds_338 (by decide) ?_
        refine lv_goto (tgt := 382) hx hb dX10_holds_339 (by decide) ?_
        subst hQ
        exact W.zret (v := 0) hx hb hr (rfl) (fun t ht hW => ⟨⟨0, (), rfl, ⟨rl_0.to (by decide), (fun h0 => trivial), (fun _ => trivial)⟩, by rw [ht]; exact hw.2.1, va_K.moved hW.alike hK, hw.2.2.1⟩, hw.2.2.2.1.F ht⟩) hw.2.2.2.1.2.2 dX10_holds_382
      · have r_y0 : RI y0 (-2147483648) 2147483646 := rc_lt1 r_y0 r_x5 (ti_nle c_331) (by decide)
        have r_x5 : RI x5 (-2147483647) 2147483647 := rc_lt2 r_y0 r_x5 (ti_nle c_331) (by decide)
        refine lv_iconst (v := 1) hx hb dX10_holds_334 (by decide) ?_
        refine lv_goto (tgt := 382) hx hb dX10_holds_335 (by decide) ?_
        subst hQ
        exact W.zret (v := 1) hx hb hr (rfl) (fun t ht hW => ⟨⟨1, (), rfl, ⟨rl_1.to (by decide), (fun _ => trivial), (fun h0 => trivial)⟩, by rw [ht]; exact hw.2.1, va_K.moved hW.alike hK, hw.2.2.1⟩, hw.2.2.2.1.F ht⟩) hw.2.2.2.1.2.2 dX10_holds_382
  refine lv_sipush (v := 174) hx hb dX10_holds_0 (by decide) ?_
  refine lv_iconst (v := 4) hx hb dX10_holds_3 (by decide) ?_
  refine lv_iload_n hx hb dX10_holds_4 rfl (lv_at hl 1 rfl) ?_
  refine lv_imul hx hb dX10_holds_5 (lv_topi (fun v_6 e_v_6 => ?_))
  obtain ⟨t_v_6, r_v_6⟩ := tq_mul (lo := 0) (hi := 180) rl_4 r_p1 (by decide +kernel) e_v_6
  have t_v_6 : v_6.toInt = 4 * p1.toInt := t_v_6
  refine lv_iadd hx hb dX10_holds_6 (lv_topi (fun v_7 e_v_7 => ?_))
  obtain ⟨t_v_7, r_v_7⟩ := tq_add (lo := 174) (hi := 354) rl_174 r_v_6 (by decide +kernel) e_v_7
  have t_v_7 : v_7.toInt = 174 + v_6.toInt := t_v_7
  refine lv_istore_n (lv' := [(3, .int v_7), (0, .ref p0), (1, .int p1), (2, .int p2)]) hx hb dX10_holds_7 rfl hl (by decide) rfl (fun ls hl => ?_)
  refine lv_aload_n hx hb dX10_holds_8 rfl (lv_at hl 1 rfl) ?_
  refine tg_get (ci := 10) (ts := ty_MODEL) (C := RX10) (T := TX10) (N := 49) hx hb hts inX10 hown hK hw h_p0 rfl rfl 14 (by decide) (hts _ tw_1151) (fun _ h9 => h9) (ft := vR 34) rfl dX10_holds_9 (fun u_8 hv_u_8 m_u_8 => ?_)
  obtain ⟨vu_8, rfl, h_vu_8⟩ := hv_u_8
  refine lv_iload_n hx hb dX10_holds_12 rfl (lv_at hl 0 rfl) ?_
  refine lv_iconst (v := 1) hx hb dX10_holds_13 (by decide) ?_
  refine lv_iadd hx hb dX10_holds_14 (lv_topi (fun v_9 e_v_9 => ?_))
  obtain ⟨t_v_9, r_v_9⟩ := tq_add (lo := 175) (hi := 355) r_v_7 rl_1 (by decide +kernel) e_v_9
  have t_v_9 : v_9.toInt = v_7.toInt + 1 := t_v_9
  refine tg_iald (lo := (-2147483648)) (hi := 2147483647) hx hb hK hw h_vu_8 rfl 175 355 r_v_9 (by decide) (by decide +kernel) dX10_holds_15 (fun v_10 r_v_10 m_v_10 o_v_10 => ?_)
  refine lv_istore (lv' := [(4, .int v_10), (3, .int v_7), (0, .ref p0), (1, .int p1), (2, .int p2)]) hx hb dX10_holds_16 hl (by decide) rfl (fun ls hl => ?_)
  refine lv_aload_n hx hb dX10_holds_18 rfl (lv_at hl 2 rfl) ?_
  refine tg_mem (ci := 10) (C := RX10) (T := TX10) (N := 49) hx hb hts inX10 hown hK hw 14 m_u_8 rfl (by decide) (hts _ tw_1151) (fun _ h9 => h9) dX10_holds_19 ?_
  refine lv_iload_n hx hb dX10_holds_22 rfl (lv_at hl 1 rfl) ?_
  refine lv_iconst (v := 2) hx hb dX10_holds_23 (by decide) ?_
  refine lv_iadd hx hb dX10_holds_24 (lv_topi (fun v_11 e_v_11 => ?_))
  obtain ⟨t_v_11, r_v_11⟩ := tq_add (lo := 176) (hi := 356) r_v_7 rl_2 (by decide +kernel) e_v_11
  have t_v_11 : v_11.toInt = v_7.toInt + 2 := t_v_11
  refine tg_iald (lo := (-2147483648)) (hi := 2147483647) hx hb hK hw h_vu_8 rfl 176 356 r_v_11 (by decide) (by decide +kernel) dX10_holds_25 (fun v_12 r_v_12 m_v_12 o_v_12 => ?_)
  refine lv_istore (lv' := [(5, .int v_12), (4, .int v_10), (3, .int v_7), (0, .ref p0), (1, .int p1), (2, .int p2)]) hx hb dX10_holds_26 hl (by decide) rfl (fun ls hl => ?_)
  refine lv_aload_n hx hb dX10_holds_28 rfl (lv_at hl 3 rfl) ?_
  refine tg_mem (ci := 10) (C := RX10) (T := TX10) (N := 49) hx hb hts inX10 hown hK hw 14 m_u_8 rfl (by decide) (hts _ tw_1151) (fun _ h9 => h9) dX10_holds_29 ?_
  refine lv_iload_n hx hb dX10_holds_32 rfl (lv_at hl 2 rfl) ?_
  refine tg_iald (lo := (-2147483648)) (hi := 2147483647) hx hb hK hw h_vu_8 rfl 174 354 r_v_7 (by decide) (by decide +kernel) dX10_holds_33 (fun v_13 r_v_13 m_v_13 o_v_13 => ?_)
  by_cases k_34_1 : v_13 = 1
  · refine lv_lookup (tgt := 108) (off := 74) hx hb dX10_holds_34 (by decide) (by rw [k_34_1]; decide) (by decide) ?_
    have r_v_13 : RI v_13 1 1 := by rw [k_34_1]; exact rl_1
    have g_v_10 : 0 ≤ v_10.toInt ∧ v_10.toInt < p1.toInt := by obtain ⟨_, f9, e8, e7, q9, _⟩ := ax_of (k := 14) (t := 34) hw h_p0 rfl (fun _ => rfl); cases FLD.inj hw.2.2.1 e8 m_u_8; have t9 := ARR.ael hw.2.2.1 e7 m_v_13; have x9 := ARR.ael hw.2.2.1 e7 m_v_10; rw [show Int32.toNatClampNeg v_7 = 174 + 4 * Int32.toNatClampNeg p1 from (by have k1 := r_v_7.cl (by decide); have k2 := r_p1.cl (by decide); omega)] at t9; rw [show Int32.toNatClampNeg v_9 = 175 + 4 * Int32.toNatClampNeg p1 from (by have k1 := r_v_9.cl (by decide); have k2 := r_p1.cl (by decide); omega)] at x9; exact RN_child q9 (r_p1.to (by decide)) t9 x9 (r_v_13.to (by decide))
    have r_v_10 : RI v_10 0 44 := ⟨g_v_10.1, by have k1 := r_p1.2; omega⟩
    refine lv_aload_n hx hb dX10_holds_108 rfl (lv_at hl 3 rfl) ?_
    refine lv_iload hx hb dX10_holds_109 (lv_at hl 1 rfl) ?_
    refine lv_iload_n hx hb dX10_holds_111 rfl (lv_at hl 5 rfl) ?_
    refine tk_ir (va_runV (As := [.int v_10, .int p2]) (rest := []) ⟨hx, hb, hml, hown, hts⟩ (c_X10_holds__15 l D cy z s.heap.size Ps w0 hw.1 p0 v_10 p2 h_p0 r_v_10 r_p2) (cwV 2 hts (gV tw_1787 tw_1789 ts_119 tw_15 tw_1790) rfl rfl rfl (by decide +kernel) ⟨Nat.le_of_ble_eq_true rfl, Nat.le_of_ble_eq_true rfl⟩) (tg_preV hw hK hSD hA (ci := 10) (q := (RX10, TX10, 49)) rfl h_p0 rfl) rfl rfl hl.1 rfl (lv_room (Nat.le_of_ble_eq_true rfl)) dX10_holds_112 ⟨Nat.le_of_ble_eq_true rfl, Nat.le_of_ble_eq_true rfl⟩) hw hA (fun v_14  H locs hp_v_14 hw => ?_)
    have r_v_14 : RI v_14 0 1 := hp_v_14.1
    refine lv_if_ne (tgt := 122) hx hb dX10_holds_115 (by decide) (fun c_115 => ?_) (fun c_115 => ?_)
    · have r_v_14 : RI v_14 1 1 := rc_neL r_v_14 rl_0 (ti_ne c_115) (by decide)
      refine lv_iconst (v := 0) hx hb dX10_holds_122 (by decide) ?_
      subst hQ
      exact W.zret (v := 0) hx hb hr (rfl) (fun t ht hW => ⟨⟨0, (), rfl, ⟨rl_0.to (by decide), (fun h0 => trivial), (fun _ => trivial)⟩, by rw [ht]; exact hw.2.1, va_K.moved hW.alike hK, hw.2.2.1⟩, hw.2.2.2.1.F ht⟩) hw.2.2.2.1.2.2 dX10_holds_123
    · have r_v_14 : RI v_14 0 0 := rc_eq1 r_v_14 rl_0 (ti_eq c_115) (by decide)
      refine lv_iconst (v := 1) hx hb dX10_holds_118 (by decide) ?_
      refine lv_goto (tgt := 123) hx hb dX10_holds_119 (by decide) ?_
      subst hQ
      exact W.zret (v := 1) hx hb hr (rfl) (fun t ht hW => ⟨⟨1, (), rfl, ⟨rl_1.to (by decide), (fun _ => trivial), (fun h0 => trivial)⟩, by rw [ht]; exact hw.2.1, va_K.moved hW.alike hK, hw.2.2.1⟩, hw.2.2.2.1.F ht⟩) hw.2.2.2.1.2.2 dX10_holds_123
  · by_cases k_34_2 : v_13 = 2
    · refine lv_lookup (tgt := 124) (off := 90) hx hb dX10_holds_34 (by decide) (by rw [k_34_2]; decide) (by decide) ?_
      have r_v_13 : RI v_13 2 2 := by rw [k_34_2]; exact rl_2
      have g_v_10 : 0 ≤ v_10.toInt ∧ v_10.toInt < p1.toInt := by obtain ⟨_, f9, e8, e7, q9, _⟩ := ax_of (k := 14) (t := 34) hw h_p0 rfl (fun _ => rfl); cases FLD.inj hw.2.2.1 e8 m_u_8; have t9 := ARR.ael hw.2.2.1 e7 m_v_13; have x9 := ARR.ael hw.2.2.1 e7 m_v_10; rw [show Int32.toNatClampNeg v_7 = 174 + 4 * Int32.toNatClampNeg p1 from (by have k1 := r_v_7.cl (by decide); have k2 := r_p1.cl (by decide); omega)] at t9; rw [show Int32.toNatClampNeg v_9 = 175 + 4 * Int32.toNatClampNeg p1 from (by have k1 := r_v_9.cl (by decide); have k2 := r_p1.cl (by decide); omega)] at x9; exact RN_child q9 (r_p1.to (by decide)) t9 x9 (r_v_13.to (by decide))
      have r_v_10 : RI v_10 0 44 := ⟨g_v_10.1, by have k1 := r_p1.2; omega⟩
      have g_v_12 : 0 ≤ v_12.toInt ∧ v_12.toInt < p1.toInt := by obtain ⟨_, f9, e8, e7, q9, _⟩ := ax_of (k := 14) (t := 34) hw h_p0 rfl (fun _ => rfl); cases FLD.inj hw.2.2.1 e8 m_u_8; have t9 := ARR.ael hw.2.2.1 e7 m_v_13; have x9 := ARR.ael hw.2.2.1 e7 m_v_12; rw [show Int32.toNatClampNeg v_7 = 174 + 4 * Int32.toNatClampNeg p1 from (by have k1 := r_v_7.cl (by decide); have k2 := r_p1.cl (by decide); omega)] at t9; rw [show Int32.toNatClampNeg v_11 = 176 + 4 * Int32.toNatClampNeg p1 from (by have k1 := r_v_11.cl (by decide); have k2 := r_p1.cl (by decide); omega)] at x9; exact RN_child2 q9 (r_p1.to (by decide)) t9 x9 (r_v_13.to (by decide))
      have r_v_12 : RI v_12 0 44 := ⟨g_v_12.1, by have k1 := r_p1.2; omega⟩
      refine lv_aload_n hx hb dX10_holds_124 rfl (lv_at hl 3 rfl) ?_
      refine lv_iload hx hb dX10_holds_125 (lv_at hl 1 rfl) ?_
      refine lv_iload_n hx hb dX10_holds_127 rfl (lv_at hl 5 rfl) ?_
      refine tk_ir (va_runV (As := [.int v_10, .int p2]) (rest := []) ⟨hx, hb, hml, hown, hts⟩ (c_X10_holds__15 l D cy z s.heap.size Ps w0 hw.1 p0 v_10 p2 h_p0 r_v_10 r_p2) (cwV 2 hts (gV tw_1787 tw_1789 ts_119 tw_15 tw_1790) rfl rfl rfl (by decide +kernel) ⟨Nat.le_of_ble_eq_true rfl, Nat.le_of_ble_eq_true rfl⟩) (tg_preV hw hK hSD hA (ci := 10) (q := (RX10, TX10, 49)) rfl h_p0 rfl) rfl rfl hl.1 rfl (lv_room (Nat.le_of_ble_eq_true rfl)) dX10_holds_128 ⟨Nat.le_of_ble_eq_true rfl, Nat.le_of_ble_eq_true rfl⟩) hw hA (fun v_15  H locs hp_v_15 hw => ?_)
      have r_v_15 : RI v_15 0 1 := hp_v_15.1
      refine lv_if_eq (tgt := 148) hx hb dX10_holds_131 (by decide) (fun c_131 => ?_) (fun c_131 => ?_)
      · have r_v_15 : RI v_15 0 0 := rc_eq1 r_v_15 rl_0 (ti_eq c_131) (by decide)
        refine lv_iconst (v := 0) hx hb dX10_holds_148 (by decide) ?_
        subst hQ
        exact W.zret (v := 0) hx hb hr (rfl) (fun t ht hW => ⟨⟨0, (), rfl, ⟨rl_0.to (by decide), (fun h0 => trivial), (fun _ => trivial)⟩, by rw [ht]; exact hw.2.1, va_K.moved hW.alike hK, hw.2.2.1⟩, hw.2.2.2.1.F ht⟩) hw.2.2.2.1.2.2 dX10_holds_149
      · have r_v_15 : RI v_15 1 1 := rc_neL r_v_15 rl_0 (ti_ne c_131) (by decide)
        refine lv_aload_n hx hb dX10_holds_134 rfl (lv_at hl 3 rfl) ?_
        refine lv_iload hx hb dX10_holds_135 (lv_at hl 0 rfl) ?_
        refine lv_iload_n hx hb dX10_holds_137 rfl (lv_at hl 5 rfl) ?_
        refine tk_ir (va_runV (As := [.int v_12, .int p2]) (rest := []) ⟨hx, hb, hml, hown, hts⟩ (c_X10_holds__15 l D cy z H.size Ps w0 hw.1 p0 v_12 p2 h_p0 r_v_12 r_p2) (cwV 2 hts (gV tw_1787 tw_1789 ts_119 tw_15 tw_1790) rfl rfl rfl (by decide +kernel) ⟨Nat.le_of_ble_eq_true rfl, Nat.le_of_ble_eq_true rfl⟩) (tg_preV hw hK hSD hA (ci := 10) (q := (RX10, TX10, 49)) rfl h_p0 rfl) rfl rfl hl.1 rfl (lv_room (Nat.le_of_ble_eq_true rfl)) dX10_holds_138 ⟨Nat.le_of_ble_eq_true rfl, Nat.le_of_ble_eq_true rfl⟩) hw hA (fun v_16  H locs hp_v_16 hw => ?_)
        have r_v_16 : RI v_16 0 1 := hp_v_16.1
        refine lv_if_eq (tgt := 148) hx hb dX10_holds_141 (by decide) (fun c_141 => ?_) (fun c_141 => ?_)
        · have r_v_16 : RI v_16 0 0 := rc_eq1 r_v_16 rl_0 (ti_eq c_141) (by decide)
          refine lv_iconst (v := 0) hx hb dX10_holds_148 (by decide) ?_
          subst hQ
          exact W.zret (v := 0) hx hb hr (rfl) (fun t ht hW => ⟨⟨0, (), rfl, ⟨rl_0.to (by decide), (fun h0 => trivial), (fun _ => trivial)⟩, by rw [ht]; exact hw.2.1, va_K.moved hW.alike hK, hw.2.2.1⟩, hw.2.2.2.1.F ht⟩) hw.2.2.2.1.2.2 dX10_holds_149
        · have r_v_16 : RI v_16 1 1 := rc_neL r_v_16 rl_0 (ti_ne c_141) (by decide)
          refine lv_iconst (v := 1) hx hb dX10_holds_144 (by decide) ?_
          refine lv_goto (tgt := 149) hx hb dX10_holds_145 (by decide) ?_
          subst hQ
          exact W.zret (v := 1) hx hb hr (rfl) (fun t ht hW => ⟨⟨1, (), rfl, ⟨rl_1.to (by decide), (fun _ => trivial), (fun h0 => trivial)⟩, by rw [ht]; exact hw.2.1, va_K.moved hW.alike hK, hw.2.2.1⟩, hw.2.2.2.1.F ht⟩) hw.2.2.2.1.2.2 dX10_holds_149
    · by_cases k_34_3 : v_13 = 3
      · refine lv_lookup (tgt := 150) (off := 116) hx hb dX10_holds_34 (by decide) (by rw [k_34_3]; decide) (by decide) ?_
        have r_v_13 : RI v_13 3 3 := by rw [k_34_3]; exact rl_3
        have g_v_10 : 0 ≤ v_10.toInt ∧ v_10.toInt < p1.toInt := by obtain ⟨_, f9, e8, e7, q9, _⟩ := ax_of (k := 14) (t := 34) hw h_p0 rfl (fun _ => rfl); cases FLD.inj hw.2.2.1 e8 m_u_8; have t9 := ARR.ael hw.2.2.1 e7 m_v_13; have x9 := ARR.ael hw.2.2.1 e7 m_v_10; rw [show Int32.toNatClampNeg v_7 = 174 + 4 * Int32.toNatClampNeg p1 from (by have k1 := r_v_7.cl (by decide); have k2 := r_p1.cl (by decide); omega)] at t9; rw [show Int32.toNatClampNeg v_9 = 175 + 4 * Int32.toNatClampNeg p1 from (by have k1 := r_v_9.cl (by decide); have k2 := r_p1.cl (by decide); omega)] at x9; exact RN_child q9 (r_p1.to (by decide)) t9 x9 (r_v_13.to (by decide))
        have r_v_10 : RI v_10 0 44 := ⟨g_v_10.1, by have k1 := r_p1.2; omega⟩
        have g_v_12 : 0 ≤ v_12.toInt ∧ v_12.toInt < p1.toInt := by obtain ⟨_, f9, e8, e7, q9, _⟩ := ax_of (k := 14) (t := 34) hw h_p0 rfl (fun _ => rfl); cases FLD.inj hw.2.2.1 e8 m_u_8; have t9 := ARR.ael hw.2.2.1 e7 m_v_13; have x9 := ARR.ael hw.2.2.1 e7 m_v_12; rw [show Int32.toNatClampNeg v_7 = 174 + 4 * Int32.toNatClampNeg p1 from (by have k1 := r_v_7.cl (by decide); have k2 := r_p1.cl (by decide); omega)] at t9; rw [show Int32.toNatClampNeg v_11 = 176 + 4 * Int32.toNatClampNeg p1 from (by have k1 := r_v_11.cl (by decide); have k2 := r_p1.cl (by decide); omega)] at x9; exact RN_child2 q9 (r_p1.to (by decide)) t9 x9 (r_v_13.to (by decide))
        have r_v_12 : RI v_12 0 44 := ⟨g_v_12.1, by have k1 := r_p1.2; omega⟩
        refine lv_aload_n hx hb dX10_holds_150 rfl (lv_at hl 3 rfl) ?_
        refine lv_iload hx hb dX10_holds_151 (lv_at hl 1 rfl) ?_
        refine lv_iload_n hx hb dX10_holds_153 rfl (lv_at hl 5 rfl) ?_
        refine tk_ir (va_runV (As := [.int v_10, .int p2]) (rest := []) ⟨hx, hb, hml, hown, hts⟩ (c_X10_holds__15 l D cy z s.heap.size Ps w0 hw.1 p0 v_10 p2 h_p0 r_v_10 r_p2) (cwV 2 hts (gV tw_1787 tw_1789 ts_119 tw_15 tw_1790) rfl rfl rfl (by decide +kernel) ⟨Nat.le_of_ble_eq_true rfl, Nat.le_of_ble_eq_true rfl⟩) (tg_preV hw hK hSD hA (ci := 10) (q := (RX10, TX10, 49)) rfl h_p0 rfl) rfl rfl hl.1 rfl (lv_room (Nat.le_of_ble_eq_true rfl)) dX10_holds_154 ⟨Nat.le_of_ble_eq_true rfl, Nat.le_of_ble_eq_true rfl⟩) hw hA (fun v_17  H locs hp_v_17 hw => ?_)
        have r_v_17 : RI v_17 0 1 := hp_v_17.1
        refine lv_if_ne (tgt := 170) hx hb dX10_holds_157 (by decide) (fun c_157 => ?_) (fun c_157 => ?_)
        · have r_v_17 : RI v_17 1 1 := rc_neL r_v_17 rl_0 (ti_ne c_157) (by decide)
          refine lv_iconst (v := 1) hx hb dX10_holds_170 (by decide) ?_
          refine lv_goto (tgt := 175) hx hb dX10_holds_171 (by decide) ?_
          subst hQ
          exact W.zret (v := 1) hx hb hr (rfl) (fun t ht hW => ⟨⟨1, (), rfl, ⟨rl_1.to (by decide), (fun _ => trivial), (fun h0 => trivial)⟩, by rw [ht]; exact hw.2.1, va_K.moved hW.alike hK, hw.2.2.1⟩, hw.2.2.2.1.F ht⟩) hw.2.2.2.1.2.2 dX10_holds_175
        · have r_v_17 : RI v_17 0 0 := rc_eq1 r_v_17 rl_0 (ti_eq c_157) (by decide)
          refine lv_aload_n hx hb dX10_holds_160 rfl (lv_at hl 3 rfl) ?_
          refine lv_iload hx hb dX10_holds_161 (lv_at hl 0 rfl) ?_
          refine lv_iload_n hx hb dX10_holds_163 rfl (lv_at hl 5 rfl) ?_
          refine tk_ir (va_runV (As := [.int v_12, .int p2]) (rest := []) ⟨hx, hb, hml, hown, hts⟩ (c_X10_holds__15 l D cy z H.size Ps w0 hw.1 p0 v_12 p2 h_p0 r_v_12 r_p2) (cwV 2 hts (gV tw_1787 tw_1789 ts_119 tw_15 tw_1790) rfl rfl rfl (by decide +kernel) ⟨Nat.le_of_ble_eq_true rfl, Nat.le_of_ble_eq_true rfl⟩) (tg_preV hw hK hSD hA (ci := 10) (q := (RX10, TX10, 49)) rfl h_p0 rfl) rfl rfl hl.1 rfl (lv_room (Nat.le_of_ble_eq_true rfl)) dX10_holds_164 ⟨Nat.le_of_ble_eq_true rfl, Nat.le_of_ble_eq_true rfl⟩) hw hA (fun v_18  H locs hp_v_18 hw => ?_)
          have r_v_18 : RI v_18 0 1 := hp_v_18.1
          refine lv_if_eq (tgt := 174) hx hb dX10_holds_167 (by decide) (fun c_167 => ?_) (fun c_167 => ?_)
          · have r_v_18 : RI v_18 0 0 := rc_eq1 r_v_18 rl_0 (ti_eq c_167) (by decide)
            refine lv_iconst (v := 0) hx hb dX10_holds_174 (by decide) ?_
            subst hQ
            exact W.zret (v := 0) hx hb hr (rfl) (fun t ht hW => ⟨⟨0, (), rfl, ⟨rl_0.to (by decide), (fun h0 => trivial), (fun _ => trivial)⟩, by rw [ht]; exact hw.2.1, va_K.moved hW.alike hK, hw.2.2.1⟩, hw.2.2.2.1.F ht⟩) hw.2.2.2.1.2.2 dX10_holds_175
          · have r_v_18 : RI v_18 1 1 := rc_neL r_v_18 rl_0 (ti_ne c_167) (by decide)
            refine lv_iconst (v := 1) hx hb dX10_holds_170 (by decide) ?_
            refine lv_goto (tgt := 175) hx hb dX10_holds_171 (by decide) ?_
            subst hQ
            exact W.zret (v := 1) hx hb hr (rfl) (fun t ht hW => ⟨⟨1, (), rfl, ⟨rl_1.to (by decide), (fun _ => trivial), (fun h0 => trivial)⟩, by rw [ht]; exact hw.2.1, va_K.moved hW.alike hK, hw.2.2.1⟩, hw.2.2.2.1.F ht⟩) hw.2.2.2.1.2.2 dX10_holds_175
      · by_cases k_34_69 : v_13 = 69
        · refine lv_lookup (tgt := 176) (off := 142) hx hb dX10_holds_34 (by decide) (by rw [k_34_69]; decide) (by decide) ?_
          have r_v_13 : RI v_13 69 69 := by rw [k_34_69]; exact rl_69
          refine lv_aload_n hx hb dX10_holds_176 rfl (lv_at hl 3 rfl) ?_
          refine lv_iload_n hx hb dX10_holds_177 rfl (lv_at hl 5 rfl) ?_
          refine tk_ir (va_runV (As := [.int p2]) (rest := []) ⟨hx, hb, hml, hown, hts⟩ (c_X10_isOpen l D cy z s.heap.size Ps w0 hw.1 p0 p2 h_p0 (r_p2.to (by decide))) (cwV 1 hts (gV tw_1457 tw_1459 ts_71 tw_15 tw_1460) rfl rfl rfl (by decide +kernel) ⟨Nat.le_of_ble_eq_true rfl, Nat.le_of_ble_eq_true rfl⟩) (tg_preV hw hK hSD hA (ci := 10) (q := (RX10, TX10, 49)) rfl h_p0 rfl) rfl rfl hl.1 rfl (lv_room (Nat.le_of_ble_eq_true rfl)) dX10_holds_178 ⟨Nat.le_of_ble_eq_true rfl, Nat.le_of_ble_eq_true rfl⟩) hw hA (fun v_19  H locs hp_v_19 hw => ?_)
          have r_v_19 : RI v_19 0 1 := hp_v_19.1
          subst hQ
          exact W.zret (v := v_19) hx hb hr (tq_nz (r_v_19.to (by decide))) (fun t ht hW => ⟨⟨v_19, (), rfl, ⟨r_v_19.to (by decide), (fun h0 => trivial), (fun h0 => trivial)⟩, by rw [ht]; exact hw.2.1, va_K.moved hW.alike hK, hw.2.2.1⟩, hw.2.2.2.1.F ht⟩) hw.2.2.2.1.2.2 dX10_holds_181
        · by_cases k_34_70 : v_13 = 70
          · refine lv_lookup (tgt := 182) (off := 148) hx hb dX10_holds_34 (by decide) (by rw [k_34_70]; decide) (by decide) ?_
            have r_v_13 : RI v_13 70 70 := by rw [k_34_70]; exact rl_70
            refine lv_aload_n hx hb dX10_holds_182 rfl (lv_at hl 3 rfl) ?_
            refine lv_iload_n hx hb dX10_holds_183 rfl (lv_at hl 5 rfl) ?_
            refine tk_ir (va_runV (As := [.int p2]) (rest := []) ⟨hx, hb, hml, hown, hts⟩ (c_X10_whatIs l D cy z s.heap.size Ps w0 hw.1 p0 p2 h_p0 r_p2) (cwV 1 hts (gV tw_1449 tw_1451 ts_69 tw_15 tw_1452) rfl rfl rfl (by decide +kernel) ⟨Nat.le_of_ble_eq_true rfl, Nat.le_of_ble_eq_true rfl⟩) (tg_preV hw hK hSD hA (ci := 10) (q := (RX10, TX10, 49)) rfl h_p0 rfl) rfl rfl hl.1 rfl (lv_room (Nat.le_of_ble_eq_true rfl)) dX10_holds_184 ⟨Nat.le_of_ble_eq_true rfl, Nat.le_of_ble_eq_true rfl⟩) hw hA (fun v_20  H locs hp_v_20 hw => ?_)
            have r_v_20 : RI v_20 (-1) 5 := hp_v_20.1
            by_cases c9_v_20 : v_20.toInt < 0
            · have r_v_20 : RI v_20 (-1) (-1) := by unfold RI at r_v_20 ⊢; omega
              have x_NB_p0_p2 := (hp_v_20.2.2.2.2.1 (by omega)).1
              refine lv_iconst (v := (-1)) hx hb dX10_holds_187 (by decide) ?_
              refine lv_icmp_ne (tgt := 195) hx hb dX10_holds_188 (by decide) (fun c_188 => ?_) (fun c_188 => ?_)
              · exact absurd (r_v_20.eq.trans rl_m1.eq.symm) ((ti_ne c_188))
              · refine lv_iconst (v := 1) hx hb dX10_holds_191 (by decide) ?_
                refine lv_goto (tgt := 196) hx hb dX10_holds_192 (by decide) ?_
                subst hQ
                exact W.zret (v := 1) hx hb hr (rfl) (fun t ht hW => ⟨⟨1, (), rfl, ⟨rl_1.to (by decide), (fun _ => trivial), (fun h0 => trivial)⟩, by rw [ht]; exact hw.2.1, va_K.moved hW.alike hK, hw.2.2.1⟩, hw.2.2.2.1.F ht⟩) hw.2.2.2.1.2.2 dX10_holds_196
            · have r_v_20 : RI v_20 0 5 := by unfold RI at r_v_20 ⊢; omega
              have x_WB_p0_p2_v_20 := (hp_v_20.2.2.2.2.2 (by omega)).1
              refine lv_iconst (v := (-1)) hx hb dX10_holds_187 (by decide) ?_
              refine lv_icmp_ne (tgt := 195) hx hb dX10_holds_188 (by decide) (fun c_188 => ?_) (fun c_188 => ?_)
              · refine lv_iconst (v := 0) hx hb dX10_holds_195 (by decide) ?_
                subst hQ
                exact W.zret (v := 0) hx hb hr (rfl) (fun t ht hW => ⟨⟨0, (), rfl, ⟨rl_0.to (by decide), (fun h0 => trivial), (fun _ => trivial)⟩, by rw [ht]; exact hw.2.1, va_K.moved hW.alike hK, hw.2.2.1⟩, hw.2.2.2.1.F ht⟩) hw.2.2.2.1.2.2 dX10_holds_196
              · have r_v_20 : RI v_20 0 (-1) := rc_eq1 r_v_20 rl_m1 (ti_eq c_188) (by decide)
                exact (r_v_20.no (by decide)).elim
          · by_cases k_34_71 : v_13 = 71
            · refine lv_lookup (tgt := 197) (off := 163) hx hb dX10_holds_34 (by decide) (by rw [k_34_71]; decide) (by decide) ?_
              have r_v_13 : RI v_13 71 71 := by rw [k_34_71]; exact rl_71
              refine lv_aload_n hx hb dX10_holds_197 rfl (lv_at hl 3 rfl) ?_
              refine lv_iload_n hx hb dX10_holds_198 rfl (lv_at hl 5 rfl) ?_
              refine tk_ir (va_runV (As := [.int p2]) (rest := []) ⟨hx, hb, hml, hown, hts⟩ (c_X10_sittersOf l D cy z s.heap.size Ps w0 hw.1 p0 p2 h_p0 (r_p2.to (by decide))) (cwV 1 hts (gV tw_1461 tw_1463 ts_72 tw_15 tw_1464) rfl rfl rfl (by decide +kernel) ⟨Nat.le_of_ble_eq_true rfl, Nat.le_of_ble_eq_true rfl⟩) (tg_preV hw hK hSD hA (ci := 10) (q := (RX10, TX10, 49)) rfl h_p0 rfl) rfl rfl hl.1 rfl (lv_room (Nat.le_of_ble_eq_true rfl)) dX10_holds_199 ⟨Nat.le_of_ble_eq_true rfl, Nat.le_of_ble_eq_true rfl⟩) hw hA (fun v_21  H locs hp_v_21 hw => ?_)
              have r_v_21 : RI v_21 (-2147483648) 2147483647 := hp_v_21.1
              refine lv_if_eq (tgt := 209) hx hb dX10_holds_202 (by decide) (fun c_202 => ?_) (fun c_202 => ?_)
              · have r_v_21 : RI v_21 0 0 := rc_eq1 r_v_21 rl_0 (ti_eq c_202) (by decide)
                refine lv_iconst (v := 0) hx hb dX10_holds_209 (by decide) ?_
                subst hQ
                exact W.zret (v := 0) hx hb hr (rfl) (fun t ht hW => ⟨⟨0, (), rfl, ⟨rl_0.to (by decide), (fun h0 => trivial), (fun _ => trivial)⟩, by rw [ht]; exact hw.2.1, va_K.moved hW.alike hK, hw.2.2.1⟩, hw.2.2.2.1.F ht⟩) hw.2.2.2.1.2.2 dX10_holds_210
              · refine lv_iconst (v := 1) hx hb dX10_holds_205 (by decide) ?_
                refine lv_goto (tgt := 210) hx hb dX10_holds_206 (by decide) ?_
                subst hQ
                exact W.zret (v := 1) hx hb hr (rfl) (fun t ht hW => ⟨⟨1, (), rfl, ⟨rl_1.to (by decide), (fun _ => trivial), (fun h0 => trivial)⟩, by rw [ht]; exact hw.2.1, va_K.moved hW.alike hK, hw.2.2.1⟩, hw.2.2.2.1.F ht⟩) hw.2.2.2.1.2.2 dX10_holds_210
            · by_cases k_34_72 : v_13 = 72
              · refine lv_lookup (tgt := 211) (off := 177) hx hb dX10_holds_34 (by decide) (by rw [k_34_72]; decide) (by decide) ?_
                have r_v_13 : RI v_13 72 72 := by rw [k_34_72]; exact rl_72
                refine lv_aload_n hx hb dX10_holds_211 rfl (lv_at hl 3 rfl) ?_
                refine lv_iload_n hx hb dX10_holds_212 rfl (lv_at hl 5 rfl) ?_
                refine tk_ir (va_runV (As := [.int p2]) (rest := []) ⟨hx, hb, hml, hown, hts⟩ (c_X10_whatIs l D cy z s.heap.size Ps w0 hw.1 p0 p2 h_p0 r_p2) (cwV 1 hts (gV tw_1449 tw_1451 ts_69 tw_15 tw_1452) rfl rfl rfl (by decide +kernel) ⟨Nat.le_of_ble_eq_true rfl, Nat.le_of_ble_eq_true rfl⟩) (tg_preV hw hK hSD hA (ci := 10) (q := (RX10, TX10, 49)) rfl h_p0 rfl) rfl rfl hl.1 rfl (lv_room (Nat.le_of_ble_eq_true rfl)) dX10_holds_213 ⟨Nat.le_of_ble_eq_true rfl, Nat.le_of_ble_eq_true rfl⟩) hw hA (fun v_22  H locs hp_v_22 hw => ?_)
                have r_v_22 : RI v_22 (-1) 5 := hp_v_22.1
                by_cases c9_v_22 : v_22.toInt < 0
                · have r_v_22 : RI v_22 (-1) (-1) := by unfold RI at r_v_22 ⊢; omega
                  have x_NB_p0_p2 := (hp_v_22.2.2.2.2.1 (by omega)).1
                  refine lv_iload hx hb dX10_holds_216 (lv_at hl 1 rfl) ?_
                  refine lv_icmp_ne (tgt := 225) hx hb dX10_holds_218 (by decide) (fun c_218 => ?_) (fun c_218 => ?_)
                  · refine lv_iconst (v := 0) hx hb dX10_holds_225 (by decide) ?_
                    subst hQ
                    exact W.zret (v := 0) hx hb hr (rfl) (fun t ht hW => ⟨⟨0, (), rfl, ⟨rl_0.to (by decide), (fun h0 => trivial), (fun _ => trivial)⟩, by rw [ht]; exact hw.2.1, va_K.moved hW.alike hK, hw.2.2.1⟩, hw.2.2.2.1.F ht⟩) hw.2.2.2.1.2.2 dX10_holds_226
                  · have r_v_10 : RI v_10 (-1) (-1) := rc_eq2 r_v_22 r_v_10 (ti_eq c_218) (by decide)
                    refine lv_iconst (v := 1) hx hb dX10_holds_221 (by decide) ?_
                    refine lv_goto (tgt := 226) hx hb dX10_holds_222 (by decide) ?_
                    subst hQ
                    exact W.zret (v := 1) hx hb hr (rfl) (fun t ht hW => ⟨⟨1, (), rfl, ⟨rl_1.to (by decide), (fun _ => trivial), (fun h0 => trivial)⟩, by rw [ht]; exact hw.2.1, va_K.moved hW.alike hK, hw.2.2.1⟩, hw.2.2.2.1.F ht⟩) hw.2.2.2.1.2.2 dX10_holds_226
                · have r_v_22 : RI v_22 0 5 := by unfold RI at r_v_22 ⊢; omega
                  have x_WB_p0_p2_v_22 := (hp_v_22.2.2.2.2.2 (by omega)).1
                  refine lv_iload hx hb dX10_holds_216 (lv_at hl 1 rfl) ?_
                  refine lv_icmp_ne (tgt := 225) hx hb dX10_holds_218 (by decide) (fun c_218 => ?_) (fun c_218 => ?_)
                  · refine lv_iconst (v := 0) hx hb dX10_holds_225 (by decide) ?_
                    subst hQ
                    exact W.zret (v := 0) hx hb hr (rfl) (fun t ht hW => ⟨⟨0, (), rfl, ⟨rl_0.to (by decide), (fun h0 => trivial), (fun _ => trivial)⟩, by rw [ht]; exact hw.2.1, va_K.moved hW.alike hK, hw.2.2.1⟩, hw.2.2.2.1.F ht⟩) hw.2.2.2.1.2.2 dX10_holds_226
                  · have r_v_10 : RI v_10 0 5 := rc_eq2 r_v_22 r_v_10 (ti_eq c_218) (by decide)
                    refine lv_iconst (v := 1) hx hb dX10_holds_221 (by decide) ?_
                    refine lv_goto (tgt := 226) hx hb dX10_holds_222 (by decide) ?_
                    subst hQ
                    exact W.zret (v := 1) hx hb hr (rfl) (fun t ht hW => ⟨⟨1, (), rfl, ⟨rl_1.to (by decide), (fun _ => trivial), (fun h0 => trivial)⟩, by rw [ht]; exact hw.2.1, va_K.moved hW.alike hK, hw.2.2.1⟩, hw.2.2.2.1.F ht⟩) hw.2.2.2.1.2.2 dX10_holds_226
              · by_cases k_34_73 : v_13 = 73
                · refine lv_lookup (tgt := 227) (off := 193) hx hb dX10_holds_34 (by decide) (by rw [k_34_73]; decide) (by decide) ?_
                  have r_v_13 : RI v_13 73 73 := by rw [k_34_73]; exact rl_73
                  refine lv_aload_n hx hb dX10_holds_227 rfl (lv_at hl 3 rfl) ?_
                  refine tg_mem (ci := 10) (C := RX10) (T := TX10) (N := 49) hx hb hts inX10 hown hK hw 14 m_u_8 rfl (by decide) (hts _ tw_1151) (fun _ h9 => h9) dX10_holds_228 ?_
                  refine lv_bipush (v := 86) hx hb dX10_holds_231 (by decide) ?_
                  refine lv_iload_n hx hb dX10_holds_233 rfl (lv_at hl 5 rfl) ?_
                  refine lv_iadd hx hb dX10_holds_234 (lv_topi (fun v_23 e_v_23 => ?_))
                  obtain ⟨t_v_23, r_v_23⟩ := tq_add (lo := 86) (hi := 91) rl_86 r_p2 (by decide +kernel) e_v_23
                  have t_v_23 : v_23.toInt = 86 + p2.toInt := t_v_23
                  refine tg_iald (lo := (-2147483648)) (hi := 2147483647) hx hb hK hw h_vu_8 rfl 86 91 r_v_23 (by decide) (by decide +kernel) dX10_holds_235 (fun v_24 r_v_24 m_v_24 o_v_24 => ?_)
                  refine lv_iload hx hb dX10_holds_236 (lv_at hl 1 rfl) ?_
                  refine lv_icmp_ne (tgt := 245) hx hb dX10_holds_238 (by decide) (fun c_238 => ?_) (fun c_238 => ?_)
                  · refine lv_iconst (v := 0) hx hb dX10_holds_245 (by decide) ?_
                    subst hQ
                    exact W.zret (v := 0) hx hb hr (rfl) (fun t ht hW => ⟨⟨0, (), rfl, ⟨rl_0.to (by decide), (fun h0 => trivial), (fun _ => trivial)⟩, by rw [ht]; exact hw.2.1, va_K.moved hW.alike hK, hw.2.2.1⟩, hw.2.2.2.1.F ht⟩) hw.2.2.2.1.2.2 dX10_holds_246
                  · refine lv_iconst (v := 1) hx hb dX10_holds_241 (by decide) ?_
                    refine lv_goto (tgt := 246) hx hb dX10_holds_242 (by decide) ?_
                    subst hQ
                    exact W.zret (v := 1) hx hb hr (rfl) (fun t ht hW => ⟨⟨1, (), rfl, ⟨rl_1.to (by decide), (fun _ => trivial), (fun h0 => trivial)⟩, by rw [ht]; exact hw.2.1, va_K.moved hW.alike hK, hw.2.2.1⟩, hw.2.2.2.1.F ht⟩) hw.2.2.2.1.2.2 dX10_holds_246
                · refine lv_lookup (tgt := 247) (off := 213) hx hb dX10_holds_34 (by decide) ((lv_osw k_34_1 (by decide)).trans ((lv_osw k_34_2 (by decide)).trans ((lv_osw k_34_3 (by decide)).trans ((lv_osw k_34_69 (by decide)).trans ((lv_osw k_34_70 (by decide)).trans ((lv_osw k_34_71 (by decide)).trans ((lv_osw k_34_72 (by decide)).trans ((lv_osw k_34_73 (by decide)).trans (rfl))))))))) (by decide) ?_
                  refine lv_aload_n hx hb dX10_holds_247 rfl (lv_at hl 3 rfl) ?_
                  refine tg_mem (ci := 10) (C := RX10) (T := TX10) (N := 49) hx hb hts inX10 hown hK hw 14 m_u_8 rfl (by decide) (hts _ tw_1151) (fun _ h9 => h9) dX10_holds_248 ?_
                  refine lv_iload_n hx hb dX10_holds_251 rfl (lv_at hl 2 rfl) ?_
                  refine tg_imem hx hb hK hw h_vu_8 rfl r_v_7 (by decide) m_v_13 dX10_holds_252 ?_
                  refine lv_bipush (v := 50) hx hb dX10_holds_253 (by decide) ?_
                  refine lv_isub hx hb dX10_holds_255 (lv_topi (fun v_26 e_v_26 => ?_))
                  have r_v_26 := ri_any v_26
                  refine lv_istore (lv' := [(6, .int v_26), (5, .int v_12), (4, .int v_10), (3, .int v_7), (0, .ref p0), (1, .int p1), (2, .int p2)]) hx hb dX10_holds_256 hl (by decide) rfl (fun ls hl => ?_)
                  refine lv_iload hx hb dX10_holds_258 (lv_at hl 0 rfl) ?_
                  refine lv_bipush (v := 24) hx hb dX10_holds_260 (by decide) ?_
                  refine lv_icmp_ne (tgt := 273) hx hb dX10_holds_262 (by decide) (fun c_262 => ?_) (fun c_262 => ?_)
                  · refine lv_iload hx hb dX10_holds_273 (lv_at hl 0 rfl) ?_
                    refine lv_bipush (v := 25) hx hb dX10_holds_275 (by decide) ?_
                    refine lv_icmp_ne (tgt := 292) hx hb dX10_holds_277 (by decide) (fun c_277 => ?_) (fun c_277 => ?_)
                    · refine lv_iload hx hb dX10_holds_292 (lv_at hl 0 rfl) ?_
                      refine lv_bipush (v := 26) hx hb dX10_holds_294 (by decide) ?_
                      refine lv_icmp_ne (tgt := 311) hx hb dX10_holds_296 (by decide) (fun c_296 => ?_) (fun c_296 => ?_)
                      · refine lv_iload_n hx hb dX10_holds_311 rfl (lv_at hl 6 rfl) ?_
                        exact B312 v_7 v_10 v_12 v_26 p2 _ _ ls r_p1 r_p2 r_v_7 r_v_10 r_v_12 r_v_26 (r_p2.to (by decide)) hw (lv_sub hl [4, 5, 6, 3, 2, 1, 0] rfl)
                      · have r_v_26 : RI v_26 26 26 := rc_eq1 r_v_26 rl_26 (ti_eq c_296) (by decide)
                        refine lv_aload_n hx hb dX10_holds_299 rfl (lv_at hl 4 rfl) ?_
                        refine tg_mem (ci := 10) (C := RX10) (T := TX10) (N := 49) hx hb hts inX10 hown hK hw 14 m_u_8 rfl (by decide) (hts _ tw_1151) (fun _ h9 => h9) dX10_holds_300 ?_
                        refine lv_bipush (v := 98) hx hb dX10_holds_303 (by decide) ?_
                        refine lv_iload_n hx hb dX10_holds_305 rfl (lv_at hl 6 rfl) ?_
                        refine lv_iadd hx hb dX10_holds_306 (lv_topi (fun v_27 e_v_27 => ?_))
                        obtain ⟨t_v_27, r_v_27⟩ := tq_add (lo := 98) (hi := 103) rl_98 r_p2 (by decide +kernel) e_v_27
                        have t_v_27 : v_27.toInt = 98 + p2.toInt := t_v_27
                        refine tg_iald (lo := (-2147483648)) (hi := 2147483647) hx hb hK hw h_vu_8 rfl 98 103 r_v_27 (by decide) (by decide +kernel) dX10_holds_307 (fun v_28 r_v_28 m_v_28 o_v_28 => ?_)
                        refine lv_goto (tgt := 312) hx hb dX10_holds_308 (by decide) ?_
                        exact B312 v_7 v_10 v_12 v_26 v_28 _ _ ls r_p1 r_p2 r_v_7 r_v_10 r_v_12 (r_v_26.to (by decide)) r_v_28 hw (lv_sub hl [4, 5, 6, 3, 2, 1, 0] rfl)
                    · have r_v_26 : RI v_26 25 25 := rc_eq1 r_v_26 rl_25 (ti_eq c_277) (by decide)
                      refine lv_aload_n hx hb dX10_holds_280 rfl (lv_at hl 4 rfl) ?_
                      refine tg_mem (ci := 10) (C := RX10) (T := TX10) (N := 49) hx hb hts inX10 hown hK hw 14 m_u_8 rfl (by decide) (hts _ tw_1151) (fun _ h9 => h9) dX10_holds_281 ?_
                      refine lv_bipush (v := 92) hx hb dX10_holds_284 (by decide) ?_
                      refine lv_iload_n hx hb dX10_holds_286 rfl (lv_at hl 6 rfl) ?_
                      refine lv_iadd hx hb dX10_holds_287 (lv_topi (fun v_29 e_v_29 => ?_))
                      obtain ⟨t_v_29, r_v_29⟩ := tq_add (lo := 92) (hi := 97) rl_92 r_p2 (by decide +kernel) e_v_29
                      have t_v_29 : v_29.toInt = 92 + p2.toInt := t_v_29
                      refine tg_iald (lo := (-2147483648)) (hi := 2147483647) hx hb hK hw h_vu_8 rfl 92 97 r_v_29 (by decide) (by decide +kernel) dX10_holds_288 (fun v_30 r_v_30 m_v_30 o_v_30 => ?_)
                      refine lv_goto (tgt := 312) hx hb dX10_holds_289 (by decide) ?_
                      exact B312 v_7 v_10 v_12 v_26 v_30 _ _ ls r_p1 r_p2 r_v_7 r_v_10 r_v_12 (r_v_26.to (by decide)) r_v_30 hw (lv_sub hl [4, 5, 6, 3, 2, 1, 0] rfl)
                  · have r_v_26 : RI v_26 24 24 := rc_eq1 r_v_26 rl_24 (ti_eq c_262) (by decide)
                    refine lv_aload_n hx hb dX10_holds_265 rfl (lv_at hl 4 rfl) ?_
                    refine lv_iload_n hx hb dX10_holds_266 rfl (lv_at hl 6 rfl) ?_
                    refine tk_ir (va_runV (As := [.int p2]) (rest := []) ⟨hx, hb, hml, hown, hts⟩ (c_X10_sizeOf l D cy z s.heap.size Ps w0 hw.1 p0 p2 h_p0 r_p2) (cwV 1 hts (gV tw_1453 tw_1455 ts_70 tw_15 tw_1456) rfl rfl rfl (by decide +kernel) ⟨Nat.le_of_ble_eq_true rfl, Nat.le_of_ble_eq_true rfl⟩) (tg_preV hw hK hSD hA (ci := 10) (q := (RX10, TX10, 49)) rfl h_p0 rfl) rfl rfl hl.1 rfl (lv_room (Nat.le_of_ble_eq_true rfl)) dX10_holds_267 ⟨Nat.le_of_ble_eq_true rfl, Nat.le_of_ble_eq_true rfl⟩) hw hA (fun v_31  H locs hp_v_31 hw => ?_)
                    have r_v_31 : RI v_31 (-2147483648) 2147483647 := hp_v_31.1
                    refine lv_goto (tgt := 312) hx hb dX10_holds_270 (by decide) ?_
                    exact B312 v_7 v_10 v_12 v_26 v_31 _ _ ls r_p1 r_p2 r_v_7 r_v_10 r_v_12 (r_v_26.to (by decide)) r_v_31 hw (lv_sub hl [4, 5, 6, 3, 2, 1, 0] rfl)
