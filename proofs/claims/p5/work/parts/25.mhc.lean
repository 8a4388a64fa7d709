abbrev wr_X10_holds__13 : List (Nat × Nat) := []
abbrev wa_X10_holds__13 : List Nat := []
set_option maxHeartbeats 4000000 in
set_option maxRecDepth 100000 in
theorem c_X10_holds__13 (l : Launch) (D : va_G) (cy : Nat → ClassId) (z : Nat → Nat) (sz : Nat) (Ps : PSI) (w0 : va_W) (hT : HT cy GG Ps w0) (p0 : Nat) (p1 : Int32) (p2 : Int32) (h_p0 : (p0, 55) ∈ Ps) (r_p1 : RI p1 0 46) (r_p2 : RI p2 0 5) : Met l yX10_holds (Cond.code yX10_holds cX10_holds 8 (some .boolean) :: gT) ({ frames := 49, cells := 0, slots := 0, locals := 9800 } : Room) (va_Pc [.ref p0, .int p1, .int p2] (PRE D cy z w0 sz)) (va_Qi (fun (r : Int32) (u : Unit) => RI r 0 1 ∧ (r = 0 → True) ∧ (¬ r = 0 → True)) (BB D cy (va_A w0 sz) (fun (u : Unit) => w0)) (va_A w0 sz)) 0 0 (va_A w0 sz) := by
  refine Met.ofW (cc := cX10_holds) (maxL := 8) (ret := (some .boolean)) (by decide) rfl ?_
  intro p e s m args below meth c s₁ B hml hv
  obtain ⟨rfl, hsz, hP, hK, hD0, hSD⟩ := hv
  have hx := B.exec
  have hb := B.bytes
  have hr := B.returns
  have hlocks := B.notSynchronized
  have hts : ∀ w ∈ gT, w.before _ s = true := fun w h => atoms_spec (ws := Cond.code yX10_holds cX10_holds 8 (some .boolean) :: gT) B.pre w (List.mem_cons_of_mem _ h)
  have hown : s.vm.findClass RX10 = some m.cls := findClass_of_methodNamed B.named
  subst hsz
  have hD := hD0.self (sz := s.heap.size)
  generalize hAe : va_A w0 s.heap.size = A at hD hSD ⊢
  have hA : ∀ q : Nat, s.heap.size ≤ q → A q := fun q h => by rw [← hAe]; exact Or.inr h
  have hl := lv_entry ([.ref p0, .int p1, .int p2]) (n := 8) (Nat.le_of_ble_eq_true rfl)
  rw [lg_entry_eq]
  generalize (lg_sl ([.ref p0, .int p1, .int p2]) ++ List.replicate (8 - (lg_sl ([.ref p0, .int p1, .int p2])).length) Slot.unset).toArray = ls at hl ⊢
  have hl : lv_has ls 8 [(0, .ref p0), (1, .int p1), (2, .int p2)] := hl
  refine nameQ (fun Q hQ => ?_)
  have hw : WD D cy GG A s wr_X10_holds__13 wa_X10_holds__13 Ps w0 Ps w0 s.heap [] := ⟨hT, hP, hD, va_S.rf, FR.rf, hT.1, [], (List.append_nil _).symm⟩
  have B312 : ∀ (x3 : Int32) (x4 : Int32) (x5 : Int32) (x6 : Int32) (y0 : Int32) (H : Heap) (locs : List Loc) (ls : Array Slot), RI p1 0 46 → RI p2 0 5 → RI x3 174 358 → RI x4 (-2147483648) 2147483647 → RI x5 (-2147483648) 2147483647 → RI x6 (-2147483648) 2147483647 → RI y0 (-2147483648) 2147483647 → WD D cy GG A s wr_X10_holds__13 wa_X10_holds__13 Ps w0 Ps w0 H locs → lv_has ls 8 [(0, .ref p0), (1, .int p1), (2, .int p2), (3, .int x3), (4, .int x4), (5, .int x5), (6, .int x6)] → W p l e (headSpec (Cond.code yX10_holds cX10_holds 8 (some .boolean) :: gT) ({ frames := 49, cells := 0, slots := 0, locals := 9800 } : Room)).room s m ([.ref p0, .int p1, .int p2] : List Value).toArray below meth c H locs 0 0 Q (F0 m 312 ls [.int y0]) := by
    intro x3 x4 x5 x6 y0 H locs ls r_p1 r_p2 r_x3 r_x4 r_x5 r_x6 r_y0 hw hl
    refine lv_istore (lv' := [(7, .int y0), (0, .ref p0), (1, .int p1), (2, .int p2), (3, .int x3), (4, .int x4), (5, .int x5), (6, .int x6)]) hx hb dX10_holds_312 hl (by decide) rfl (fun ls hl => ?_)
    refine lv_aload_n hx hb dX10_holds_314 rfl (lv_at hl 1 rfl) ?_
    refine tg_get (ci := 10) (ts := ty_MODEL) (C := RX10) (T := TX10) (N := 49) hx hb hts inX10 hown hK hw h_p0 rfl rfl 14 (by decide) (hts _ tw_1151) (fun _ h9 => h9) (ft := vR 34) rfl dX10_holds_315 (fun u_1 hv_u_1 m_u_1 => ?_)
    obtain ⟨vu_1, rfl, h_vu_1⟩ := hv_u_1
    refine lv_iload_n hx hb dX10_holds_318 rfl (lv_at hl 4 rfl) ?_
    refine lv_iconst (v := 3) hx hb dX10_holds_319 (by decide) ?_
    refine lv_iadd hx hb dX10_holds_320 (lv_topi (fun v_2 e_v_2 => ?_))
    obtain ⟨t_v_2, r_v_2⟩ := tq_add (lo := 177) (hi := 361) r_x3 rl_3 (by decide +kernel) e_v_2
    have t_v_2 : v_2.toInt = x3.toInt + 3 := t_v_2
    refine tg_iald (lo := (-2147483648)) (hi := 2147483647) hx hb hK hw h_vu_1 rfl 177 361 r_v_2 (by decide) (by decide +kernel) dX10_holds_321 (fun v_3 r_v_3 m_v_3 o_v_3 => ?_)
    refine lv_bipush (v := 60) hx hb dX10_holds_322 (by decide) ?_
    refine lv_icmp_ne (tgt := 342) hx hb dX10_holds_324 (by decide) (fun c_324 => ?_) (fun c_324 => ?_)
    · refine lv_aload_n hx hb dX10_holds_342 rfl (lv_at hl 1 rfl) ?_
      refine tg_mem (ci := 10) (C := RX10) (T := TX10) (N := 49) hx hb hts inX10 hown hK hw 14 m_u_1 rfl (by decide) (hts _ tw_1151) (fun _ h9 => h9) dX10_holds_343 ?_
      refine lv_iload_n hx hb dX10_holds_346 rfl (lv_at hl 4 rfl) ?_
      refine lv_iconst (v := 3) hx hb dX10_holds_347 (by decide) ?_
      refine lv_iadd hx hb dX10_holds_348 (lv_topi (fun v_4 e_v_4 => ?_))
      obtain ⟨t_v_4, r_v_4⟩ := tq_add (lo := 177) (hi := 361) r_x3 rl_3 (by decide +kernel) e_v_4
      have t_v_4 : v_4.toInt = x3.toInt + 3 := t_v_4
      refine tg_iald (lo := (-2147483648)) (hi := 2147483647) hx hb hK hw h_vu_1 rfl 177 361 r_v_4 (by decide) (by decide +kernel) dX10_holds_349 (fun v_5 r_v_5 m_v_5 o_v_5 => ?_)
      refine lv_bipush (v := 61) hx hb dX10_holds_350 (by decide) ?_
      refine lv_icmp_ne (tgt := 370) hx hb dX10_holds_352 (by decide) (fun c_352 => ?_) (fun c_352 => ?_)
      · refine lv_iload hx hb dX10_holds_370 (lv_at hl 0 rfl) ?_
        refine lv_iload hx hb dX10_holds_372 (lv_at hl 6 rfl) ?_
        refine lv_icmp_le (tgt := 381) hx hb dX10_holds_374 (by decide) (fun c_374 => ?_) (fun c_374 => ?_)
        · refine lv_iconst (v := 0) hx hb dX10_holds_381 (by decide) ?_
          subst hQ
          exact W.zret (v := 0) hx hb hr (rfl) (fun t ht hW => ⟨⟨0, (), rfl, ⟨rl_0.to (by decide), (fun h0 => trivial), (fun _ => trivial)⟩, by rw [ht]; exact hw.2.1, va_K.moved hW.alike hK, hw.2.2.1⟩, hw.2.2.2.1.F ht⟩) hw.2.2.2.1.2.2 dX10_holds_382
        · have r_x5 : RI x5 (-2147483648) 2147483646 := rc_lt1 r_x5 r_y0 (ti_nle c_374) (by decide)
          have r_y0 : RI y0 (-2147483647) 2147483647 := rc_lt2 r_x5 r_y0 (ti_nle c_374) (by decide)
          refine lv_iconst (v := 1) hx hb dX10_holds_377 (by decide) ?_
          refine lv_goto (tgt := 382) hx hb dX10_holds_378 (by decide) ?_
          subst hQ
          exact W.zret (v := 1) hx hb hr (rfl) (fun t ht hW => ⟨⟨1, (), rfl, ⟨rl_1.to (by decide), (fun _ => trivial), (fun h0 => trivial)⟩, by rw [ht]; exact hw.2.1, va_K.moved hW.alike hK, hw.2.2.1⟩, hw.2.2.2.1.F ht⟩) hw.2.2.2.1.2.2 dX10_holds_382
      · have r_v_5 : RI v_5 61 61 := rc_eq1 r_v_5 rl_61 (ti_eq c_352) (by decide)
        refine lv_iload hx hb dX10_holds_355 (lv_at hl 0 rfl) ?_
        refine lv_iload hx hb dX10_holds_357 (lv_at hl 6 rfl) ?_
        refine lv_icmp_ne (tgt := 366) hx hb dX10_holds_359 (by decide) (fun c_359 => ?_) (fun c_359 => ?_)
        · refine lv_iconst (v := 0) hx hb dX10_holds_366 (by decide) ?_
          refine lv_goto (tgt := 382) hx hb dX10_holds_367 (by decide) ?_
          subst hQ
          exact W.zret (v := 0) hx hb hr (rfl) (fun t ht hW => ⟨⟨0, (), rfl, ⟨rl_0.to (by decide), (fun h0 => trivial), (fun _ => trivial)⟩, by rw [ht]; exact hw.2.1, va_K.moved hW.alike hK, hw.2.2.1⟩, hw.2.2.2.1.F ht⟩) hw.2.2.2.1.2.2 dX10_holds_382
        · refine lv_iconst (v := 1) hx hb dX10_holds_362 (by decide) ?_
          refine lv_goto (tgt := 382) hx hb dX10_holds_363 (by decide) ?_
          subst hQ
          exact W.zret (v := 1) hx hb hr (rfl) (fun t ht hW => ⟨⟨1, (), rfl, ⟨rl_1.to (by decide), (fun _ => trivial), (fun h0 => trivial)⟩, by rw [ht]; exact hw.2.1, va_K.moved hW.alike hK, hw.2.2.1⟩, hw.2.2.2.1.F ht⟩) hw.2.2.2.1.2.2 dX10_holds_382
    · have r_v_3 : RI v_3 60 60 := rc_eq1 r_v_3 rl_60 (ti_eq c_324) (by decide)
      refine lv_iload hx hb dX10_holds_327 (lv_at hl 0 rfl) ?_
      refine lv_iload hx hb dX10_holds_329 (lv_at hl 6 rfl) ?_
      refine lv_icmp_ge (tgt := 338) hx hb dX10_holds_331 (by decide) (fun c_331 => ?_) (fun c_331 => ?_)
      · refine lv_iconst (v := 0) hx hb dX10_holds_338 (by decide) ?_
        refine lv_goto (tgt := 382) hx hb dX10_holds_339 (by decide) ?_
        subst hQ
        exact W.zret (v := 0) hx hb hr (rfl) (fun t ht hW => ⟨⟨0, (), rfl, ⟨rl_0.to (by decide), (fun h0 => trivial), (fun _ => trivial)⟩, by rw [ht]; exact hw.2.1, va_K.moved hW.alike hK, hw.2.2.1⟩, hw.2.2.2.1.F ht⟩) hw.2.2.2.1.2.2 dX10_holds_382
      · have r_y0 : RI y0 (-2147483648) 2147483646 := rc_lt1 r_y0 r_x5 (ti_nle c_331) (by decide)
        have r_x5 : RI x5 (-2147483647) 2147483647 := rc_lt2 r_y0 r_x5 (ti_nle c_331) (by decide)
        refine lv_iconst (v := 1) hx hb dX10_holds_334 (by decide) ?_
        refine lv_goto (tgt := 382) hx hb dX10_holds_335 (by decide) ?_
        subst hQ
        exact W.zret (v := 1) hx hb hr (rfl) (fun t ht hW => ⟨⟨1, (), rfl, ⟨rl_1.to (by decide), (fun _ => trivial), (fun h0 => trivial)⟩, by rw [ht]; exact hw.2.1, va_K.moved hW.alike hK, hw.2.2.1⟩, hw.2.2.2.1.F ht⟩) hw.2.2.2.1.2.2 dX10_holds_382
  refine lv_sipush (v := 174) hx hb dX10_holds_0 (by decide) ?_
  refine lv_iconst (v := 4) hx hb dX10_holds_3 (by decide) ?_
  refine lv_iload_n hx hb dX10_holds_4 rfl (lv_at hl 1 rfl) ?_
  refine lv_imul hx hb dX10_holds_5 (lv_topi (fun v_6 e_v_6 => ?_))
  obtain ⟨t_v_6, r_v_6⟩ := tq_mul (lo := 0) (hi := 184) rl_4 r_p1 (by decide +kernel) e_v_6
  have t_v_6 : v_6.toInt = 4 * p1.toInt := t_v_6
  refine lv_iadd hx hb dX10_holds_6 (lv_topi (fun v_7 e_v_7 => ?_))
  obtain ⟨t_v_7, r_v_7⟩ := tq_add (lo := 174) (hi := 358) rl_174 r_v_6 (by decide +kernel) e_v_7
  have t_v_7 : v_7.toInt = 174 + v_6.toInt := t_v_7
  refine lv_istore_n (lv' := [(3, .int v_7), (0, .ref p0), (1, .int p1), (2, .int p2)]) hx hb dX10_holds_7 rfl hl (by decide) rfl (fun ls hl => ?_)
  refine lv_aload_n hx hb dX10_holds_8 rfl (lv_at hl 1 rfl) ?_
  refine tg_get (ci := 10) (ts := ty_MODEL) (C := RX10) (T := TX10) (N := 49) hx hb hts inX10 hown hK hw h_p0 rfl rfl 14 (by decide) (hts _ tw_1151) (fun _ h9 => h9) (ft := vR 34) rfl dX10_holds_9 (fun u_8 hv_u_8 m_u_8 => ?_)
  obtain ⟨vu_8, rfl, h_vu_8⟩ := hv_u_8
  refine lv_iload_n hx hb dX10_holds_12 rfl (lv_at hl 0 rfl) ?_
  refine lv_iconst (v := 1) hx hb dX10_holds_13 (by decide) ?_
  refine lv_iadd hx hb dX10_holds_14 (lv_topi (fun v_9 e_v_9 => ?_))
  obtain ⟨t_v_9, r_v_9⟩ := tq_add (lo := 175) (hi := 359) r_v_7 rl_1 (by decide +kernel) e_v_9
  have t_v_9 : v_9.toInt = v_7.toInt + 1 := t_v_9
  refine tg_iald (lo := (-2147483648)) (hi := 2147483647) hx hb hK hw h_vu_8 rfl 175 359 r_v_9 (by decide) (by decide +kernel) dX10_holds_15 (fun v_10 r_v_10 m_v_10 o_v_10 => ?_)
  refine lv_istore (lv' := [(4, .int v_10), (3, .int v_7), (0, .ref p0), (1, .int p1), (2, .int p2)]) hx hb dX10_holds_16 hl (by decide) rfl (fun ls hl => ?_)
  refine lv_aload_n hx hb dX10_holds_18 rfl (lv_at hl 2 rfl) ?_
  refine tg_mem (ci := 10) (C := RX10) (T := TX10) (N := 49) hx hb hts inX10 hown hK hw 14 m_u_8 rfl (by decide) (hts _ tw_1151) (fun _ h9 => h9) dX10_holds_19 ?_
  refine lv_iload_n hx hb dX10_holds_22 rfl (lv_at hl 1 rfl) ?_
  refine lv_iconst (v := 2) hx hb dX10_holds_23 (by decide) ?_
  refine lv_iadd hx hb dX10_holds_24 (lv_topi (fun v_11 e_v_11 => ?_))
  obtain ⟨t_v_11, r_v_11⟩ := tq_add (lo := 176) (hi := 360) r_v_7 rl_2 (by decide +kernel) e_v_11
  have t_v_11 : v_11.toInt = v_7.toInt + 2 := t_v_11
  refine tg_iald (lo := (-2147483648)) (hi := 2147483647) hx hb hK hw h_vu_8 rfl 176 360 r_v_11 (by decide) (by decide +kernel) dX10_holds_25 (fun v_12 r_v_12 m_v_12 o_v_12 => ?_)
  refine lv_istore (lv' := [(5, .int v_12), (4, .int v_10), (3, .int v_7), (0, .ref p0), (1, .int p1), (2, .int p2)]) hx hb dX10_holds_26 hl (by decide) rfl (fun ls hl => ?_)
  refine lv_aload_n hx hb dX10_holds_28 rfl (lv_at hl 3 rfl) ?_
  refine tg_mem (ci := 10) (C := RX10) (T := TX10) (N := 49) hx hb hts inX10 hown hK hw 14 m_u_8 rfl (by decide) (hts _ tw_1151) (fun _ h9 => h9) dX10_holds_29 ?_
  refine lv_iload_n hx hb dX10_holds_32 rfl (lv_at hl 2 rfl) ?_
  refine tg_iald (lo := (-2147483648)) (hi := 2147483647) hx hb hK hw h_vu_8 rfl 174 358 r_v_7 (by decide) (by decide +kernel) dX10_holds_33 (fun v_13 r_v_13 m_v_13 o_v_13 => ?_)
  by_cases k_34_1 : v_13 = 1
  · refine lv_lookup (tgt := 108) (off := 74) hx hb dX10_holds_34 (by decide) (by rw [k_34_1]; decide) (by decide) ?_
    have r_v_13 : RI v_13 1 1 := by rw [k_34_1]; exact rl_1
    have g_v_10 : 0 ≤ v_10.toInt ∧ v_10.toInt < p1.toInt := by obtain ⟨_, f9, e8, e7, q9, _⟩ := ax_of (k := 14) (t := 34) hw h_p0 rfl (fun _ => rfl); cases FLD.inj hw.2.2.1 e8 m_u_8; have t9 := ARR.ael hw.2.2.1 e7 m_v_13; have x9 := ARR.ael hw.2.2.1 e7 m_v_10; rw [show Int32.toNatClampNeg v_7 = 174 + 4 * Int32.toNatClampNeg p1 from (by have k1 := r_v_7.cl (by decide); have k2 := r_p1.cl (by decide); omega)] at t9; rw [show Int32.toNatClampNeg v_9 = 175 + 4 * Int32.toNatClampNeg p1 from (by have k1 := r_v_9.cl (by decide); have k2 := r_p1.cl (by decide); omega)] at x9; exact RN_child q9 (r_p1.to (by decide)) t9 x9 (r_v_13.to (by decide))
    have r_v_10 : RI v_10 0 45 := ⟨g_v_10.1, by have k1 := r_p1.2; omega⟩
    refine lv_aload_n hx hb dX10_holds_108 rfl (lv_at hl 3 rfl) ?_
    refine lv_iload hx hb dX10_holds_109 (lv_at hl 1 rfl) ?_
    refine lv_iload_n hx hb dX10_holds_111 rfl (lv_at hl 5 rfl) ?_
    refine tk_ir (va_runV (As := [.int v_10, .int p2]) (rest := []) ⟨hx, hb, hml, hown, hts⟩ (c_X10_holds__14 l D cy z s.heap.size Ps w0 hw.1 p0 v_10 p2 h_p0 r_v_10 r_p2) (cwV 2 hts (gV tw_1787 tw_1789 ts_119 tw_15 tw_1790) rfl rfl rfl (by decide +kernel) ⟨Nat.le_of_ble_eq_true rfl, Nat.le_of_ble_eq_true rfl⟩) (tg_preV hw hK hSD hA (ci := 10) (q := (RX10, TX10, 49)) rfl h_p0 rfl) rfl rfl hl.1 rfl (lv_room (Nat.le_of_ble_eq_true rfl)) dX10_holds_112 ⟨Nat.le_of_ble_eq_true rfl, Nat.le_of_ble_eq_true rfl⟩) hw hA (fun v_14  H locs hp_v_14 hw => ?_)
    have r_v_14 : RI v_14 0 1 := hp_v_14.1
    refine lv_if_ne (tgt := 122) hx hb dX10_holds_115 (by decide) (fun c_115 => ?_) (fun c_115 => ?_)
    · have r_v_14 : RI v_14 1 1 := rc_neL r_v_14 rl_0 (ti_ne c_115) (by decide)
      refine lv_iconst (v := 0) hx hb dX10_holds_122 (by decide) ?_
      subst hQ
      exact W.zret (v := 0) hx hb hr (rfl) (fun t ht hW => ⟨⟨0, (), rfl, ⟨rl_0.to (by decide), (fun h0 => trivial), (fun _ => trivial)⟩, by rw [ht]; exact hw.2.1, va_K.moved hW.alike hK, hw.2.2.1⟩, hw.2.2.2.1.F ht⟩) hw.2.2.2.1.2.2 dX10_holds_123
    · have r_v_14 : RI v_14 0 0 := rc_eq1 r_v_14 rl_0 (ti_eq c_115) (by decide)
      refine lv_iconst (v := 1) hx hb dX10_holds_118 (by decide) ?_
      refine lv_goto (tgt := 123) hx hb dX10_holds_119 (by decide) ?_
      subst hQ
      exact W.zret (v := 1) hx hb hr (rfl) (fun t ht hW => ⟨⟨1, (), rfl, ⟨rl_1.to (by decide), (fun _ => trivial), (fun h0 => trivial)⟩, by rw [ht]; exact hw.2.1, va_K.moved hW.alike hK, hw.2.2.1⟩, hw.2.2.2.1.F ht⟩) hw.2.2.2.1.2.2 dX10_holds_123
  · by_cases k_34_2 : v_13 = 2
    · refine lv_lookup (tgt := 124) (off := 90) hx hb dX10_holds_34 (by decide) (by rw [k_34_2]; decide) (by decide) ?_
      have r_v_13 : RI v_13 2 2 := by rw [k_34_2]; exact rl_2
      have g_v_10 : 0 ≤ v_10.toInt ∧ v_10.toInt < p1.toInt := by obtain ⟨_, f9, e8, e7, q9, _⟩ := ax_of (k := 14) (t := 34) hw h_p0 rfl (fun _ => rfl); cases FLD.inj hw.2.2.1 e8 m_u_8; have t9 := ARR.ael hw.2.2.1 e7 m_v_13; have x9 := ARR.ael hw.2.2.1 e7 m_v_10; rw [show Int32.toNatClampNeg v_7 = 174 + 4 * Int32.toNatClampNeg p1 from (by have k1 := r_v_7.cl (by decide); have k2 := r_p1.cl (by decide); omega)] at t9; rw [show Int32.toNatClampNeg v_9 = 175 + 4 * Int32.toNatClampNeg p1 from (by have k1 := r_v_9.cl (by decide); have k2 := r_p1.cl (by decide); omega)] at x9; exact RN_child q9 (r_p1.to (by decide)) t9 x9 (r_v_13.to (by decide))
      have r_v_10 : RI v_10 0 45 := ⟨g_v_10.1, by have k1 := r_p1.2; omega⟩
      have g_v_12 : 0 ≤ v_12.toInt ∧ v_12.toInt < p1.toInt := by obtain ⟨_, f9, e8, e7, q9, _⟩ := ax_of (k := 14) (t := 34) hw h_p0 rfl (fun _ => rfl); cases FLD.inj hw.2.2.1 e8 m_u_8; have t9 := ARR.ael hw.2.2.1 e7 m_v_13; have x9 := ARR.ael hw.2.2.1 e7 m_v_12; rw [show Int32.toNatClampNeg v_7 = 174 + 4 * Int32.toNatClampNeg p1 from (by have k1 := r_v_7.cl (by decide); have k2 := r_p1.cl (by decide); omega)] at t9; rw [show Int32.toNatClampNeg v_11 = 176 + 4 * Int32.toNatClampNeg p1 from (by have k1 := r_v_11.cl (by decide); have k2 := r_p1.cl (by decide); omega)] at x9; exact RN_child2 q9 (r_p1.to (by decide)) t9 x9 (r_v_13.to (by decide))
      have r_v_12 : RI v_12 0 45 := ⟨g_v_12.1, by have k1 := r_p1.2; omega⟩
      refine lv_aload_n hx hb dX10_holds_124 rfl (lv_at hl 3 rfl) ?_
      refine lv_iload hx hb dX10_holds_125 (lv_at hl 1 rfl) ?_
      refine lv_iload_n hx hb dX10_holds_127 rfl (lv_at hl 5 rfl) ?_
      refine tk_ir (va_runV (As := [.int v_10, .int p2]) (rest := []) ⟨hx, hb, hml, hown, hts⟩ (c_X10_holds__14 l D cy z s.heap.size Ps w0 hw.1 p0 v_10 p2 h_p0 r_v_10 r_p2) (cwV 2 hts (gV tw_1787 tw_1789 ts_119 tw_15 tw_1790) rfl rfl rfl (by decide +kernel) ⟨Nat.le_of_ble_eq_true rfl, Nat.le_of_ble_eq_true rfl⟩) (tg_preV hw hK hSD hA (ci := 10) (q := (RX10, TX10, 49)) rfl h_p0 rfl) rfl rfl hl.1 rfl (lv_room (Nat.le_of_ble_eq_true rfl)) dX10_holds_128 ⟨Nat.le_of_ble_eq_true rfl, Nat.le_of_ble_eq_true rfl⟩) hw hA (fun v_15  H locs hp_v_15 hw => ?_)
      have r_v_15 : RI v_15 0 1 := hp_v_15.1
      refine lv_if_eq (tgt := 148) hx hb dX10_holds_131 (by decide) (fun c_131 => ?_) (fun c_131 => ?_)
      · have r_v_15 : RI v_15 0 0 := rc_eq1 r_v_15 rl_0 (ti_eq c_131) (by decide)
        refine lv_iconst (v := 0) hx hb dX10_holds_148 (by decide) ?_
        subst hQ
        exact W.zret (v := 0) hx hb hr (rfl) (fun t ht hW => ⟨⟨0, (), rfl, ⟨rl_0.to (by decide), (fun h0 => trivial), (fun _ => trivial)⟩, by rw [ht]; exact hw.2.1, va_K.moved hW.alike hK, hw.2.2.1⟩, hw.2.2.2.1.F ht⟩) hw.2.2.2.1.2.2 dX10_holds_149
      · have r_v_15 : RI v_15 1 1 := rc_neL r_v_15 rl_0 (ti_ne c_131) (by decide)
        refine lv_aload_n hx hb dX10_holds_134 rfl (lv_at hl 3 rfl) ?_
        refine lv_iload hx hb dX10_holds_135 (lv_at hl 0 rfl) ?_
        refine lv_iload_n hx hb dX10_holds_137 rfl (lv_at hl 5 rfl) ?_
        refine tk_ir (va_runV (As := [.int v_12, .int p2]) (rest := []) ⟨hx, hb, hml, hown, hts⟩ (c_X10_holds__14 l D cy z H.size Ps w0 hw.1 p0 v_12 p2 h_p0 r_v_12 r_p2) (cwV 2 hts (gV tw_1787 tw_1789 ts_119 tw_15 tw_1790) rfl rfl rfl (by decide +kernel) ⟨Nat.le_of_ble_eq_true rfl, Nat.le_of_ble_eq_true rfl⟩) (tg_preV hw hK hSD hA (ci := 10) (q := (RX10, TX10, 49)) rfl h_p0 rfl) rfl rfl hl.1 rfl (lv_room (Nat.le_of_ble_eq_true rfl)) dX10_holds_138 ⟨Nat.le_of_ble_eq_true rfl, Nat.le_of_ble_eq_true rfl⟩) hw hA (fun v_16  H locs hp_v_16 hw => ?_)
        have r_v_16 : RI v_16 0 1 := hp_v_16.1
        refine lv_if_eq (tgt := 148) hx hb dX10_holds_141 (by decide) (fun c_141 => ?_) (fun c_141 => ?_)
        · have r_v_16 : RI v_16 0 0 := rc_eq1 r_v_16 rl_0 (ti_eq c_141) (by decide)
          refine lv_iconst (v := 0) hx hb dX10_holds_148 (by decide) ?_
          subst hQ
          exact W.zret (v := 0) hx hb hr (rfl) (fun t ht hW => ⟨⟨0, (), rfl, ⟨rl_0.to (by decide), (fun h0 => trivial), (fun _ => trivial)⟩, by rw [ht]; exact hw.2.1, va_K.moved hW.alike hK, hw.2.2.1⟩, hw.2.2.2.1.F ht⟩) hw.2.2.2.1.2.2 dX10_holds_149
        · have r_v_16 : RI v_16 1 1 := rc_neL r_v_16 rl_0 (ti_ne c_141) (by decide)
          refine lv_iconst (v := 1) hx hb dX10_holds_144 (by decide) ?_
          refine lv_goto (tgt := 149) hx hb dX10_holds_145 (by decide) ?_
          subst hQ
          exact W.zret (v := 1) hx hb hr (rfl) (fun t ht hW => ⟨⟨1, (), rfl, ⟨rl_1.to (by decide), (fun _ => trivial), (fun h0 => trivial)⟩, by rw [ht]; exact hw.2.1, va_K.moved hW.alike hK, hw.2.2.1⟩, hw.2.2.2.1.F ht⟩) hw.2.2.2.1.2.2 dX10_holds_149
    · by_cases k_34_3 : v_13 = 3
      · refine lv_lookup (tgt := 150) (off := 116) hx hb dX10_holds_34 (by decide) (by rw [k_34_3]; decide) (by decide) ?_
        have r_v_13 : RI v_13 3 3 := by rw [k_34_3]; exact rl_3
        have g_v_10 : 0 ≤ v_10.toInt ∧ v_10.toInt < p1.toInt := by obtain ⟨_, f9, e8, e7, q9, _⟩ := ax_of (k := 14) (t := 34) hw h_p0 rfl (fun _ => rfl); cases FLD.inj hw.2.2.1 e8 m_u_8; have t9 := ARR.ael hw.2.2.1 e7 m_v_13; have x9 := ARR.ael hw.2.2.1 e7 m_v_10; rw [show Int32.toNatClampNeg v_7 = 174 + 4 * Int32.toNatClampNeg p1 from (by have k1 := r_v_7.cl (by decide); have k2 := r_p1.cl (by decide); omega)] at t9; rw [show Int32.toNatClampNeg v_9 = 175 + 4 * Int32.toNatClampNeg p1 from (by have k1 := r_v_9.cl (by decide); have k2 := r_p1.cl (by decide); omega)] at x9; exact RN_child q9 (r_p1.to (by decide)) t9 x9 (r_v_13.to (by decide))
        have r_v_10 : RI v_10 0 45 := ⟨g_v_10.1, by have k1 := r_p1.2; omega⟩
        have g_v_12 : 0 ≤ v_12.toInt ∧ v_12.toInt < p1.toInt := by obtain ⟨_, f9, e8, e7, q9, _⟩ := ax_of (k := 14) (t := 34) hw h_p0 rfl (fun _ => rfl); cases FLD.inj hw.2.2.1 e8 m_u_8; have t9 := ARR.ael hw.2.2.1 e7 m_v_13; have x9 := ARR.ael hw.2.2.1 e7 m_v_12; rw [show Int32.toNatClampNeg v_7 = 174 + 4 * Int32.toNatClampNeg p1 from (by have k1 := r_v_7.cl (by decide); have k2 := r_p1.cl (by decide); omega)] at t9; rw [show Int32.toNatClampNeg v_11 = 176 + 4 * Int32.toNatClampNeg p1 from (by have k1 := r_v_11.cl (by decide); have k2 := r_p1.cl (by decide); omega)] at x9; exact RN_child2 q9 (r_p1.to (by decide)) t9 x9 (r_v_13.to (by decide))
        have r_v_12 : RI v_12 0 45 := ⟨g_v_12.1, by have k1 := r_p1.2; omega⟩
        refine lv_aload_n hx hb dX10_holds_150 rfl (lv_at hl 3 rfl) ?_
        refine lv_iload hx hb dX10_holds_151 (lv_at hl 1 rfl) ?_
        refine lv_iload_n hx hb dX10_holds_153 rfl (lv_at hl 5 rfl) ?_
        refine tk_ir (va_runV (As := [.int v_10, .int p2]) (rest := []) ⟨hx, hb, hml, hown, hts⟩ (c_X10_holds__14 l D cy z s.heap.size Ps w0 hw.1 p0 v_10 p2 h_p0 r_v_10 r_p2) (cwV 2 hts (gV tw_1787 tw_1789 ts_119 tw_15 tw_1790) rfl rfl rfl (by decide +kernel) ⟨Nat.le_of_ble_eq_true rfl, Nat.le_of_ble_eq_true rfl⟩) (tg_preV hw hK hSD hA (ci := 10) (q := (RX10, TX10, 49)) rfl h_p0 rfl) rfl rfl hl.1 rfl (lv_room (Nat.le_of_ble_eq_true rfl)) dX10_holds_154 ⟨Nat.le_of_ble_eq_true rfl, Nat.le_of_ble_eq_true rfl⟩) hw hA (fun v_17  H locs hp_v_17 hw => ?_)
        have r_v_17 : RI v_17 0 1 := hp_v_17.1
        refine lv_if_ne (tgt := 170) hx hb dX10_holds_157 (by decide) (fun c_157 => ?_) (fun c_157 => ?_)
        · have r_v_17 : RI v_17 1 1 := rc_neL r_v_17 rl_0 (ti_ne c_157) (by decide)
          refine lv_iconst (v := 1) hx hb dX10_holds_170 (by decide) ?_
          refine lv_goto (tgt := 175) hx hb dX10_holds_171 (by decide) ?_
          subst hQ
          exact W.zret (v := 1) hx hb hr (rfl) (fun t ht hW => ⟨⟨1, (), rfl, ⟨rl_1.to (by decide), (fun _ => trivial), (fun h0 => trivial)⟩, by rw [ht]; exact hw.2.1, va_K.moved hW.alike hK, hw.2.2.1⟩, hw.2.2.2.1.F ht⟩) hw.2.2.2.1.2.2 dX10_holds_175
        · have r_v_17 : RI v_17 0 0 := rc_eq1 r_v_17 rl_0 (ti_eq c_157) (by decide)
          refine lv_aload_n hx hb dX10_holds_160 rfl (lv_at hl 3 rfl) ?_
          refine lv_iload hx hb dX10_holds_161 (lv_at hl 0 rfl) ?_
          refine lv_iload_n hx hb dX10_holds_163 rfl (lv_at hl 5 rfl) ?_
          refine tk_ir (va_runV (As := [.int v_12, .int p2]) (rest := []) ⟨hx, hb, hml, hown, hts⟩ (c_X10_holds__14 l D cy z H.size Ps w0 hw.1 p0 v_12 p2 h_p0 r_v_12 r_p2) (cwV 2 hts (gV tw_1787 tw_1789 ts_119 tw_15 tw_1790) rfl rfl rfl (by decide +kernel) ⟨Nat.le_of_ble_eq_true rfl, Nat.le_of_ble_eq_true rfl⟩) (tg_preV hw hK hSD hA (ci := 10) (q := (RX10, TX10, 49)) rfl h_p0 rfl) rfl rfl hl.1 rfl (lv_room (Nat.le_of_ble_eq_true rfl)) dX10_holds_164 ⟨Nat.le_of_ble_eq_true rfl, Nat.le_of_ble_eq_true rfl⟩) hw hA (fun v_18  H locs hp_v_18 hw => ?_)
          have r_v_18 : RI v_18 0 1 := hp_v_18.1
          refine lv_if_eq (tgt := 174) hx hb dX10_holds_167 (by decide) (fun c_167 => ?_) (fun c_167 => ?_)
          · have r_v_18 : RI v_18 0 0 := rc_eq1 r_v_18 rl_0 (ti_eq c_167) (by decide)
            refine lv_iconst (v := 0) hx hb dX10_holds_174 (by decide) ?_
            subst hQ
            exact W.zret (v := 0) hx hb hr (rfl) (fun t ht hW => ⟨⟨0, (), rfl, ⟨rl_0.to (by decide), (fun h0 => trivial), (fun _ => trivial)⟩, by rw [ht]; exact hw.2.1, va_K.moved hW.alike hK, hw.2.2.1⟩, hw.2.2.2.1.F ht⟩) hw.2.2.2.1.2.2 dX10_holds_175
          · have r_v_18 : RI v_18 1 1 := rc_neL r_v_18 rl_0 (ti_ne c_167) (by decide)
            refine lv_iconst (v := 1) hx hb dX10_holds_170 (by decide) ?_
            refine lv_goto (tgt := 175) hx hb dX10_holds_171 (by decide) ?_
            subst hQ
            exact W.zret (v := 1) hx hb hr (rfl) (fun t ht hW => ⟨⟨1, (), rfl, ⟨rl_1.to (by decide), (fun _ => trivial), (fun h0 => trivial)⟩, by rw [ht]; exact hw.2.1, va_K.moved hW.alike hK, hw.2.2.1⟩, hw.2.2.2.1.F ht⟩) hw.2.2.2.1.2.2 dX10_holds_175
      · by_cases k_34_69 : v_13 = 69
        · refine lv_lookup (tgt := 176) (off := 142) hx hb dX10_holds_34 (by decide) (by rw [k_34_69]; decide) (by decide) ?_
          have r_v_13 : RI v_13 69 69 := by rw [k_34_69]; exact rl_69
          refine lv_aload_n hx hb dX10_holds_176 rfl (lv_at hl 3 rfl) ?_
          refine lv_iload_n hx hb dX10_holds_177 rfl (lv_at hl 5 rfl) ?_
          refine tk_ir (va_runV (As := [.int p2]) (rest := []) ⟨hx, hb, hml, hown, hts⟩ (c_X10_isOpen l D cy z s.heap.size Ps w0 hw.1 p0 p2 h_p0 (r_p2.to (by decide))) (cwV 1 hts (gV tw_1457 tw_1459 ts_71 tw_15 tw_1460) rfl rfl rfl (by decide +kernel) ⟨Nat.le_of_ble_eq_true rfl, Nat.le_of_ble_eq_true rfl⟩) (tg_preV hw hK hSD hA (ci := 10) (q := (RX10, TX10, 49)) rfl h_p0 rfl) rfl rfl hl.1 rfl (lv_room (Nat.le_of_ble_eq_true rfl)) dX10_holds_178 ⟨Nat.le_of_ble_eq_true rfl, Nat.le_of_ble_eq_true rfl⟩) hw hA (fun v_19  H locs hp_v_19 hw => ?_)
          have r_v_19 : RI v_19 0 1 := hp_v_19.1
          subst hQ
          exact W.zret (v := v_19) hx hb hr (tq_nz (r_v_19.to (by decide))) (fun t ht hW => ⟨⟨v_19, (), rfl, ⟨r_v_19.to (by decide), (fun h0 => trivial), (fun h0 => trivial)⟩, by rw [ht]; exact hw.2.1, va_K.moved hW.alike hK, hw.2.2.1⟩, hw.2.2.2.1.F ht⟩) hw.2.2.2.1.2.2 dX10_holds_181
        · by_cases k_34_70 : v_13 = 70
          · refine lv_lookup (tgt := 182) (off := 148) hx hb dX10_holds_34 (by decide) (by rw [k_34_70]; decide) (by decide) ?_
            have r_v_13 : RI v_13 70 70 := by rw [k_34_70]; exact rl_70
            refine lv_aload_n hx hb dX10_holds_182 rfl (lv_at hl 3 rfl) ?_
            refine lv_iload_n hx hb dX10_holds_183 rfl (lv_at hl 5 rfl) ?_
            refine tk_ir (va_runV (As := [.int p2]) (rest := []) ⟨hx, hb, hml, hown, hts⟩ (c_X10_whatIs l D cy z s.heap.size Ps w0 hw.1 p0 p2 h_p0 r_p2) (cwV 1 hts (gV tw_1449 tw_1451 ts_69 tw_15 tw_1452) rfl rfl rfl (by decide +kernel) ⟨Nat.le_of_ble_eq_true rfl, Nat.le_of_ble_eq_true rfl⟩) (tg_preV hw hK hSD hA (ci := 10) (q := (RX10, TX10, 49)) rfl h_p0 rfl) rfl rfl hl.1 rfl (lv_room (Nat.le_of_ble_eq_true rfl)) dX10_holds_184 ⟨Nat.le_of_ble_eq_true rfl, Nat.le_of_ble_eq_true rfl⟩) hw hA (fun v_20  H locs hp_v_20 hw => ?_)
            have r_v_20 : RI v_20 (-1) 5 := hp_v_20.1
            by_cases c9_v_20 : v_20.toInt < 0
            · have r_v_20 : RI v_20 (-1) (-1) := by unfold RI at r_v_20 ⊢; omega
              have x_NB_p0_p2 := (hp_v_20.2.2.2.2.1 (by omega)).1
              refine lv_iconst (v := (-1)) hx hb dX10_holds_187 (by decide) ?_
              refine lv_icmp_ne (tgt := 195) hx hb dX10_holds_188 (by decide) (fun c_188 => ?_) (fun c_188 => ?_)
              · exact absurd (r_v_20.eq.trans rl_m1.eq.symm) ((ti_ne c_188))
              · refine lv_iconst (v := 1) hx hb dX10_holds_191 (by decide) ?_
                refine lv_goto (tgt := 196) hx hb dX10_holds_192 (by decide) ?_
                subst hQ
                exact W.zret (v := 1) hx hb hr (rfl) (fun t ht hW => ⟨⟨1, (), rfl, ⟨rl_1.to (by decide), (fun _ => trivial), (fun h0 => trivial)⟩, by rw [ht]; exact hw.2.1, va_K.moved hW.alike hK, hw.2.2.1⟩, hw.2.2.2.1.F ht⟩) hw.2.2.2.1.2.2 dX10_holds_196
            · have r_v_20 : RI v_20 0 5 := by unfold RI at r_v_20 ⊢; omega
              have x_WB_p0_p2_v_20 := (hp_v_20.2.2.2.2.2 (by omega)).1
              refine lv_iconst (v := (-1)) hx hb dX10_holds_187 (by decide) ?_
              refine lv_icmp_ne (tgt := 195) hx hb dX10_holds_188 (by decide) (fun c_188 => ?_) (fun c_188 => ?_)
              · refine lv_iconst (v := 0) hx hb dX10_holds_195 (by decide) ?_
                subst hQ
                exact W.zret (v := 0) hx hb hr (rfl) (fun t ht hW => ⟨⟨0, (), rfl, ⟨rl_0.to (by decide), (fun h0 => trivial), (fun _ => trivial)⟩, by rw [ht]; exact hw.2.1, va_K.moved hW.alike hK, hw.2.2.1⟩, hw.2.2.2.1.F ht⟩) hw.2.2.2.1.2.2 dX10_holds_196
              · have r_v_20 : RI v_20 0 (-1) := rc_eq1 r_v_20 rl_m1 (ti_eq c_188) (by decide)
                exact (r_v_20.no (by decide)).elim
          · by_cases k_34_71 : v_13 = 71
            · refine lv_lookup (tgt := 197) (off := 163) hx hb dX10_holds_34 (by decide) (by rw [k_34_71]; decide) (by decide) ?_
              have r_v_13 : RI v_13 71 71 := by rw [k_34_71]; exact rl_71
              refine lv_aload_n hx hb dX10_holds_197 rfl (lv_at hl 3 rfl) ?_
              refine lv_iload_n hx hb dX10_holds_198 rfl (lv_at hl 5 rfl) ?_
              refine tk_ir (va_runV (As := [.int p2]) (rest := []) ⟨hx, hb, hml, hown, hts⟩ (c_X10_sittersOf l D cy z s.heap.size Ps w0 hw.1 p0 p2 h_p0 (r_p2.to (by decide))) (cwV 1 hts (gV tw_1461 tw_1463 ts_72 tw_15 tw_1464) rfl rfl rfl (by decide +kernel) ⟨Nat.le_of_ble_eq_true rfl, Nat.le_of_ble_eq_true rfl⟩) (tg_preV hw hK hSD hA (ci := 10) (q := (RX10, TX10, 49)) rfl h_p0 rfl) rfl rfl hl.1 rfl (lv_room (Nat.le_of_ble_eq_true rfl)) dX10_holds_199 ⟨Nat.le_of_ble_eq_true rfl, Nat.le_of_ble_eq_true rfl⟩) hw hA (fun v_21  H locs hp_v_21 hw => ?_)
              have r_v_21 : RI v_21 (-2147483648) 2147483647 := hp_v_21.1
              refine lv_if_eq (tgt := 209) hx hb dX10_holds_202 (by decide) (fun c_202 => ?_) (fun c_202 => ?_)
              · have r_v_21 : RI v_21 0 0 := rc_eq1 r_v_21 rl_0 (ti_eq c_202) (by decide)
                refine lv_iconst (v := 0) hx hb dX10_holds_209 (by decide) ?_
                subst hQ
                exact W.zret (v := 0) hx hb hr (rfl) (fun t ht hW => ⟨⟨0, (), rfl, ⟨rl_0.to (by decide), (fun h0 => trivial), (fun _ => trivial)⟩, by rw [ht]; exact hw.2.1, va_K.moved hW.alike hK, hw.2.2.1⟩, hw.2.2.2.1.F ht⟩) hw.2.2.2.1.2.2 dX10_holds_210
              · refine lv_iconst (v := 1) hx hb dX10_holds_205 (by decide) ?_
                refine lv_goto (tgt := 210) hx hb dX10_holds_206 (by decide) ?_
                subst hQ
                exact W.zret (v := 1) hx hb hr (rfl) (fun t ht hW => ⟨⟨1, (), rfl, ⟨rl_1.to (by decide), (fun _ => trivial), (fun h0 => trivial)⟩, by rw [ht]; exact hw.2.1, va_K.moved hW.alike hK, hw.2.2.1⟩, hw.2.2.2.1.F ht⟩) hw.2.2.2.1.2.2 dX10_holds_210
            · by_cases k_34_72 : v_13 = 72
              · refine lv_lookup (tgt := 211) (off := 177) hx hb dX10_holds_34 (by decide) (by rw [k_34_72]; decide) (by decide) ?_
                have r_v_13 : RI v_13 72 72 := by rw [k_34_72]; exact rl_72
                refine lv_aload_n hx hb dX10_holds_211 rfl (lv_at hl 3 rfl) ?_
                refine lv_iload_n hx hb dX10_holds_212 rfl (lv_at hl 5 rfl) ?_
                refine tk_ir (va_runV (As := [.int p2]) (rest := []) ⟨hx, hb, hml, hown, hts⟩ (c_X10_whatIs l D cy z s.heap.size Ps w0 hw.1 p0 p2 h_p0 r_p2) (cwV 1 hts (gV tw_1449 tw_1451 ts_69 tw_15 tw_1452) rfl rfl rfl (by decide +kernel) ⟨Nat.le_of_ble_eq_true rfl, Nat.le_of_ble_eq_true rfl⟩) (tg_preV hw hK hSD hA (ci := 10) (q := (RX10, TX10, 49)) rfl h_p0 rfl) rfl rfl hl.1 rfl (lv_room (Nat.le_of_ble_eq_true rfl)) dX10_holds_213 ⟨Nat.le_of_ble_eq_true rfl, Nat.le_of_ble_eq_true rfl⟩) hw hA (fun v_22  H locs hp_v_22 hw => ?_)
                have r_v_22 : RI v_22 (-1) 5 := hp_v_22.1
                by_cases c9_v_22 : v_22.toInt < 0
                · have r_v_22 : RI v_22 (-1) (-1) := by unfold RI at r_v_22 ⊢; omega
                  have x_NB_p0_p2 := (hp_v_22.2.2.2.2.1 (by omega)).1
                  refine lv_iload hx hb dX10_holds_216 (lv_at hl 1 rfl) ?_
                  refine lv_icmp_ne (tgt := 225) hx hb dX10_holds_218 (by decide) (fun c_218 => ?_) (fun c_218 => ?_)
                  · refine lv_iconst (v := 0) hx hb dX10_holds_225 (by decide) ?_
                    subst hQ
                    exact W.zret (v := 0) hx hb hr (rfl) (fun t ht hW => ⟨⟨0, (), rfl, ⟨rl_0.to (by decide), (fun h0 => trivial), (fun _ => trivial)⟩, by rw [ht]; exact hw.2.1, va_K.moved hW.alike hK, hw.2.2.1⟩, hw.2.2.2.1.F ht⟩) hw.2.2.2.1.2.2 dX10_holds_226
                  · have r_v_10 : RI v_10 (-1) (-1) := rc_eq2 r_v_22 r_v_10 (ti_eq c_218) (by decide)
                    refine lv_iconst (v := 1) hx hb dX10_holds_221 (by decide) ?_
                    refine lv_goto (tgt := 226) hx hb dX10_holds_222 (by decide) ?_
                    subst hQ
                    exact W.zret (v := 1) hx hb hr (rfl) (fun t ht hW => ⟨⟨1, (), rfl, ⟨rl_1.to (by decide), (fun _ => trivial), (fun h0 => trivial)⟩, by rw [ht]; exact hw.2.1, va_K.moved hW.alike hK, hw.2.2.1⟩, hw.2.2.2.1.F ht⟩) hw.2.2.2.1.2.2 dX10_holds_226
                · have r_v_22 : RI v_22 0 5 := by unfold RI at r_v_22 ⊢; omega
                  have x_WB_p0_p2_v_22 := (hp_v_22.2.2.2.2.2 (by omega)).1
                  refine lv_iload hx hb dX10_holds_216 (lv_at hl 1 rfl) ?_
                  refine lv_icmp_ne (tgt := 225) hx hb dX10_holds_218 (by decide) (fun c_218 => ?_) (fun c_218 => ?_)
                  · refine lv_iconst (v := 0) hx hb dX10_holds_225 (by decide) ?_
                    subst hQ
                    exact W.zret (v := 0) hx hb hr (rfl) (fun t ht hW => ⟨⟨0, (), rfl, ⟨rl_0.to (by decide), (fun h0 => trivial), (fun _ => trivial)⟩, by rw [ht]; exact hw.2.1, va_K.moved hW.alike hK, hw.2.2.1⟩, hw.2.2.2.1.F ht⟩) hw.2.2.2.1.2.2 dX10_holds_226
                  · have r_v_10 : RI v_10 0 5 := rc_eq2 r_v_22 r_v_10 (ti_eq c_218) (by decide)
                    refine lv_iconst (v := 1) hx hb dX10_holds_221 (by decide) ?_
                    refine lv_goto (tgt := 226) hx hb dX10_holds_222 (by decide) ?_
                    subst hQ
                    exact W.zret (v := 1) hx hb hr (rfl) (fun t ht hW => ⟨⟨1, (), rfl, ⟨rl_1.to (by decide), (fun _ => trivial), (fun h0 => trivial)⟩, by rw [ht]; exact hw.2.1, va_K.moved hW.alike hK, hw.2.2.1⟩, hw.2.2.2.1.F ht⟩) hw.2.2.2.1.2.2 dX10_holds_226
              · by_cases k_34_73 : v_13 = 73
                · refine lv_lookup (tgt := 227) (off := 193) hx hb dX10_holds_34 (by decide) (by rw [k_34_73]; decide) (by decide) ?_
                  have r_v_13 : RI v_13 73 73 := by rw [k_34_73]; exact rl_73
                  refine lv_aload_n hx hb dX10_holds_227 rfl (lv_at hl 3 rfl) ?_
                  refine tg_mem (ci := 10) (C := RX10) (T := TX10) (N := 49) hx hb hts inX10 hown hK hw 14 m_u_8 rfl (by decide) (hts _ tw_1151) (fun _ h9 => h9) dX10_holds_228 ?_
                  refine lv_bipush (v := 86) hx hb dX10_holds_231 (by decide) ?_
                  refine lv_iload_n hx hb dX10_holds_233 rfl (lv_at hl 5 rfl) ?_
                  refine lv_iadd hx hb dX10_holds_234 (lv_topi (fun v_23 e_v_23 => ?_))
                  obtain ⟨t_v_23, r_v_23⟩ := tq_add (lo := 86) (hi := 91) rl_86 r_p2 (by decide +kernel) e_v_23
                  have t_v_23 : v_23.toInt = 86 + p2.toInt := t_v_23
                  refine tg_iald (lo := (-2147483648)) (hi := 2147483647) hx hb hK hw h_vu_8 rfl 86 91 r_v_23 (by decide) (by decide +kernel) dX10_holds_235 (fun v_24 r_v_24 m_v_24 o_v_24 => ?_)
                  refine lv_iload hx hb dX10_holds_236 (lv_at hl 1 rfl) ?_
                  refine lv_icmp_ne (tgt := 245) hx hb dX10_holds_238 (by decide) (fun c_238 => ?_) (fun c_238 => ?_)
                  · refine lv_iconst (v := 0) hx hb dX10_holds_245 (by decide) ?_
                    subst hQ
                    exact W.zret (v := 0) hx hb hr (rfl) (fun t ht hW => ⟨⟨0, (), rfl, ⟨rl_0.to (by decide), (fun h0 => trivial), (fun _ => trivial)⟩, by rw [ht]; exact hw.2.1, va_K.moved hW.alike hK, hw.2.2.1⟩, hw.2.2.2.1.F ht⟩) hw.2.2.2.1.2.2 dX10_holds_246
                  · refine lv_iconst (v := 1) hx hb dX10_holds_241 (by decide) ?_
                    refine lv_goto (tgt := 246) hx hb dX10_holds_242 (by decide) ?_
                    subst hQ
                    exact W.zret (v := 1) hx hb hr (rfl) (fun t ht hW => ⟨⟨1, (), rfl, ⟨rl_1.to (by decide), (fun _ => trivial), (fun h0 => trivial)⟩, by rw [ht]; exact hw.2.1, va_K.moved hW.alike hK, hw.2.2.1⟩, hw.2.2.2.1.F ht⟩) hw.2.2.2.1.2.2 dX10_holds_246
                · refine lv_lookup (tgt := 247) (off := 213) hx hb dX10_holds_34 (by decide) ((lv_osw k_34_1 (by decide)).trans ((lv_osw k_34_2 (by decide)).trans ((lv_osw k_34_3 (by decide)).trans ((lv_osw k_34_69 (by decide)).trans ((lv_osw k_34_70 (by decide)).trans ((lv_osw k_34_71 (by decide)).trans ((lv_osw k_34_72 (by decide)).trans ((lv_osw k_34_73 (by decide)).trans (rfl))))))))) (by decide) ?_
                  refine lv_aload_n hx hb dX10_holds_247 rfl (lv_at hl 3 rfl) ?_
                  refine tg_mem (ci := 10) (C := RX10) (T := TX10) (N := 49) hx hb hts inX10 hown hK hw 14 m_u_8 rfl (by decide) (hts _ tw_1151) (fun _ h9 => h9) dX10_holds_248 ?_
                  refine lv_iload_n hx hb dX10_holds_251 rfl (lv_at hl 2 rfl) ?_
                  refine tg_imem hx hb hK hw h_vu_8 rfl r_v_7 (by decide) m_v_13 dX10_holds_252 ?_
                  refine lv_bipush (v := 50) hx hb dX10_holds_253 (by decide) ?_
                  refine lv_isub hx hb dX10_holds_255 (lv_topi (fun v_26 e_v_26 => ?_))
                  have r_v_26 := ri_any v_26
                  refine lv_istore (lv' := [(6, .int v_26), (5, .int v_12), (4, .int v_10), (3, .int v_7), (0, .ref p0), (1, .int p1), (2, .int p2)]) hx hb dX10_holds_256 hl (by decide) rfl (fun ls hl => ?_)
                  refine lv_iload hx hb dX10_holds_258 (lv_at hl 0 rfl) ?_
                  refine lv_bipush (v := 24) hx hb dX10_holds_260 (by decide) ?_
                  refine lv_icmp_ne (tgt := 273) hx hb dX10_holds_262 (by decide) (fun c_262 => ?_) (fun c_262 => ?_)
                  · refine lv_iload hx hb dX10_holds_273 (lv_at hl 0 rfl) ?_
                    refine lv_bipush (v := 25) hx hb dX10_holds_275 (by decide) ?_
                    refine lv_icmp_ne (tgt := 292) hx hb dX10_holds_277 (by decide) (fun c_277 => ?_) (fun c_277 => ?_)
                    · refine lv_iload hx hb dX10_holds_292 (lv_at hl 0 rfl) ?_
                      refine lv_bipush (v := 26) hx hb dX10_holds_294 (by decide) ?_
                      refine lv_icmp_ne (tgt := 311) hx hb dX10_holds_296 (by decide) (fun c_296 => ?_) (fun c_296 => ?_)
                      · refine lv_iload_n hx hb dX10_holds_311 rfl (lv_at hl 6 rfl) ?_
                        exact B312 v_7 v_10 v_12 v_26 p2 _ _ ls r_p1 r_p2 r_v_7 r_v_10 r_v_12 r_v_26 (r_p2.to (by decide)) hw (lv_sub hl [4, 5, 6, 3, 2, 1, 0] rfl)
                      · have r_v_26 : RI v_26 26 26 := rc_eq1 r_v_26 rl_26 (ti_eq c_296) (by decide)
                        refine lv_aload_n hx hb dX10_holds_299 rfl (lv_at hl 4 rfl) ?_
                        refine tg_mem (ci := 10) (C := RX10) (T := TX10) (N := 49) hx hb hts inX10 hown hK hw 14 m_u_8 rfl (by decide) (hts _ tw_1151) (fun _ h9 => h9) dX10_holds_300 ?_
                        refine lv_bipush (v := 98) hx hb dX10_holds_303 (by decide) ?_
                        refine lv_iload_n hx hb dX10_holds_305 rfl (lv_at hl 6 rfl) ?_
                        refine lv_iadd hx hb dX10_holds_306 (lv_topi (fun v_27 e_v_27 => ?_))
                        obtain ⟨t_v_27, r_v_27⟩ := tq_add (lo := 98) (hi := 103) rl_98 r_p2 (by decide +kernel) e_v_27
                        have t_v_27 : v_27.toInt = 98 + p2.toInt := t_v_27
                        refine tg_iald (lo := (-2147483648)) (hi := 2147483647) hx hb hK hw h_vu_8 rfl 98 103 r_v_27 (by decide) (by decide +kernel) dX10_holds_307 (fun v_28 r_v_28 m_v_28 o_v_28 => ?_)
                        refine lv_goto (tgt := 312) hx hb dX10_holds_308 (by decide) ?_
                        exact B312 v_7 v_10 v_12 v_26 v_28 _ _ ls r_p1 r_p2 r_v_7 r_v_10 r_v_12 (r_v_26.to (by decide)) r_v_28 hw (lv_sub hl [4, 5, 6, 3, 2, 1, 0] rfl)
                    · have r_v_26 : RI v_26 25 25 := rc_eq1 r_v_26 rl_25 (ti_eq c_277) (by decide)
                      refine lv_aload_n hx hb dX10_holds_280 rfl (lv_at hl 4 rfl) ?_
                      refine tg_mem (ci := 10) (C := RX10) (T := TX10) (N := 49) hx hb hts inX10 hown hK hw 14 m_u_8 rfl (by decide) (hts _ tw_1151) (fun _ h9 => h9) dX10_holds_281 ?_
                      refine lv_bipush (v := 92) hx hb dX10_holds_284 (by decide) ?_
                      refine lv_iload_n hx hb dX10_holds_286 rfl (lv_at hl 6 rfl) ?_
                      refine lv_iadd hx hb dX10_holds_287 (lv_topi (fun v_29 e_v_29 => ?_))
                      obtain ⟨t_v_29, r_v_29⟩ := tq_add (lo := 92) (hi := 97) rl_92 r_p2 (by decide +kernel) e_v_29
                      have t_v_29 : v_29.toInt = 92 + p2.toInt := t_v_29
                      refine tg_iald (lo := (-2147483648)) (hi := 2147483647) hx hb hK hw h_vu_8 rfl 92 97 r_v_29 (by decide) (by decide +kernel) dX10_holds_288 (fun v_30 r_v_30 m_v_30 o_v_30 => ?_)
                      refine lv_goto (tgt := 312) hx hb dX10_holds_289 (by decide) ?_
                      exact B312 v_7 v_10 v_12 v_26 v_30 _ _ ls r_p1 r_p2 r_v_7 r_v_10 r_v_12 (r_v_26.to (by decide)) r_v_30 hw (lv_sub hl [4, 5, 6, 3, 2, 1, 0] rfl)
                  · have r_v_26 : RI v_26 24 24 := rc_eq1 r_v_26 rl_24 (ti_eq c_262) (by decide)
                    refine lv_aload_n hx hb dX10_holds_265 rfl (lv_at hl 4 rfl) ?_
                    refine lv_iload_n hx hb dX10_holds_266 rfl (lv_at hl 6 rfl) ?_
                    refine tk_ir (va_runV (As := [.int p2]) (rest := []) ⟨hx, hb, hml, hown, hts⟩ (c_X10_sizeOf l D cy z s.heap.size Ps w0 hw.1 p0 p2 h_p0 r_p2) (cwV 1 hts (gV tw_1453 tw_1455 ts_70 tw_15 tw_1456) rfl rfl rfl (by decide +kernel) ⟨Nat.le_of_ble_eq_true rfl, Nat.le_of_ble_eq_true rfl⟩) (tg_preV hw hK hSD hA (ci := 10) (q := (RX10, TX10, 49)) rfl h_p0 rfl) rfl rfl hl.1 rfl (lv_room (Nat.le_of_ble_eq_true rfl)) dX10_holds_267 ⟨Nat.le_of_ble_eq_true rfl, Nat.le_of_ble_eq_true rfl⟩) hw hA (fun v_31  H locs hp_v_31 hw => ?_)
                    have r_v_31 : RI v_31 (-2147483648) 2147483647 := hp_v_31.1
                    refine lv_goto (tgt := 312) hx hb dX10_holds_270 (by decide) ?_
                    exact B312 v_7 v_10 v_12 v_26 v_31 _ _ ls r_p1 r_p2 r_v_7 r_v_10 r_v_12 (r_v_26.to (by decide)) r_v_31 hw (lv_sub hl [4, 5, 6, 3, 2, 1, 0] rfl)
abbrev wr_X10_holds__12 : List (Nat × Nat) := []
abbrev wa_X10_holds__12 : List Nat := []
set_option maxHeartbeats 4000000 in
set_option maxRecDepth 100000 in
theorem c_X10_holds__12 (l : Launch) (D : va_G) (cy : Nat → ClassId) (z : Nat → Nat) (sz : Nat) (Ps : PSI) (w0 : va_W) (hT : HT cy GG Ps w0) (p0 : Nat) (p1 : Int32) (p2 : Int32) (h_p0 : (p0, 55) ∈ Ps) (r_p1 : RI p1 0 47) (r_p2 : RI p2 0 5) : Met l yX10_holds (Cond.code yX10_holds cX10_holds 8 (some .boolean) :: gT) ({ frames := 50, cells := 0, slots := 0, locals := 10000 } : Room) (va_Pc [.ref p0, .int p1, .int p2] (PRE D cy z w0 sz)) (va_Qi (fun (r : Int32) (u : Unit) => RI r 0 1 ∧ (r = 0 → True) ∧ (¬ r = 0 → True)) (BB D cy (va_A w0 sz) (fun (u : Unit) => w0)) (va_A w0 sz)) 0 0 (va_A w0 sz) := by
  refine Met.ofW (cc := cX10_holds) (maxL := 8) (ret := (some .boolean)) (by decide) rfl ?_
  intro p e s m args below meth c s₁ B hml hv
  obtain ⟨rfl, hsz, hP, hK, hD0, hSD⟩ := hv
  have hx := B.exec
  have hb := B.bytes
  have hr := B.returns
  have hlocks := B.notSynchronized
  have hts : ∀ w ∈ gT, w.before _ s = true := fun w h => atoms_spec (ws := Cond.code yX10_holds cX10_holds 8 (some .boolean) :: gT) B.pre w (List.mem_cons_of_mem _ h)
  have hown : s.vm.findClass RX10 = some m.cls := findClass_of_methodNamed B.named
  subst hsz
  have hD := hD0.self (sz := s.heap.size)
  generalize hAe : va_A w0 s.heap.size = A at hD hSD ⊢
  have hA : ∀ q : Nat, s.heap.size ≤ q → A q := fun q h => by rw [← hAe]; exact Or.inr h
  have hl := lv_entry ([.ref p0, .int p1, .int p2]) (n := 8) (Nat.le_of_ble_eq_true rfl)
  rw [lg_entry_eq]
  generalize (lg_sl ([.ref p0, .int p1, .int p2]) ++ List.replicate (8 - (lg_sl ([.ref p0, .int p1, .int p2])).length) Slot.unset).toArray = ls at hl ⊢
  have hl : lv_has ls 8 [(0, .ref p0), (1, .int p1), (2, .int p2)] := hl
  refine nameQ (fun Q hQ => ?_)
  have hw : WD D cy GG A s wr_X10_holds__12 wa_X10_holds__12 Ps w0 Ps w0 s.heap [] := ⟨hT, hP, hD, va_S.rf, FR.rf, hT.1, [], (List.append_nil _).symm⟩
  have B312 : ∀ (x3 : Int32) (x4 : Int32) (x5 : Int32) (x6 : Int32) (y0 : Int32) (H : Heap) (locs : List Loc) (ls : Array Slot), RI p1 0 47 → RI p2 0 5 → RI x3 174 362 → RI x4 (-2147483648) 2147483647 → RI x5 (-2147483648) 2147483647 → RI x6 (-2147483648) 2147483647 → RI y0 (-2147483648) 2147483647 → WD D cy GG A s wr_X10_holds__12 wa_X10_holds__12 Ps w0 Ps w0 H locs → lv_has ls 8 [(0, .ref p0), (1, .int p1), (2, .int p2), (3, .int x3), (4, .int x4), (5, .int x5), (6, .int x6)] → W p l e (headSpec (Cond.code yX10_holds cX10_holds 8 (some .boolean) :: gT) ({ frames := 50, cells := 0, slots := 0, locals := 10000 } : Room)).room s m ([.ref p0, .int p1, .int p2] : List Value).toArray below meth c H locs 0 0 Q (F0 m 312 ls [.int y0]) := by
    intro x3 x4 x5 x6 y0 H locs ls r_p1 r_p2 r_x3 r_x4 r_x5 r_x6 r_y0 hw hl
    refine lv_istore (lv' := [(7, .int y0), (0, .ref p0), (1, .int p1), (2, .int p2), (3, .int x3), (4, .int x4), (5, .int x5), (6, .int x6)]) hx hb dX10_holds_312 hl (by decide) rfl (fun ls hl => ?_)
    refine lv_aload_n hx hb dX10_holds_314 rfl (lv_at hl 1 rfl) ?_
    refine tg_get (ci := 10) (ts := ty_MODEL) (C := RX10) (T := TX10) (N := 49) hx hb hts inX10 hown hK hw h_p0 rfl rfl 14 (by decide) (hts _ tw_1151) (fun _ h9 => h9) (ft := vR 34) rfl dX10_holds_315 (fun u_1 hv_u_1 m_u_1 => ?_)
    obtain ⟨vu_1, rfl, h_vu_1⟩ := hv_u_1
    refine lv_iload_n hx hb dX10_holds_318 rfl (lv_at hl 4 rfl) ?_
    refine lv_iconst (v := 3) hx hb dX10_holds_319 (by decide) ?_
    refine lv_iadd hx hb dX10_holds_320 (lv_topi (fun v_2 e_v_2 => ?_))
    obtain ⟨t_v_2, r_v_2⟩ := tq_add (lo := 177) (hi := 365) r_x3 rl_3 (by decide +kernel) e_v_2
    have t_v_2 : v_2.toInt = x3.toInt + 3 := t_v_2
    refine tg_iald (lo := (-2147483648)) (hi := 2147483647) hx hb hK hw h_vu_1 rfl 177 365 r_v_2 (by decide) (by decide +kernel) dX10_holds_321 (fun v_3 r_v_3 m_v_3 o_v_3 => ?_)
    refine lv_bipush (v := 60) hx hb dX10_holds_322 (by decide) ?_
    refine lv_icmp_ne (tgt := 342) hx hb dX10_holds_324 (by decide) (fun c_324 => ?_) (fun c_324 => ?_)
    · refine lv_aload_n hx hb dX10_holds_342 rfl (lv_at hl 1 rfl) ?_
      refine tg_mem (ci := 10) (C := RX10) (T := TX10) (N := 49) hx hb hts inX10 hown hK hw 14 m_u_1 rfl (by decide) (hts _ tw_1151) (fun _ h9 => h9) dX10_holds_343 ?_
      refine lv_iload_n hx hb dX10_holds_346 rfl (lv_at hl 4 rfl) ?_
      refine lv_iconst (v := 3) hx hb dX10_holds_347 (by decide) ?_
      refine lv_iadd hx hb dX10_holds_348 (lv_topi (fun v_4 e_v_4 => ?_))
      obtain ⟨t_v_4, r_v_4⟩ := tq_add (lo := 177) (hi := 365) r_x3 rl_3 (by decide +kernel) e_v_4
      have t_v_4 : v_4.toInt = x3.toInt + 3 := t_v_4
      refine tg_iald (lo := (-2147483648)) (hi := 2147483647) hx hb hK hw h_vu_1 rfl 177 365 r_v_4 (by decide) (by decide +kernel) dX10_holds_349 (fun v_5 r_v_5 m_v_5 o_v_5 => ?_)
      refine lv_bipush (v := 61) hx hb dX10_holds_350 (by decide) ?_
      refine lv_icmp_ne (tgt := 370) hx hb dX10_holds_352 (by decide) (fun c_352 => ?_) (fun c_352 => ?_)
      · refine lv_iload hx hb dX10_holds_370 (lv_at hl 0 rfl) ?_
        refine lv_iload hx hb dX10_holds_372 (lv_at hl 6 rfl) ?_
        refine lv_icmp_le (tgt := 381) hx hb dX10_holds_374 (by decide) (fun c_374 => ?_) (fun c_374 => ?_)
        · refine lv_iconst (v := 0) hx hb dX10_holds_381 (by decide) ?_
          subst hQ
          exact W.zret (v := 0) hx hb hr (rfl) (fun t ht hW => ⟨⟨0, (), rfl, ⟨rl_0.to (by decide), (fun h0 => trivial), (fun _ => trivial)⟩, by rw [ht]; exact hw.2.1, va_K.moved hW.alike hK, hw.2.2.1⟩, hw.2.2.2.1.F ht⟩) hw.2.2.2.1.2.2 dX10_holds_382
        · have r_x5 : RI x5 (-2147483648) 2147483646 := rc_lt1 r_x5 r_y0 (ti_nle c_374) (by decide)
          have r_y0 : RI y0 (-2147483647) 2147483647 := rc_lt2 r_x5 r_y0 (ti_nle c_374) (by decide)
          refine lv_iconst (v := 1) hx hb dX10_holds_377 (by decide) ?_
          refine lv_goto (tgt := 382) hx hb dX10_holds_378 (by decide) ?_
          subst hQ
          exact W.zret (v := 1) hx hb hr (rfl) (fun t ht hW => ⟨⟨1, (), rfl, ⟨rl_1.to (by decide), (fun _ => trivial), (fun h0 => trivial)⟩, by rw [ht]; exact hw.2.1, va_K.moved hW.alike hK, hw.2.2.1⟩, hw.2.2.2.1.F ht⟩) hw.2.2.2.1.2.2 dX10_holds_382
      · have r_v_5 : RI v_5 61 61 := rc_eq1 r_v_5 rl_61 (ti_eq c_352) (by decide)
        refine lv_iload hx hb dX10_holds_355 (lv_at hl 0 rfl) ?_
        refine lv_iload hx hb dX10_holds_357 (lv_at hl 6 rfl) ?_
        refine lv_icmp_ne (tgt := 366) hx hb dX10_holds_359 (by decide) (fun c_359 => ?_) (fun c_359 => ?_)
        · refine lv_iconst (v := 0) hx hb dX10_holds_366 (by decide) ?_
          refine lv_goto (tgt := 382) hx hb dX10_holds_367 (by decide) ?_
          subst hQ
          exact W.zret (v := 0) hx hb hr (rfl) (fun t ht hW => ⟨⟨0, (), rfl, ⟨rl_0.to (by decide), (fun h0 => trivial), (fun _ => trivial)⟩, by rw [ht]; exact hw.2.1, va_K.moved hW.alike hK, hw.2.2.1⟩, hw.2.2.2.1.F ht⟩) hw.2.2.2.1.2.2 dX10_holds_382
        · refine lv_iconst (v := 1) hx hb dX10_holds_362 (by decide) ?_
          refine lv_goto (tgt := 382) hx hb dX10_holds_363 (by decide) ?_
          subst hQ
          exact W.zret (v := 1) hx hb hr (rfl) (fun t ht hW => ⟨⟨1, (), rfl, ⟨rl_1.to (by decide), (fun _ => trivial), (fun h0 => trivial)⟩, by rw [ht]; exact hw.2.1, va_K.moved hW.alike hK, hw.2.2.1⟩, hw.2.2.2.1.F ht⟩) hw.2.2.2.1.2.2 dX10_holds_382
    · have r_v_3 : RI v_3 60 60 := rc_eq1 r_v_3 rl_60 (ti_eq c_324) (by decide)
      refine lv_iload hx hb dX10_holds_327 (lv_at hl 0 rfl) ?_
      refine lv_iload hx hb dX10_holds_329 (lv_at hl 6 rfl) ?_
      refine lv_icmp_ge (tgt := 338) hx hb dX10_holds_331 (by decide) (fun c_331 => ?_) (fun c_331 => ?_)
      · refine lv_iconst (v := 0) hx hb dX10_holds_338 (by decide) ?_
        refine lv_goto (tgt := 382) hx hb dX10_holds_339 (by decide) ?_
        subst hQ
        exact W.zret (v := 0) hx hb hr (rfl) (fun t ht hW => ⟨⟨0, (), rfl, ⟨rl_0.to (by decide), (fun h0 => trivial), (fun _ => trivial)⟩, by rw [ht]; exact hw.2.1, va_K.moved hW.alike hK, hw.2.2.1⟩, hw.2.2.2.1.F ht⟩) hw.2.2.2.1.2.2 dX10_holds_382
      · have r_y0 : RI y0 (-2147483648) 2147483646 := rc_lt1 r_y0 r_x5 (ti_nle c_331) (by decide)
        have r_x5 : RI x5 (-2147483647) 2147483647 := rc_lt2 r_y0 r_x5 (ti_nle c_331) (by decide)
        refine lv_iconst (v := 1) hx hb dX10_holds_334 (by decide) ?_
        refine lv_goto (tgt := 382) hx hb dX10_holds_335 (by decide) ?_
        subst hQ
        exact W.zret (v := 1) hx hb hr (rfl) (fun t ht hW => ⟨⟨1, (), rfl, ⟨rl_1.to (by decide), (fun _ => trivial), (fun h0 => trivial)⟩, by rw [ht]; exact hw.2.1, va_K.moved hW.alike hK, hw.2.2.1⟩, hw.2.2.2.1.F ht⟩) hw.2.2.2.1.2.2 dX10_holds_382
  refine lv_sipush (v := 174) hx hb dX10_holds_0 (by decide) ?_
  refine lv_iconst (v := 4) hx hb dX10_holds_3 (by decide) ?_
  refine lv_iload_n hx hb dX10_holds_4 rfl (lv_at hl 1 rfl) ?_
  refine lv_imul hx hb dX10_holds_5 (lv_topi (fun v_6 e_v_6 => ?_))
  obtain ⟨t_v_6, r_v_6⟩ := tq_mul (lo := 0) (hi := 188) rl_4 r_p1 (by decide +kernel) e_v_6
  have t_v_6 : v_6.toInt = 4 * p1.toInt := t_v_6
  refine lv_iadd hx hb dX10_holds_6 (lv_topi (fun v_7 e_v_7 => ?_))
  obtain ⟨t_v_7, r_v_7⟩ := tq_add (lo := 174) (hi := 362) rl_174 r_v_6 (by decide +kernel) e_v_7
  have t_v_7 : v_7.toInt = 174 + v_6.toInt := t_v_7
  refine lv_istore_n (lv' := [(3, .int v_7), (0, .ref p0), (1, .int p1), (2, .int p2)]) hx hb dX10_holds_7 rfl hl (by decide) rfl (fun ls hl => ?_)
  refine lv_aload_n hx hb dX10_holds_8 rfl (lv_at hl 1 rfl) ?_
  refine tg_get (ci := 10) (ts := ty_MODEL) (C := RX10) (T := TX10) (N := 49) hx hb hts inX10 hown hK hw h_p0 rfl rfl 14 (by decide) (hts _ tw_1151) (fun _ h9 => h9) (ft := vR 34) rfl dX10_holds_9 (fun u_8 hv_u_8 m_u_8 => ?_)
  obtain ⟨vu_8, rfl, h_vu_8⟩ := hv_u_8
  refine lv_iload_n hx hb dX10_holds_12 rfl (lv_at hl 0 rfl) ?_
  refine lv_iconst (v := 1) hx hb dX10_holds_13 (by decide) ?_
  refine lv_iadd hx hb dX10_holds_14 (lv_topi (fun v_9 e_v_9 => ?_))
  obtain ⟨t_v_9, r_v_9⟩ := tq_add (lo := 175) (hi := 363) r_v_7 rl_1 (by decide +kernel) e_v_9
  have t_v_9 : v_9.toInt = v_7.toInt + 1 := t_v_9
  refine tg_iald (lo := (-2147483648)) (hi := 2147483647) hx hb hK hw h_vu_8 rfl 175 363 r_v_9 (by decide) (by decide +kernel) dX10_holds_15 (fun v_10 r_v_10 m_v_10 o_v_10 => ?_)
  refine lv_istore (lv' := [(4, .int v_10), (3, .int v_7), (0, .ref p0), (1, .int p1), (2, .int p2)]) hx hb dX10_holds_16 hl (by decide) rfl (fun ls hl => ?_)
  refine lv_aload_n hx hb dX10_holds_18 rfl (lv_at hl 2 rfl) ?_
  refine tg_mem (ci := 10) (C := RX10) (T := TX10) (N := 49) hx hb hts inX10 hown hK hw 14 m_u_8 rfl (by decide) (hts _ tw_1151) (fun _ h9 => h9) dX10_holds_19 ?_
  refine lv_iload_n hx hb dX10_holds_22 rfl (lv_at hl 1 rfl) ?_
  refine lv_iconst (v := 2) hx hb dX10_holds_23 (by decide) ?_
  refine lv_iadd hx hb dX10_holds_24 (lv_topi (fun v_11 e_v_11 => ?_))
  obtain ⟨t_v_11, r_v_11⟩ := tq_add (lo := 176) (hi := 364) r_v_7 rl_2 (by decide +kernel) e_v_11
  have t_v_11 : v_11.toInt = v_7.toInt + 2 := t_v_11
  refine tg_iald (lo := (-2147483648)) (hi := 2147483647) hx hb hK hw h_vu_8 rfl 176 364 r_v_11 (by decide) (by decide +kernel) dX10_holds_25 (fun v_12 r_v_12 m_v_12 o_v_12 => ?_)
  refine lv_istore (lv' := [(5, .int v_12), (4, .int v_10), (3, .int v_7), (0, .ref p0), (1, .int p1), (2, .int p2)]) hx hb dX10_holds_26 hl (by decide) rfl (fun ls hl => ?_)
  refine lv_aload_n hx hb dX10_holds_28 rfl (lv_at hl 3 rfl) ?_
  refine tg_mem (ci := 10) (C := RX10) (T := TX10) (N := 49) hx hb hts inX10 hown hK hw 14 m_u_8 rfl (by decide) (hts _ tw_1151) (fun _ h9 => h9) dX10_holds_29 ?_
  refine lv_iload_n hx hb dX10_holds_32 rfl (lv_at hl 2 rfl) ?_
  refine tg_iald (lo := (-2147483648)) (hi := 2147483647) hx hb hK hw h_vu_8 rfl 174 362 r_v_7 (by decide) (by decide +kernel) dX10_holds_33 (fun v_13 r_v_13 m_v_13 o_v_13 => ?_)
  by_cases k_34_1 : v_13 = 1
  · refine lv_lookup (tgt := 108) (off := 74) hx hb dX10_holds_34 (by decide) (by rw [k_34_1]; decide) (by decide) ?_
    have r_v_13 : RI v_13 1 1 := by rw [k_34_1]; exact rl_1
    have g_v_10 : 0 ≤ v_10.toInt ∧ v_10.toInt < p1.toInt := by obtain ⟨_, f9, e8, e7, q9, _⟩ := ax_of (k := 14) (t := 34) hw h_p0 rfl (fun _ => rfl); cases FLD.inj hw.2.2.1 e8 m_u_8; have t9 := ARR.ael hw.2.2.1 e7 m_v_13; have x9 := ARR.ael hw.2.2.1 e7 m_v_10; rw [show Int32.toNatClampNeg v_7 = 174 + 4 * Int32.toNatClampNeg p1 from (by have k1 := r_v_7.cl (by decide); have k2 := r_p1.cl (by decide); omega)] at t9; rw [show Int32.toNatClampNeg v_9 = 175 + 4 * Int32.toNatClampNeg p1 from (by have k1 := r_v_9.cl (by decide); have k2 := r_p1.cl (by decide); omega)] at x9; exact RN_child q9 (r_p1.to (by decide)) t9 x9 (r_v_13.to (by decide))
    have r_v_10 : RI v_10 0 46 := ⟨g_v_10.1, by have k1 := r_p1.2; omega⟩
    refine lv_aload_n hx hb dX10_holds_108 rfl (lv_at hl 3 rfl) ?_
    refine lv_iload hx hb dX10_holds_109 (lv_at hl 1 rfl) ?_
    refine lv_iload_n hx hb dX10_holds_111 rfl (lv_at hl 5 rfl) ?_
    refine tk_ir (va_runV (As := [.int v_10, .int p2]) (rest := []) ⟨hx, hb, hml, hown, hts⟩ (c_X10_holds__13 l D cy z s.heap.size Ps w0 hw.1 p0 v_10 p2 h_p0 r_v_10 r_p2) (cwV 2 hts (gV tw_1787 tw_1789 ts_119 tw_15 tw_1790) rfl rfl rfl (by decide +kernel) ⟨Nat.le_of_ble_eq_true rfl, Nat.le_of_ble_eq_true rfl⟩) (tg_preV hw hK hSD hA (ci := 10) (q := (RX10, TX10, 49)) rfl h_p0 rfl) rfl rfl hl.1 rfl (lv_room (Nat.le_of_ble_eq_true rfl)) dX10_holds_112 ⟨Nat.le_of_ble_eq_true rfl, Nat.le_of_ble_eq_true rfl⟩) hw hA (fun v_14  H locs hp_v_14 hw => ?_)
    have r_v_14 : RI v_14 0 1 := hp_v_14.1
    refine lv_if_ne (tgt := 122) hx hb dX10_holds_115 (by decide) (fun c_115 => ?_) (fun c_115 => ?_)
    · have r_v_14 : RI v_14 1 1 := rc_neL r_v_14 rl_0 (ti_ne c_115) (by decide)
      refine lv_iconst (v := 0) hx hb dX10_holds_122 (by decide) ?_
      subst hQ
      exact W.zret (v := 0) hx hb hr (rfl) (fun t ht hW => ⟨⟨0, (), rfl, ⟨rl_0.to (by decide), (fun h0 => trivial), (fun _ => trivial)⟩, by rw [ht]; exact hw.2.1, va_K.moved hW.alike hK, hw.2.2.1⟩, hw.2.2.2.1.F ht⟩) hw.2.2.2.1.2.2 dX10_holds_123
    · have r_v_14 : RI v_14 0 0 := rc_eq1 r_v_14 rl_0 (ti_eq c_115) (by decide)
      refine lv_iconst (v := 1) hx hb dX10_holds_118 (by decide) ?_
      refine lv_goto (tgt := 123) hx hb dX10_holds_119 (by decide) ?_
      subst hQ
      exact W.zret (v := 1) hx hb hr (rfl) (fun t ht hW => ⟨⟨1, (), rfl, ⟨rl_1.to (by decide), (fun _ => trivial), (fun h0 => trivial)⟩, by rw [ht]; exact hw.2.1, va_K.moved hW.alike hK, hw.2.2.1⟩, hw.2.2.2.1.F ht⟩) hw.2.2.2.1.2.2 dX10_holds_123
  · by_cases k_34_2 : v_13 = 2
    · refine lv_lookup (tgt := 124) (off := 90) hx hb dX10_holds_34 (by decide) (by rw [k_34_2]; decide) (by decide) ?_
      have r_v_13 : RI v_13 2 2 := by rw [k_34_2]; exact rl_2
      have g_v_10 : 0 ≤ v_10.toInt ∧ v_10.toInt < p1.toInt := by obtain ⟨_, f9, e8, e7, q9, _⟩ := ax_of (k := 14) (t := 34) hw h_p0 rfl (fun _ => rfl); cases FLD.inj hw.2.2.1 e8 m_u_8; have t9 := ARR.ael hw.2.2.1 e7 m_v_13; have x9 := ARR.ael hw.2.2.1 e7 m_v_10; rw [show Int32.toNatClampNeg v_7 = 174 + 4 * Int32.toNatClampNeg p1 from (by have k1 := r_v_7.cl (by decide); have k2 := r_p1.cl (by decide); omega)] at t9; rw [show Int32.toNatClampNeg v_9 = 175 + 4 * Int32.toNatClampNeg p1 from (by have k1 := r_v_9.cl (by decide); have k2 := r_p1.cl (by decide); omega)] at x9; exact RN_child q9 (r_p1.to (by decide)) t9 x9 (r_v_13.to (by decide))
      have r_v_10 : RI v_10 0 46 := ⟨g_v_10.1, by have k1 := r_p1.2; omega⟩
      have g_v_12 : 0 ≤ v_12.toInt ∧ v_12.toInt < p1.toInt := by obtain ⟨_, f9, e8, e7, q9, _⟩ := ax_of (k := 14) (t := 34) hw h_p0 rfl (fun _ => rfl); cases FLD.inj hw.2.2.1 e8 m_u_8; have t9 := ARR.ael hw.2.2.1 e7 m_v_13; have x9 := ARR.ael hw.2.2.1 e7 m_v_12; rw [show Int32.toNatClampNeg v_7 = 174 + 4 * Int32.toNatClampNeg p1 from (by have k1 := r_v_7.cl (by decide); have k2 := r_p1.cl (by decide); omega)] at t9; rw [show Int32.toNatClampNeg v_11 = 176 + 4 * Int32.toNatClampNeg p1 from (by have k1 := r_v_11.cl (by decide); have k2 := r_p1.cl (by decide); omega)] at x9; exact RN_child2 q9 (r_p1.to (by decide)) t9 x9 (r_v_13.to (by decide))
      have r_v_12 : RI v_12 0 46 := ⟨g_v_12.1, by have k1 := r_p1.2; omega⟩
      refine lv_aload_n hx hb dX10_holds_124 rfl (lv_at hl 3 rfl) ?_
      refine lv_iload hx hb dX10_holds_125 (lv_at hl 1 rfl) ?_
      refine lv_iload_n hx hb dX10_holds_127 rfl (lv_at hl 5 rfl) ?_
      refine tk_ir (va_runV (As := [.int v_10, .int p2]) (rest := []) ⟨hx, hb, hml, hown, hts⟩ (c_X10_holds__13 l D cy z s.heap.size Ps w0 hw.1 p0 v_10 p2 h_p0 r_v_10 r_p2) (cwV 2 hts (gV tw_1787 tw_1789 ts_119 tw_15 tw_1790) rfl rfl rfl (by decide +kernel) ⟨Nat.le_of_ble_eq_true rfl, Nat.le_of_ble_eq_true rfl⟩) (tg_preV hw hK hSD hA (ci := 10) (q := (RX10, TX10, 49)) rfl h_p0 rfl) rfl rfl hl.1 rfl (lv_room (Nat.le_of_ble_eq_true rfl)) dX10_holds_128 ⟨Nat.le_of_ble_eq_true rfl, Nat.le_of_ble_eq_true rfl⟩) hw hA (fun v_15  H locs hp_v_15 hw => ?_)
      have r_v_15 : RI v_15 0 1 := hp_v_15.1
      refine lv_if_eq (tgt := 148) hx hb dX10_holds_131 (by decide) (fun c_131 => ?_) (fun c_131 => ?_)
      · have r_v_15 : RI v_15 0 0 := rc_eq1 r_v_15 rl_0 (ti_eq c_131) (by decide)
        refine lv_iconst (v := 0) hx hb dX10_holds_148 (by decide) ?_
        subst hQ
        exact W.zret (v := 0) hx hb hr (rfl) (fun t ht hW => ⟨⟨0, (), rfl, ⟨rl_0.to (by decide), (fun h0 => trivial), (fun _ => trivial)⟩, by rw [ht]; exact hw.2.1, va_K.moved hW.alike hK, hw.2.2.1⟩, hw.2.2.2.1.F ht⟩) hw.2.2.2.1.2.2 dX10_holds_149
      · have r_v_15 : RI v_15 1 1 := rc_neL r_v_15 rl_0 (ti_ne c_131) (by decide)
        refine lv_aload_n hx hb dX10_holds_134 rfl (lv_at hl 3 rfl) ?_
        refine lv_iload hx hb dX10_holds_135 (lv_at hl 0 rfl) ?_
        refine lv_iload_n hx hb dX10_holds_137 rfl (lv_at hl 5 rfl) ?_
        refine tk_ir (va_runV (As := [.int v_12, .int p2]) (rest := []) ⟨hx, hb, hml, hown, hts⟩ (c_X10_holds__13 l D cy z H.size Ps w0 hw.1 p0 v_12 p2 h_p0 r_v_12 r_p2) (cwV 2 hts (gV tw_1787 tw_1789 ts_119 tw_15 tw_1790) rfl rfl rfl (by decide +kernel) ⟨Nat.le_of_ble_eq_true rfl, Nat.le_of_ble_eq_true rfl⟩) (tg_preV hw hK hSD hA (ci := 10) (q := (RX10, TX10, 49)) rfl h_p0 rfl) rfl rfl hl.1 rfl (lv_room (Nat.le_of_ble_eq_true rfl)) dX10_holds_138 ⟨Nat.le_of_ble_eq_true rfl, Nat.le_of_ble_eq_true rfl⟩) hw hA (fun v_16  H locs hp_v_16 hw => ?_)
        have r_v_16 : RI v_16 0 1 := hp_v_16.1
        refine lv_if_eq (tgt := 148) hx hb dX10_holds_141 (by decide) (fun c_141 => ?_) (fun c_141 => ?_)
        · have r_v_16 : RI v_16 0 0 := rc_eq1 r_v_16 rl_0 (ti_eq c_141) (by decide)
          refine lv_iconst (v := 0) hx hb dX10_holds_148 (by decide) ?_
          subst hQ
          exact W.zret (v := 0) hx hb hr (rfl) (fun t ht hW => ⟨⟨0, (), rfl, ⟨rl_0.to (by decide), (fun h0 => trivial), (fun _ => trivial)⟩, by rw [ht]; exact hw.2.1, va_K.moved hW.alike hK, hw.2.2.1⟩, hw.2.2.2.1.F ht⟩) hw.2.2.2.1.2.2 dX10_holds_149
        · have r_v_16 : RI v_16 1 1 := rc_neL r_v_16 rl_0 (ti_ne c_141) (by decide)
          refine lv_iconst (v := 1) hx hb dX10_holds_144 (by decide) ?_
          refine lv_goto (tgt := 149) hx hb dX10_holds_145 (by decide) ?_
          subst hQ
          exact W.zret (v := 1) hx hb hr (rfl) (fun t ht hW => ⟨⟨1, (), rfl, ⟨rl_1.to (by decide), (fun _ => trivial), (fun h0 => trivial)⟩, by rw [ht]; exact hw.2.1, va_K.moved hW.alike hK, hw.2.2.1⟩, hw.2.2.2.1.F ht⟩) hw.2.2.2.1.2.2 dX10_holds_149
    · by_cases k_34_3 : v_13 = 3
      · refine lv_lookup (tgt := 150) (off := 116) hx hb dX10_holds_34 (by decide) (by rw [k_34_3]; decide) (by decide) ?_
        have r_v_13 : RI v_13 3 3 := by rw [k_34_3]; exact rl_3
        have g_v_10 : 0 ≤ v_10.toInt ∧ v_10.toInt < p1.toInt := by obtain ⟨_, f9, e8, e7, q9, _⟩ := ax_of (k := 14) (t := 34) hw h_p0 rfl (fun _ => rfl); cases FLD.inj hw.2.2.1 e8 m_u_8; have t9 := ARR.ael hw.2.2.1 e7 m_v_13; have x9 := ARR.ael hw.2.2.1 e7 m_v_10; rw [show Int32.toNatClampNeg v_7 = 174 + 4 * Int32.toNatClampNeg p1 from (by have k1 := r_v_7.cl (by decide); have k2 := r_p1.cl (by decide); omega)] at t9; rw [show Int32.toNatClampNeg v_9 = 175 + 4 * Int32.toNatClampNeg p1 from (by have k1 := r_v_9.cl (by decide); have k2 := r_p1.cl (by decide); omega)] at x9; exact RN_child q9 (r_p1.to (by decide)) t9 x9 (r_v_13.to (by decide))
        have r_v_10 : RI v_10 0 46 := ⟨g_v_10.1, by have k1 := r_p1.2; omega⟩
        have g_v_12 : 0 ≤ v_12.toInt ∧ v_12.toInt < p1.toInt := by obtain ⟨_, f9, e8, e7, q9, _⟩ := ax_of (k := 14) (t := 34) hw h_p0 rfl (fun _ => rfl); cases FLD.inj hw.2.2.1 e8 m_u_8; have t9 := ARR.ael hw.2.2.1 e7 m_v_13; have x9 := ARR.ael hw.2.2.1 e7 m_v_12; rw [show Int32.toNatClampNeg v_7 = 174 + 4 * Int32.toNatClampNeg p1 from (by have k1 := r_v_7.cl (by decide); have k2 := r_p1.cl (by decide); omega)] at t9; rw [show Int32.toNatClampNeg v_11 = 176 + 4 * Int32.toNatClampNeg p1 from (by have k1 := r_v_11.cl (by decide); have k2 := r_p1.cl (by decide); omega)] at x9; exact RN_child2 q9 (r_p1.to (by decide)) t9 x9 (r_v_13.to (by decide))
        have r_v_12 : RI v_12 0 46 := ⟨g_v_12.1, by have k1 := r_p1.2; omega⟩
        refine lv_aload_n hx hb dX10_holds_150 rfl (lv_at hl 3 rfl) ?_
        refine lv_iload hx hb dX10_holds_151 (lv_at hl 1 rfl) ?_
        refine lv_iload_n hx hb dX10_holds_153 rfl (lv_at hl 5 rfl) ?_
        refine tk_ir (va_runV (As := [.int v_10, .int p2]) (rest := []) ⟨hx, hb, hml, hown, hts⟩ (c_X10_holds__13 l D cy z s.heap.size Ps w0 hw.1 p0 v_10 p2 h_p0 r_v_10 r_p2) (cwV 2 hts (gV tw_1787 tw_1789 ts_119 tw_15 tw_1790) rfl rfl rfl (by decide +kernel) ⟨Nat.le_of_ble_eq_true rfl, Nat.le_of_ble_eq_true rfl⟩) (tg_preV hw hK hSD hA (ci := 10) (q := (RX10, TX10, 49)) rfl h_p0 rfl) rfl rfl hl.1 rfl (lv_room (Nat.le_of_ble_eq_true rfl)) dX10_holds_154 ⟨Nat.le_of_ble_eq_true rfl, Nat.le_of_ble_eq_true rfl⟩) hw hA (fun v_17  H locs hp_v_17 hw => ?_)
        have r_v_17 : RI v_17 0 1 := hp_v_17.1
        refine lv_if_ne (tgt := 170) hx hb dX10_holds_157 (by decide) (fun c_157 => ?_) (fun c_157 => ?_)
        · have r_v_17 : RI v_17 1 1 := rc_neL r_v_17 rl_0 (ti_ne c_157) (by decide)
          refine lv_iconst (v := 1) hx hb dX10_holds_170 (by decide) ?_
          refine lv_goto (tgt := 175) hx hb dX10_holds_171 (by decide) ?_
          subst hQ
          exact W.zret (v := 1) hx hb hr (rfl) (fun t ht hW => ⟨⟨1, (), rfl, ⟨rl_1.to (by decide), (fun _ => trivial), (fun h0 => trivial)⟩, by rw [ht]; exact hw.2.1, va_K.moved hW.alike hK, hw.2.2.1⟩, hw.2.2.2.1.F ht⟩) hw.2.2.2.1.2.2 dX10_holds_175
        · have r_v_17 : RI v_17 0 0 := rc_eq1 r_v_17 rl_0 (ti_eq c_157) (by decide)
          refine lv_aload_n hx hb dX10_holds_160 rfl (lv_at hl 3 rfl) ?_
          refine lv_iload hx hb dX10_holds_161 (lv_at hl 0 rfl) ?_
          refine lv_iload_n hx hb dX10_holds_163 rfl (lv_at hl 5 rfl) ?_
          refine tk_ir (va_runV (As := [.int v_12, .int p2]) (rest := []) ⟨hx, hb, hml, hown, hts⟩ (c_X10_holds__13 l D cy z H.size Ps w0 hw.1 p0 v_12 p2 h_p0 r_v_12 r_p2) (cwV 2 hts (gV tw_1787 tw_1789 ts_119 tw_15 tw_1790) rfl rfl rfl (by decide +kernel) ⟨Nat.le_of_ble_eq_true rfl, Nat.le_of_ble_eq_true rfl⟩) (tg_preV hw hK hSD hA (ci := 10) (q := (RX10, TX10, 49)) rfl h_p0 rfl) rfl rfl hl.1 rfl (lv_room (Nat.le_of_ble_eq_true rfl)) dX10_holds_164 ⟨Nat.le_of_ble_eq_true rfl, Nat.le_of_ble_eq_true rfl⟩) hw hA (fun v_18  H locs hp_v_18 hw => ?_)
          have r_v_18 : RI v_18 0 1 := hp_v_18.1
          refine lv_if_eq (tgt := 174) hx hb dX10_holds_167 (by decide) (fun c_167 => ?_) (fun c_167 => ?_)
          · have r_v_18 : RI v_18 0 0 := rc_eq1 r_v_18 rl_0 (ti_eq c_167) (by decide)
            refine lv_iconst (v := 0) hx hb dX10_holds_174 (by decide) ?_
            subst hQ
            exact W.zret (v := 0) hx hb hr (rfl) (fun t ht hW => ⟨⟨0, (), rfl, ⟨rl_0.to (by decide), (fun h0 => trivial), (fun _ => trivial)⟩, by rw [ht]; exact hw.2.1, va_K.moved hW.alike hK, hw.2.2.1⟩, hw.2.2.2.1.F ht⟩) hw.2.2.2.1.2.2 dX10_holds_175
          · have r_v_18 : RI v_18 1 1 := rc_neL r_v_18 rl_0 (ti_ne c_167) (by decide)
            refine lv_iconst (v := 1) hx hb dX10_holds_170 (by decide) ?_
            refine lv_goto (tgt := 175) hx hb dX10_holds_171 (by decide) ?_
            subst hQ
            exact W.zret (v := 1) hx hb hr (rfl) (fun t ht hW => ⟨⟨1, (), rfl, ⟨rl_1.to (by decide), (fun _ => trivial), (fun h0 => trivial)⟩, by rw [ht]; exact hw.2.1, va_K.moved hW.alike hK, hw.2.2.1⟩, hw.2.2.2.1.F ht⟩) hw.2.2.2.1.2.2 dX10_holds_175
      · by_cases k_34_69 : v_13 = 69
        · refine lv_lookup (tgt := 176) (off := 142) hx hb dX10_holds_34 (by decide) (by rw [k_34_69]; decide) (by decide) ?_
          have r_v_13 : RI v_13 69 69 := by rw [k_34_69]; exact rl_69
          refine lv_aload_n hx hb dX10_holds_176 rfl (lv_at hl 3 rfl) ?_
          refine lv_iload_n hx hb dX10_holds_177 rfl (lv_at hl 5 rfl) ?_
          refine tk_ir (va_runV (As := [.int p2]) (rest := []) ⟨hx, hb, hml, hown, hts⟩ (c_X10_isOpen l D cy z s.heap.size Ps w0 hw.1 p0 p2 h_p0 (r_p2.to (by decide))) (cwV 1 hts (gV tw_1457 tw_1459 ts_71 tw_15 tw_1460) rfl rfl rfl (by decide +kernel) ⟨Nat.le_of_ble_eq_true rfl, Nat.le_of_ble_eq_true rfl⟩) (tg_preV hw hK hSD hA (ci := 10) (q := (RX10, TX10, 49)) rfl h_p0 rfl) rfl rfl hl.1 rfl (lv_room (Nat.le_of_ble_eq_true rfl)) dX10_holds_178 ⟨Nat.le_of_ble_eq_true rfl, Nat.le_of_ble_eq_true rfl⟩) hw hA (fun v_19  H locs hp_v_19 hw => ?_)
          have r_v_19 : RI v_19 0 1 := hp_v_19.1
          subst hQ
          exact W.zret (v := v_19) hx hb hr (tq_nz (r_v_19.to (by decide))) (fun t ht hW => ⟨⟨v_19, (), rfl, ⟨r_v_19.to (by decide), (fun h0 => trivial), (fun h0 => trivial)⟩, by rw [ht]; exact hw.2.1, va_K.moved hW.alike hK, hw.2.2.1⟩, hw.2.2.2.1.F ht⟩) hw.2.2.2.1.2.2 dX10_holds_181
        · by_cases k_34_70 : v_13 = 70
          · refine lv_lookup (tgt := 182) (off := 148) hx hb dX10_holds_34 (by decide) (by rw [k_34_70]; decide) (by decide) ?_
            have r_v_13 : RI v_13 70 70 := by rw [k_34_70]; exact rl_70
            refine lv_aload_n hx hb dX10_holds_182 rfl (lv_at hl 3 rfl) ?_
            refine lv_iload_n hx hb dX10_holds_183 rfl (lv_at hl 5 rfl) ?_
            refine tk_ir (va_runV (As := [.int p2]) (rest := []) ⟨hx, hb, hml, hown, hts⟩ (c_X10_whatIs l D cy z s.heap.size Ps w0 hw.1 p0 p2 h_p0 r_p2) (cwV 1 hts (gV tw_1449 tw_1451 ts_69 tw_15 tw_1452) rfl rfl rfl (by decide +kernel) ⟨Nat.le_of_ble_eq_true rfl, Nat.le_of_ble_eq_true rfl⟩) (tg_preV hw hK hSD hA (ci := 10) (q := (RX10, TX10, 49)) rfl h_p0 rfl) rfl rfl hl.1 rfl (lv_room (Nat.le_of_ble_eq_true rfl)) dX10_holds_184 ⟨Nat.le_of_ble_eq_true rfl, Nat.le_of_ble_eq_true rfl⟩) hw hA (fun v_20  H locs hp_v_20 hw => ?_)
            have r_v_20 : RI v_20 (-1) 5 := hp_v_20.1
            by_cases c9_v_20 : v_20.toInt < 0
            · have r_v_20 : RI v_20 (-1) (-1) := by unfold RI at r_v_20 ⊢; omega
              have x_NB_p0_p2 := (hp_v_20.2.2.2.2.1 (by omega)).1
              refine lv_iconst (v := (-1)) hx hb dX10_holds_187 (by decide) ?_
              refine lv_icmp_ne (tgt := 195) hx hb dX10_holds_188 (by decide) (fun c_188 => ?_) (fun c_188 => ?_)
              · exact absurd (r_v_20.eq.trans rl_m1.eq.symm) ((ti_ne c_188))
              · refine lv_iconst (v := 1) hx hb dX10_holds_191 (by decide) ?_
                refine lv_goto (tgt := 196) hx hb dX10_holds_192 (by decide) ?_
                subst hQ
                exact W.zret (v := 1) hx hb hr (rfl) (fun t ht hW => ⟨⟨1, (), rfl, ⟨rl_1.to (by decide), (fun _ => trivial), (fun h0 => trivial)⟩, by rw [ht]; exact hw.2.1, va_K.moved hW.alike hK, hw.2.2.1⟩, hw.2.2.2.1.F ht⟩) hw.2.2.2.1.2.2 dX10_holds_196
            · have r_v_20 : RI v_20 0 5 := by unfold RI at r_v_20 ⊢; omega
              have x_WB_p0_p2_v_20 := (hp_v_20.2.2.2.2.2 (by omega)).1
              refine lv_iconst (v := (-1)) hx hb dX10_holds_187 (by decide) ?_
              refine lv_icmp_ne (tgt := 195) hx hb dX10_holds_188 (by decide) (fun c_188 => ?_) (fun c_188 => ?_)
              · refine lv_iconst (v := 0) hx hb dX10_holds_195 (by decide) ?_
                subst hQ
                exact W.zret (v := 0) hx hb hr (rfl) (fun t ht hW => ⟨⟨0, (), rfl, ⟨rl_0.to (by decide), (fun h0 => trivial), (fun _ => trivial)⟩, by rw [ht]; exact hw.2.1, va_K.moved hW.alike hK, hw.2.2.1⟩, hw.2.2.2.1.F ht⟩) hw.2.2.2.1.2.2 dX10_holds_196
              · have r_v_20 : RI v_20 0 (-1) := rc_eq1 r_v_20 rl_m1 (ti_eq c_188) (by decide)
                exact (r_v_20.no (by decide)).elim
          · by_cases k_34_71 : v_13 = 71
            · refine lv_lookup (tgt := 197) (off := 163) hx hb dX10_holds_34 (by decide) (by rw [k_34_71]; decide) (by decide) ?_
              have r_v_13 : RI v_13 71 71 := by rw [k_34_71]; exact rl_71
              refine lv_aload_n hx hb dX10_holds_197 rfl (lv_at hl 3 rfl) ?_
              refine lv_iload_n hx hb dX10_holds_198 rfl (lv_at hl 5 rfl) ?_
              refine tk_ir (va_runV (As := [.int p2]) (rest := []) ⟨hx, hb, hml, hown, hts⟩ (c_X10_sittersOf l D cy z s.heap.size Ps w0 hw.1 p0 p2 h_p0 (r_p2.to (by decide))) (cwV 1 hts (gV tw_1461 tw_1463 ts_72 tw_15 tw_1464) rfl rfl rfl (by decide +kernel) ⟨Nat.le_of_ble_eq_true rfl, Nat.le_of_ble_eq_true rfl⟩) (tg_preV hw hK hSD hA (ci := 10) (q := (RX10, TX10, 49)) rfl h_p0 rfl) rfl rfl hl.1 rfl (lv_room (Nat.le_of_ble_eq_true rfl)) dX10_holds_199 ⟨Nat.le_of_ble_eq_true rfl, Nat.le_of_ble_eq_true rfl⟩) hw hA (fun v_21  H locs hp_v_21 hw => ?_)
              have r_v_21 : RI v_21 (-2147483648) 2147483647 := hp_v_21.1
              refine lv_if_eq (tgt := 209) hx hb dX10_holds_202 (by decide) (fun c_202 => ?_) (fun c_202 => ?_)
              · have r_v_21 : RI v_21 0 0 := rc_eq1 r_v_21 rl_0 (ti_eq c_202) (by decide)
                refine lv_iconst (v := 0) hx hb dX10_holds_209 (by decide) ?_
                subst hQ
                exact W.zret (v := 0) hx hb hr (rfl) (fun t ht hW => ⟨⟨0, (), rfl, ⟨rl_0.to (by decide), (fun h0 => trivial), (fun _ => trivial)⟩, by rw [ht]; exact hw.2.1, va_K.moved hW.alike hK, hw.2.2.1⟩, hw.2.2.2.1.F ht⟩) hw.2.2.2.1.2.2 dX10_holds_210
              · refine lv_iconst (v := 1) hx hb dX10_holds_205 (by decide) ?_
                refine lv_goto (tgt := 210) hx hb dX10_holds_206 (by decide) ?_
                subst hQ
                exact W.zret (v := 1) hx hb hr (rfl) (fun t ht hW => ⟨⟨1, (), rfl, ⟨rl_1.to (by decide), (fun _ => trivial), (fun h0 => trivial)⟩, by rw [ht]; exact hw.2.1, va_K.moved hW.alike hK, hw.2.2.1⟩, hw.2.2.2.1.F ht⟩) hw.2.2.2.1.2.2 dX10_holds_210
            · by_cases k_34_72 : v_13 = 72
              · refine lv_lookup (tgt := 211) (off := 177) hx hb dX10_holds_34 (by decide) (by rw [k_34_72]; decide) (by decide) ?_
                have r_v_13 : RI v_13 72 72 := by rw [k_34_72]; exact rl_72
                refine lv_aload_n hx hb dX10_holds_211 rfl (lv_at hl 3 rfl) ?_
                refine lv_iload_n hx hb dX10_holds_212 rfl (lv_at hl 5 rfl) ?_
                refine tk_ir (va_runV (As := [.int p2]) (rest := []) ⟨hx, hb, hml, hown, hts⟩ (c_X10_whatIs l D cy z s.heap.size Ps w0 hw.1 p0 p2 h_p0 r_p2) (cwV 1 hts (gV tw_1449 tw_1451 ts_69 tw_15 tw_1452) rfl rfl rfl (by decide +kernel) ⟨Nat.le_of_ble_eq_true rfl, Nat.le_of_ble_eq_true rfl⟩) (tg_preV hw hK hSD hA (ci := 10) (q := (RX10, TX10, 49)) rfl h_p0 rfl) rfl rfl hl.1 rfl (lv_room (Nat.le_of_ble_eq_true rfl)) dX10_holds_213 ⟨Nat.le_of_ble_eq_true rfl, Nat.le_of_ble_eq_true rfl⟩) hw hA (fun v_22  H locs hp_v_22 hw => ?_)
                have r_v_22 : RI v_22 (-1) 5 := hp_v_22.1
                by_cases c9_v_22 : v_22.toInt < 0
                · have r_v_22 : RI v_22 (-1) (-1) := by unfold RI at r_v_22 ⊢; omega
                  have x_NB_p0_p2 := (hp_v_22.2.2.2.2.1 (by omega)).1
                  refine lv_iload hx hb dX10_holds_216 (lv_at hl 1 rfl) ?_
                  refine lv_icmp_ne (tgt := 225) hx hb dX10_holds_218 (by decide) (fun c_218 => ?_) (fun c_218 => ?_)
                  · refine lv_iconst (v := 0) hx hb dX10_holds_225 (by decide) ?_
                    subst hQ
                    exact W.zret (v := 0) hx hb hr (rfl) (fun t ht hW => ⟨⟨0, (), rfl, ⟨rl_0.to (by decide), (fun h0 => trivial), (fun _ => trivial)⟩, by rw [ht]; exact hw.2.1, va_K.moved hW.alike hK, hw.2.2.1⟩, hw.2.2.2.1.F ht⟩) hw.2.2.2.1.2.2 dX10_holds_226
                  · have r_v_10 : RI v_10 (-1) (-1) := rc_eq2 r_v_22 r_v_10 (ti_eq c_218) (by decide)
                    refine lv_iconst (v := 1) hx hb dX10_holds_221 (by decide) ?_
                    refine lv_goto (tgt := 226) hx hb dX10_holds_222 (by decide) ?_
                    subst hQ
                    exact W.zret (v := 1) hx hb hr (rfl) (fun t ht hW => ⟨⟨1, (), rfl, ⟨rl_1.to (by decide), (fun _ => trivial), (fun h0 => trivial)⟩, by rw [ht]; exact hw.2.1, va_K.moved hW.alike hK, hw.2.2.1⟩, hw.2.2.2.1.F ht⟩) hw.2.2.2.1.2.2 dX10_holds_226
                · have r_v_22 : RI v_22 0 5 := by unfold RI at r_v_22 ⊢; omega
                  have x_WB_p0_p2_v_22 := (hp_v_22.2.2.2.2.2 (by omega)).1
                  refine lv_iload hx hb dX10_holds_216 (lv_at hl 1 rfl) ?_
                  refine lv_icmp_ne (tgt := 225) hx hb dX10_holds_218 (by decide) (fun c_218 => ?_) (fun c_218 => ?_)
                  · refine lv_iconst (v := 0) hx hb dX10_holds_225 (by decide) ?_
                    subst hQ
                    exact W.zret (v := 0) hx hb hr (rfl) (fun t ht hW => ⟨⟨0, (), rfl, ⟨rl_0.to (by decide), (fun h0 => trivial), (fun _ => trivial)⟩, by rw [ht]; exact hw.2.1, va_K.moved hW.alike hK, hw.2.2.1⟩, hw.2.2.2.1.F ht⟩) hw.2.2.2.1.2.2 dX10_holds_226
                  · have r_v_10 : RI v_10 0 5 := rc_eq2 r_v_22 r_v_10 (ti_eq c_218) (by decide)
                    refine lv_iconst (v := 1) hx hb dX10_holds_221 (by decide) ?_
                    refine lv_goto (tgt := 226) hx hb dX10_holds_222 (by decide) ?_
                    subst hQ
                    exact W.zret (v := 1) hx hb hr (rfl) (fun t ht hW => ⟨⟨1, (), rfl, ⟨rl_1.to (by decide), (fun _ => trivial), (fun h0 => trivial)⟩, by rw [ht]; exact hw.2.1, va_K.moved hW.alike hK, hw.2.2.1⟩, hw.2.2.2.1.F ht⟩) hw.2.2.2.1.2.2 dX10_holds_226
              · by_cases k_34_73 : v_13 = 73
                · refine lv_lookup (tgt := 227) (off := 193) hx hb dX10_holds_34 (by decide) (by rw [k_34_73]; decide) (by decide) ?_
                  have r_v_13 : RI v_13 73 73 := by rw [k_34_73]; exact rl_73
                  refine lv_aload_n hx hb dX10_holds_227 rfl (lv_at hl 3 rfl) ?_
                  refine tg_mem (ci := 10) (C := RX10) (T := TX10) (N := 49) hx hb hts inX10 hown hK hw 14 m_u_8 rfl (by decide) (hts _ tw_1151) (fun _ h9 => h9) dX10_holds_228 ?_
                  refine lv_bipush (v := 86) hx hb dX10_holds_231 (by decide) ?_
                  refine lv_iload_n hx hb dX10_holds_233 rfl (lv_at hl 5 rfl) ?_
                  refine lv_iadd hx hb dX10_holds_234 (lv_topi (fun v_23 e_v_23 => ?_))
                  obtain ⟨t_v_23, r_v_23⟩ := tq_add (lo := 86) (hi := 91) rl_86 r_p2 (by decide +kernel) e_v_23
                  have t_v_23 : v_23.toInt = 86 + p2.toInt := t_v_23
                  refine tg_iald (lo := (-2147483648)) (hi := 2147483647) hx hb hK hw h_vu_8 rfl 86 91 r_v_23 (by decide) (by decide +kernel) dX10_holds_235 (fun v_24 r_v_24 m_v_24 o_v_24 => ?_)
                  refine lv_iload hx hb dX10_holds_236 (lv_at hl 1 rfl) ?_
                  refine lv_icmp_ne (tgt := 245) hx hb dX10_holds_238 (by decide) (fun c_238 => ?_) (fun c_238 => ?_)
                  · refine lv_iconst (v := 0) hx hb dX10_holds_245 (by decide) ?_
                    subst hQ
                    exact W.zret (v := 0) hx hb hr (rfl) (fun t ht hW => ⟨⟨0, (), rfl, ⟨rl_0.to (by decide), (fun h0 => trivial), (fun _ => trivial)⟩, by rw [ht]; exact hw.2.1, va_K.moved hW.alike hK, hw.2.2.1⟩, hw.2.2.2.1.F ht⟩) hw.2.2.2.1.2.2 dX10_holds_246
                  · refine lv_iconst (v := 1) hx hb dX10_holds_241 (by decide) ?_
                    refine lv_goto (tgt := 246) hx hb dX10_holds_242 (by decide) ?_
                    subst hQ
                    exact W.zret (v := 1) hx hb hr (rfl) (fun t ht hW => ⟨⟨1, (), rfl, ⟨rl_1.to (by decide), (fun _ => trivial), (fun h0 => trivial)⟩, by rw [ht]; exact hw.2.1, va_K.moved hW.alike hK, hw.2.2.1⟩, hw.2.2.2.1.F ht⟩) hw.2.2.2.1.2.2 dX10_holds_246
                · refine lv_lookup (tgt := 247) (off := 213) hx hb dX10_holds_34 (by decide) ((lv_osw k_34_1 (by decide)).trans ((lv_osw k_34_2 (by decide)).trans ((lv_osw k_34_3 (by decide)).trans ((lv_osw k_34_69 (by decide)).trans ((lv_osw k_34_70 (by decide)).trans ((lv_osw k_34_71 (by decide)).trans ((lv_osw k_34_72 (by decide)).trans ((lv_osw k_34_73 (by decide)).trans (rfl))))))))) (by decide) ?_
                  refine lv_aload_n hx hb dX10_holds_247 rfl (lv_at hl 3 rfl) ?_
                  refine tg_mem (ci := 10) (C := RX10) (T := TX10) (N := 49) hx hb hts inX10 hown hK hw 14 m_u_8 rfl (by decide) (hts _ tw_1151) (fun _ h9 => h9) dX10_holds_248 ?_
                  refine lv_iload_n hx hb dX10_holds_251 rfl (lv_at hl 2 rfl) ?_
                  refine tg_imem hx hb hK hw h_vu_8 rfl r_v_7 (by decide) m_v_13 dX10_holds_252 ?_
                  refine lv_bipush (v := 50) hx hb dX10_holds_253 (by decide) ?_
                  refine lv_isub hx hb dX10_holds_255 (lv_topi (fun v_26 e_v_26 => ?_))
                  have r_v_26 := ri_any v_26
                  refine lv_istore (lv' := [(6, .int v_26), (5, .int v_12), (4, .int v_10), (3, .int v_7), (0, .ref p0), (1, .int p1), (2, .int p2)]) hx hb dX10_holds_256 hl (by decide) rfl (fun ls hl => ?_)
                  refine lv_iload hx hb dX10_holds_258 (lv_at hl 0 rfl) ?_
                  refine lv_bipush (v := 24) hx hb dX10_holds_260 (by decide) ?_
                  refine lv_icmp_ne (tgt := 273) hx hb dX10_holds_262 (by decide) (fun c_262 => ?_) (fun c_262 => ?_)
                  · refine lv_iload hx hb dX10_holds_273 (lv_at hl 0 rfl) ?_
                    refine lv_bipush (v := 25) hx hb dX10_holds_275 (by decide) ?_
                    refine lv_icmp_ne (tgt := 292) hx hb dX10_holds_277 (by decide) (fun c_277 => ?_) (fun c_277 => ?_)
                    · refine lv_iload hx hb dX10_holds_292 (lv_at hl 0 rfl) ?_
                      refine lv_bipush (v := 26) hx hb dX10_holds_294 (by decide) ?_
                      refine lv_icmp_ne (tgt := 311) hx hb dX10_holds_296 (by decide) (fun c_296 => ?_) (fun c_296 => ?_)
                      · refine lv_iload_n hx hb dX10_holds_311 rfl (lv_at hl 6 rfl) ?_
                        exact B312 v_7 v_10 v_12 v_26 p2 _ _ ls r_p1 r_p2 r_v_7 r_v_10 r_v_12 r_v_26 (r_p2.to (by decide)) hw (lv_sub hl [4, 5, 6, 3, 2, 1, 0] rfl)
                      · have r_v_26 : RI v_26 26 26 := rc_eq1 r_v_26 rl_26 (ti_eq c_296) (by decide)
                        refine lv_aload_n hx hb dX10_holds_299 rfl (lv_at hl 4 rfl) ?_
                        refine tg_mem (ci := 10) (C := RX10) (T := TX10) (N := 49) hx hb hts inX10 hown hK hw 14 m_u_8 rfl (by decide) (hts _ tw_1151) (fun _ h9 => h9) dX10_holds_300 ?_
                        refine lv_bipush (v := 98) hx hb dX10_holds_303 (by decide) ?_
                        refine lv_iload_n hx hb dX10_holds_305 rfl (lv_at hl 6 rfl) ?_
                        refine lv_iadd hx hb dX10_holds_306 (lv_topi (fun v_27 e_v_27 => ?_))
                        obtain ⟨t_v_27, r_v_27⟩ := tq_add (lo := 98) (hi := 103) rl_98 r_p2 (by decide +kernel) e_v_27
                        have t_v_27 : v_27.toInt = 98 + p2.toInt := t_v_27
                        refine tg_iald (lo := (-2147483648)) (hi := 2147483647) hx hb hK hw h_vu_8 rfl 98 103 r_v_27 (by decide) (by decide +kernel) dX10_holds_307 (fun v_28 r_v_28 m_v_28 o_v_28 => ?_)
                        refine lv_goto (tgt := 312) hx hb dX10_holds_308 (by decide) ?_
                        exact B312 v_7 v_10 v_12 v_26 v_28 _ _ ls r_p1 r_p2 r_v_7 r_v_10 r_v_12 (r_v_26.to (by decide)) r_v_28 hw (lv_sub hl [4, 5, 6, 3, 2, 1, 0] rfl)
                    · have r_v_26 : RI v_26 25 25 := rc_eq1 r_v_26 rl_25 (ti_eq c_277) (by decide)
                      refine lv_aload_n hx hb dX10_holds_280 rfl (lv_at hl 4 rfl) ?_
                      refine tg_mem (ci := 10) (C := RX10) (T := TX10) (N := 49) hx hb hts inX10 hown hK hw 14 m_u_8 rfl (by decide) (hts _ tw_1151) (fun _ h9 => h9) dX10_holds_281 ?_
                      refine lv_bipush (v := 92) hx hb dX10_holds_284 (by decide) ?_
                      refine lv_iload_n hx hb dX10_holds_286 rfl (lv_at hl 6 rfl) ?_
                      refine lv_iadd hx hb dX10_holds_287 (lv_topi (fun v_29 e_v_29 => ?_))
                      obtain ⟨t_v_29, r_v_29⟩ := tq_add (lo := 92) (hi := 97) rl_92 r_p2 (by decide +kernel) e_v_29
                      have t_v_29 : v_29.toInt = 92 + p2.toInt := t_v_29
                      refine tg_iald (lo := (-2147483648)) (hi := 2147483647) hx hb hK hw h_vu_8 rfl 92 97 r_v_29 (by decide) (by decide +kernel) dX10_holds_288 (fun v_30 r_v_30 m_v_30 o_v_30 => ?_)
                      refine lv_goto (tgt := 312) hx hb dX10_holds_289 (by decide) ?_
                      exact B312 v_7 v_10 v_12 v_26 v_30 _ _ ls r_p1 r_p2 r_v_7 r_v_10 r_v_12 (r_v_26.to (by decide)) r_v_30 hw (lv_sub hl [4, 5, 6, 3, 2, 1, 0] rfl)
                  · have r_v_26 : RI v_26 24 24 := rc_eq1 r_v_26 rl_24 (ti_eq c_262) (by decide)
                    refine lv_aload_n hx hb dX10_holds_265 rfl (lv_at hl 4 rfl) ?_
                    refine lv_iload_n hx hb dX10_holds_266 rfl (lv_at hl 6 rfl) ?_
                    refine tk_ir (va_runV (As := [.int p2]) (rest := []) ⟨hx, hb, hml, hown, hts⟩ (c_X10_sizeOf l D cy z s.heap.size Ps w0 hw.1 p0 p2 h_p0 r_p2) (cwV 1 hts (gV tw_1453 tw_1455 ts_70 tw_15 tw_1456) rfl rfl rfl (by decide +kernel) ⟨Nat.le_of_ble_eq_true rfl, Nat.le_of_ble_eq_true rfl⟩) (tg_preV hw hK hSD hA (ci := 10) (q := (RX10, TX10, 49)) rfl h_p0 rfl) rfl rfl hl.1 rfl (lv_room (Nat.le_of_ble_eq_true rfl)) dX10_holds_267 ⟨Nat.le_of_ble_eq_true rfl, Nat.le_of_ble_eq_true rfl⟩) hw hA (fun v_31  H locs hp_v_31 hw => ?_)
                    have r_v_31 : RI v_31 (-2147483648) 2147483647 := hp_v_31.1
                    refine lv_goto (tgt := 312) hx hb dX10_holds_270 (by decide) ?_
                    exact B312 v_7 v_10 v_12 v_26 v_31 _ _ ls r_p1 r_p2 r_v_7 r_v_10 r_v_12 (r_v_26.to (by decide)) r_v_31 hw (lv_sub hl [4, 5, 6, 3, 2, 1, 0] rfl)
abbrev wr_X10_holds__11 : List (Nat × Nat) := []
abbrev wa_X10_holds__11 : List Nat := []
set_option maxHeartbeats 4000000 in
set_option maxRecDepth 100000 in
theorem c_X10_holds__11 (l : Launch) (D : va_G) (cy : Nat → ClassId) (z : Nat → Nat) (sz : Nat) (Ps : PSI) (w0 : va_W) (hT : HT cy GG Ps w0) (p0 : Nat) (p1 : Int32) (p2 : Int32) (h_p0 : (p0, 55) ∈ Ps) (r_p1 : RI p1 0 48) (r_p2 : RI p2 0 5) : Met l yX10_holds (Cond.code yX10_holds cX10_holds 8 (some .boolean) :: gT) ({ frames := 51, cells := 0, slots := 0, locals := 10200 } : Room) (va_Pc [.ref p0, .int p1, .int p2] (PRE D cy z w0 sz)) (va_Qi (fun (r : Int32) (u : Unit) => RI r 0 1 ∧ (r = 0 → True) ∧ (¬ r = 0 → True)) (BB D cy (va_A w0 sz) (fun (u : Unit) => w0)) (va_A w0 sz)) 0 0 (va_A w0 sz) := by
  refine Met.ofW (cc := cX10_holds) (maxL := 8) (ret := (some .boolean)) (by decide) rfl ?_
  intro p e s m args below meth c s₁ B hml hv
  obtain ⟨rfl, hsz, hP, hK, hD0, hSD⟩ := hv
  have hx := B.exec
  have hb := B.bytes
  have hr := B.returns
  have hlocks := B.notSynchronized
  have hts : ∀ w ∈ gT, w.before _ s = true := fun w h => atoms_spec (ws := Cond.code yX10_holds cX10_holds 8 (some .boolean) :: gT) B.pre w (List.mem_cons_of_mem _ h)
  have hown : s.vm.findClass RX10 = some m.cls := findClass_of_methodNamed B.named
  subst hsz
  have hD := hD0.self (sz := s.heap.size)
  generalize hAe : va_A w0 s.heap.size = A at hD hSD ⊢
  have hA : ∀ q : Nat, s.heap.size ≤ q → A q := fun q h => by rw [← hAe]; exact Or.inr h
  have hl := lv_entry ([.ref p0, .int p1, .int p2]) (n := 8) (Nat.le_of_ble_eq_true rfl)
  rw [lg_entry_eq]
  generalize (lg_sl ([.ref p0, .int p1, .int p2]) ++ List.replicate (8 - (lg_sl ([.ref p0, .int p1, .int p2])).length) Slot.unset).toArray = ls at hl ⊢
  have hl : lv_has ls 8 [(0, .ref p0), (1, .int p1), (2, .int p2)] := hl
  refine nameQ (fun Q hQ => ?_)
  have hw : WD D cy GG A s wr_X10_holds__11 wa_X10_holds__11 Ps w0 Ps w0 s.heap [] := ⟨hT, hP, hD, va_S.rf, FR.rf, hT.1, [], (List.append_nil _).symm⟩
  have B312 : ∀ (x3 : Int32) (x4 : Int32) (x5 : Int32) (x6 : Int32) (y0 : Int32) (H : Heap) (locs : List Loc) (ls : Array Slot), RI p1 0 48 → RI p2 0 5 → RI x3 174 366 → RI x4 (-2147483648) 2147483647 → RI x5 (-2147483648) 2147483647 → RI x6 (-2147483648) 2147483647 → RI y0 (-2147483648) 2147483647 → WD D cy GG A s wr_X10_holds__11 wa_X10_holds__11 Ps w0 Ps w0 H locs → lv_has ls 8 [(0, .ref p0), (1, .int p1), (2, .int p2), (3, .int x3), (4, .int x4), (5, .int x5), (6, .int x6)] → W p l e (headSpec (Cond.code yX10_holds cX10_holds 8 (some .boolean) :: gT) ({ frames := 51, cells := 0, slots := 0, locals := 10200 } : Room)).room s m ([.ref p0, .int p1, .int p2] : List Value).toArray below meth c H locs 0 0 Q (F0 m 312 ls [.int y0]) := by
    intro x3 x4 x5 x6 y0 H locs ls r_p1 r_p2 r_x3 r_x4 r_x5 r_x6 r_y0 hw hl
    refine lv_istore (lv' := [(7, .int y0), (0, .ref p0), (1, .int p1), (2, .int p2), (3, .int x3), (4, .int x4), (5, .int x5), (6, .int x6)]) hx hb dX10_holds_312 hl (by decide) rfl (fun ls hl => ?_)
    refine lv_aload_n hx hb dX10_holds_314 rfl (lv_at hl 1 rfl) ?_
    refine tg_get (ci := 10) (ts := ty_MODEL) (C := RX10) (T := TX10) (N := 49) hx hb hts inX10 hown hK hw h_p0 rfl rfl 14 (by decide) (hts _ tw_1151) (fun _ h9 => h9) (ft := vR 34) rfl dX10_holds_315 (fun u_1 hv_u_1 m_u_1 => ?_)
    obtain ⟨vu_1, rfl, h_vu_1⟩ := hv_u_1
    refine lv_iload_n hx hb dX10_holds_318 rfl (lv_at hl 4 rfl) ?_
    refine lv_iconst (v := 3) hx hb dX10_holds_319 (by decide) ?_
    refine lv_iadd hx hb dX10_holds_320 (lv_topi (fun v_2 e_v_2 => ?_))
    obtain ⟨t_v_2, r_v_2⟩ := tq_add (lo := 177) (hi := 369) r_x3 rl_3 (by decide +kernel) e_v_2
    have t_v_2 : v_2.toInt = x3.toInt + 3 := t_v_2
    refine tg_iald (lo := (-2147483648)) (hi := 2147483647) hx hb hK hw h_vu_1 rfl 177 369 r_v_2 (by decide) (by decide +kernel) dX10_holds_321 (fun v_3 r_v_3 m_v_3 o_v_3 => ?_)
    refine lv_bipush (v := 60) hx hb dX10_holds_322 (by decide) ?_
    refine lv_icmp_ne (tgt := 342) hx hb dX10_holds_324 (by decide) (fun c_324 => ?_) (fun c_324 => ?_)
    · refine lv_aload_n hx hb dX10_holds_342 rfl (lv_at hl 1 rfl) ?_
      refine tg_mem (ci := 10) (C := RX10) (T := TX10) (N := 49) hx hb hts inX10 hown hK hw 14 m_u_1 rfl (by decide) (hts _ tw_1151) (fun _ h9 => h9) dX10_holds_343 ?_
      refine lv_iload_n hx hb dX10_holds_346 rfl (lv_at hl 4 rfl) ?_
      refine lv_iconst (v := 3) hx hb dX10_holds_347 (by decide) ?_
      refine lv_iadd hx hb dX10_holds_348 (lv_topi (fun v_4 e_v_4 => ?_))
      obtain ⟨t_v_4, r_v_4⟩ := tq_add (lo := 177) (hi := 369) r_x3 rl_3 (by decide +kernel) e_v_4
      have t_v_4 : v_4.toInt = x3.toInt + 3 := t_v_4
      refine tg_iald (lo := (-2147483648)) (hi := 2147483647) hx hb hK hw h_vu_1 rfl 177 369 r_v_4 (by decide) (by decide +kernel) dX10_holds_349 (fun v_5 r_v_5 m_v_5 o_v_5 => ?_)
      refine lv_bipush (v := 61) hx hb dX10_holds_350 (by decide) ?_
      refine lv_icmp_ne (tgt := 370) hx hb dX10_holds_352 (by decide) (fun c_352 => ?_) (fun c_352 => ?_)
      · refine lv_iload hx hb dX10_holds_370 (lv_at hl 0 rfl) ?_
        refine lv_iload hx hb dX10_holds_372 (lv_at hl 6 rfl) ?_
        refine lv_icmp_le (tgt := 381) hx hb dX10_holds_374 (by decide) (fun c_374 => ?_) (fun c_374 => ?_)
        · refine lv_iconst (v := 0) hx hb dX10_holds_381 (by decide) ?_
          subst hQ
          exact W.zret (v := 0) hx hb hr (rfl) (fun t ht hW => ⟨⟨0, (), rfl, ⟨rl_0.to (by decide), (fun h0 => trivial), (fun _ => trivial)⟩, by rw [ht]; exact hw.2.1, va_K.moved hW.alike hK, hw.2.2.1⟩, hw.2.2.2.1.F ht⟩) hw.2.2.2.1.2.2 dX10_holds_382
        · have r_x5 : RI x5 (-2147483648) 2147483646 := rc_lt1 r_x5 r_y0 (ti_nle c_374) (by decide)
          have r_y0 : RI y0 (-2147483647) 2147483647 := rc_lt2 r_x5 r_y0 (ti_nle c_374) (by decide)
          refine lv_iconst (v := 1) hx hb dX10_holds_377 (by decide) ?_
          refine lv_goto (tgt := 382) hx hb dX10_holds_378 (by decide) ?_
          subst hQ
          exact W.zret (v := 1) hx hb hr (rfl) (fun t ht hW => ⟨⟨1, (), rfl, ⟨rl_1.to (by decide), (fun _ => trivial), (fun h0 => trivial)⟩, by rw [ht]; exact hw.2.1, va_K.moved hW.alike hK, hw.2.2.1⟩, hw.2.2.2.1.F ht⟩) hw.2.2.2.1.2.2 dX10_holds_382
      · have r_v_5 : RI v_5 61 61 := rc_eq1 r_v_5 rl_61 (ti_eq c_352) (by decide)
        refine lv_iload hx hb dX10_holds_355 (lv_at hl 0 rfl) ?_
        refine lv_iload hx hb dX10_holds_357 (lv_at hl 6 rfl) ?_
        refine lv_icmp_ne (tgt := 366) hx hb dX10_holds_359 (by decide) (fun c_359 => ?_) (fun c_359 => ?_)
        · refine lv_iconst (v := 0) hx hb dX10_holds_366 (by decide) ?_
          refine lv_goto (tgt := 382) hx hb dX10_holds_367 (by decide) ?_
          subst hQ
          exact W.zret (v := 0) hx hb hr (rfl) (fun t ht hW => ⟨⟨0, (), rfl, ⟨rl_0.to (by decide), (fun h0 => trivial), (fun _ => trivial)⟩, by rw [ht]; exact hw.2.1, va_K.moved hW.alike hK, hw.2.2.1⟩, hw.2.2.2.1.F ht⟩) hw.2.2.2.1.2.2 dX10_holds_382
        · refine lv_iconst (v := 1) hx hb dX10_holds_362 (by decide) ?_
          refine lv_goto (tgt := 382) hx hb dX10_holds_363 (by decide) ?_
          subst hQ
          exact W.zret (v := 1) hx hb hr (rfl) (fun t ht hW => ⟨⟨1, (), rfl, ⟨rl_1.to (by decide), (fun _ => trivial), (fun h0 => trivial)⟩, by rw [ht]; exact hw.2.1, va_K.moved hW.alike hK, hw.2.2.1⟩, hw.2.2.2.1.F ht⟩) hw.2.2.2.1.2.2 dX10_holds_382
    · have r_v_3 : RI v_3 60 60 := rc_eq1 r_v_3 rl_60 (ti_eq c_324) (by decide)
      refine lv_iload hx hb dX10_holds_327 (lv_at hl 0 rfl) ?_
      refine lv_iload hx hb dX10_holds_329 (lv_at hl 6 rfl) ?_
      refine lv_icmp_ge (tgt := 338) hx hb dX10_holds_331 (by decide) (fun c_331 => ?_) (fun c_331 => ?_)
      · refine lv_iconst (v := 0) hx hb dX10_holds_338 (by decide) ?_
        refine lv_goto (tgt := 382) hx hb dX10_holds_339 (by decide) ?_
        subst hQ
        exact W.zret (v := 0) hx hb hr (rfl) (fun t ht hW => ⟨⟨0, (), rfl, ⟨rl_0.to (by decide), (fun h0 => trivial), (fun _ => trivial)⟩, by rw [ht]; exact hw.2.1, va_K.moved hW.alike hK, hw.2.2.1⟩, hw.2.2.2.1.F ht⟩) hw.2.2.2.1.2.2 dX10_holds_382
      · have r_y0 : RI y0 (-2147483648) 2147483646 := rc_lt1 r_y0 r_x5 (ti_nle c_331) (by decide)
        have r_x5 : RI x5 (-2147483647) 2147483647 := rc_lt2 r_y0 r_x5 (ti_nle c_331) (by decide)
        refine lv_iconst (v := 1) hx hb dX10_holds_334 (by decide) ?_
        refine lv_goto (tgt := 382) hx hb dX10_holds_335 (by decide) ?_
        subst hQ
        exact W.zret (v := 1) hx hb hr (rfl) (fun t ht hW => ⟨⟨1, (), rfl, ⟨rl_1.to (by decide), (fun _ => trivial), (fun h0 => trivial)⟩, by rw [ht]; exact hw.2.1, va_K.moved hW.alike hK, hw.2.2.1⟩, hw.2.2.2.1.F ht⟩) hw.2.2.2.1.2.2 dX10_holds_382
  refine lv_sipush (v := 174) hx hb dX10_holds_0 (by decide) ?_
  refine lv_iconst (v := 4) hx hb dX10_holds_3 (by decide) ?_
  refine lv_iload_n hx hb dX10_holds_4 rfl (lv_at hl 1 rfl) ?_
  refine lv_imul hx hb dX10_holds_5 (lv_topi (fun v_6 e_v_6 => ?_))
  obtain ⟨t_v_6, r_v_6⟩ := tq_mul (lo := 0) (hi := 192) rl_4 r_p1 (by decide +kernel) e_v_6
  have t_v_6 : v_6.toInt = 4 * p1.toInt := t_v_6
  refine lv_iadd hx hb dX10_holds_6 (lv_topi (fun v_7 e_v_7 => ?_))
  obtain ⟨t_v_7, r_v_7⟩ := tq_add (lo := 174) (hi := 366) rl_174 r_v_6 (by decide +kernel) e_v_7
  have t_v_7 : v_7.toInt = 174 + v_6.toInt := t_v_7
  refine lv_istore_n (lv' := [(3, .int v_7), (0, .ref p0), (1, .int p1), (2, .int p2)]) hx hb dX10_holds_7 rfl hl (by decide) rfl (fun ls hl => ?_)
  refine lv_aload_n hx hb dX10_holds_8 rfl (lv_at hl 1 rfl) ?_
  refine tg_get (ci := 10) (ts := ty_MODEL) (C := RX10) (T := TX10) (N := 49) hx hb hts inX10 hown hK hw h_p0 rfl rfl 14 (by decide) (hts _ tw_1151) (fun _ h9 => h9) (ft := vR 34) rfl dX10_holds_9 (fun u_8 hv_u_8 m_u_8 => ?_)
  obtain ⟨vu_8, rfl, h_vu_8⟩ := hv_u_8
  refine lv_iload_n hx hb dX10_holds_12 rfl (lv_at hl 0 rfl) ?_
  refine lv_iconst (v := 1) hx hb dX10_holds_13 (by decide) ?_
  refine lv_iadd hx hb dX10_holds_14 (lv_topi (fun v_9 e_v_9 => ?_))
  obtain ⟨t_v_9, r_v_9⟩ := tq_add (lo := 175) (hi := 367) r_v_7 rl_1 (by decide +kernel) e_v_9
  have t_v_9 : v_9.toInt = v_7.toInt + 1 := t_v_9
  refine tg_iald (lo := (-2147483648)) (hi := 2147483647) hx hb hK hw h_vu_8 rfl 175 367 r_v_9 (by decide) (by decide +kernel) dX10_holds_15 (fun v_10 r_v_10 m_v_10 o_v_10 => ?_)
  refine lv_istore (lv' := [(4, .int v_10), (3, .int v_7), (0, .ref p0), (1, .int p1), (2, .int p2)]) hx hb dX10_holds_16 hl (by decide) rfl (fun ls hl => ?_)
  refine lv_aload_n hx hb dX10_holds_18 rfl (lv_at hl 2 rfl) ?_
  refine tg_mem (ci := 10) (C := RX10) (T := TX10) (N := 49) hx hb hts inX10 hown hK hw 14 m_u_8 rfl (by decide) (hts _ tw_1151) (fun _ h9 => h9) dX10_holds_19 ?_
  refine lv_iload_n hx hb dX10_holds_22 rfl (lv_at hl 1 rfl) ?_
  refine lv_iconst (v := 2) hx hb dX10_holds_23 (by decide) ?_
  refine lv_iadd hx hb dX10_holds_24 (lv_topi (fun v_11 e_v_11 => ?_))
  obtain ⟨t_v_11, r_v_11⟩ := tq_add (lo := 176) (hi := 368) r_v_7 rl_2 (by decide +kernel) e_v_11
  have t_v_11 : v_11.toInt = v_7.toInt + 2 := t_v_11
  refine tg_iald (lo := (-2147483648)) (hi := 2147483647) hx hb hK hw h_vu_8 rfl 176 368 r_v_11 (by decide) (by decide +kernel) dX10_holds_25 (fun v_12 r_v_12 m_v_12 o_v_12 => ?_)
  refine lv_istore (lv' := [(5, .int v_12), (4, .int v_10), (3, .int v_7), (0, .ref p0), (1, .int p1), (2, .int p2)]) hx hb dX10_holds_26 hl (by decide) rfl (fun ls hl => ?_)
  refine lv_aload_n hx hb dX10_holds_28 rfl (lv_at hl 3 rfl) ?_
  refine tg_mem (ci := 10) (C := RX10) (T := TX10) (N := 49) hx hb hts inX10 hown hK hw 14 m_u_8 rfl (by decide) (hts _ tw_1151) (fun _ h9 => h9) dX10_holds_29 ?_
  refine lv_iload_n hx hb dX10_holds_32 rfl (lv_at hl 2 rfl) ?_
  refine tg_iald (lo := (-2147483648)) (hi := 2147483647) hx hb hK hw h_vu_8 rfl 174 366 r_v_7 (by decide) (by decide +kernel) dX10_holds_33 (fun v_13 r_v_13 m_v_13 o_v_13 => ?_)
  by_cases k_34_1 : v_13 = 1
  · refine lv_lookup (tgt := 108) (off := 74) hx hb dX10_holds_34 (by decide) (by rw [k_34_1]; decide) (by decide) ?_
    have r_v_13 : RI v_13 1 1 := by rw [k_34_1]; exact rl_1
    have g_v_10 : 0 ≤ v_10.toInt ∧ v_10.toInt < p1.toInt := by obtain ⟨_, f9, e8, e7, q9, _⟩ := ax_of (k := 14) (t := 34) hw h_p0 rfl (fun _ => rfl); cases FLD.inj hw.2.2.1 e8 m_u_8; have t9 := ARR.ael hw.2.2.1 e7 m_v_13; have x9 := ARR.ael hw.2.2.1 e7 m_v_10; rw [show Int32.toNatClampNeg v_7 = 174 + 4 * Int32.toNatClampNeg p1 from (by have k1 := r_v_7.cl (by decide); have k2 := r_p1.cl (by decide); omega)] at t9; rw [show Int32.toNatClampNeg v_9 = 175 + 4 * Int32.toNatClampNeg p1 from (by have k1 := r_v_9.cl (by decide); have k2 := r_p1.cl (by decide); omega)] at x9; exact RN_child q9 (r_p1.to (by decide)) t9 x9 (r_v_13.to (by decide))
    have r_v_10 : RI v_10 0 47 := ⟨g_v_10.1, by have k1 := r_p1.2; omega⟩
    refine lv_aload_n hx hb dX10_holds_108 rfl (lv_at hl 3 rfl) ?_
    refine lv_iload hx hb dX10_holds_109 (lv_at hl 1 rfl) ?_
    refine lv_iload_n hx hb dX10_holds_111 rfl (lv_at hl 5 rfl) ?_
    refine tk_ir (va_runV (As := [.int v_10, .int p2]) (rest := []) ⟨hx, hb, hml, hown, hts⟩ (c_X10_holds__12 l D cy z s.heap.size Ps w0 hw.1 p0 v_10 p2 h_p0 r_v_10 r_p2) (cwV 2 hts (gV tw_1787 tw_1789 ts_119 tw_15 tw_1790) rfl rfl rfl (by decide +kernel) ⟨Nat.le_of_ble_eq_true rfl, Nat.le_of_ble_eq_true rfl⟩) (tg_preV hw hK hSD hA (ci := 10) (q := (RX10, TX10, 49)) rfl h_p0 rfl) rfl rfl hl.1 rfl (lv_room (Nat.le_of_ble_eq_true rfl)) dX10_holds_112 ⟨Nat.le_of_ble_eq_true rfl, Nat.le_of_ble_eq_true rfl⟩) hw hA (fun v_14  H locs hp_v_14 hw => ?_)
    have r_v_14 : RI v_14 0 1 := hp_v_14.1
    refine lv_if_ne (tgt := 122) hx hb dX10_holds_115 (by decide) (fun c_115 => ?_) (fun c_115 => ?_)
    · have r_v_14 : RI v_14 1 1 := rc_neL r_v_14 rl_0 (ti_ne c_115) (by decide)
      refine lv_iconst (v := 0) hx hb dX10_holds_122 (by decide) ?_
      subst hQ
      exact W.zret (v := 0) hx hb hr (rfl) (fun t ht hW => ⟨⟨0, (), rfl, ⟨rl_0.to (by decide), (fun h0 => trivial), (fun _ => trivial)⟩, by rw [ht]; exact hw.2.1, va_K.moved hW.alike hK, hw.2.2.1⟩, hw.2.2.2.1.F ht⟩) hw.2.2.2.1.2.2 dX10_holds_123
    · have r_v_14 : RI v_14 0 0 := rc_eq1 r_v_14 rl_0 (ti_eq c_115) (by decide)
      refine lv_iconst (v := 1) hx hb dX10_holds_118 (by decide) ?_
      refine lv_goto (tgt := 123) hx hb dX10_holds_119 (by decide) ?_
      subst hQ
      exact W.zret (v := 1) hx hb hr (rfl) (fun t ht hW => ⟨⟨1, (), rfl, ⟨rl_1.to (by decide), (fun _ => trivial), (fun h0 => trivial)⟩, by rw [ht]; exact hw.2.1, va_K.moved hW.alike hK, hw.2.2.1⟩, hw.2.2.2.1.F ht⟩) hw.2.2.2.1.2.2 dX10_holds_123
  · by_cases k_34_2 : v_13 = 2
    · refine lv_lookup (tgt := 124) (off := 90) hx hb dX10_holds_34 (by decide) (by rw [k_34_2]; decide) (by decide) ?_
      have r_v_13 : RI v_13 2 2 := by rw [k_34_2]; exact rl_2
      have g_v_10 : 0 ≤ v_10.toInt ∧ v_10.toInt < p1.toInt := by obtain ⟨_, f9, e8, e7, q9, _⟩ := ax_of (k := 14) (t := 34) hw h_p0 rfl (fun _ => rfl); cases FLD.inj hw.2.2.1 e8 m_u_8; have t9 := ARR.ael hw.2.2.1 e7 m_v_13; have x9 := ARR.ael hw.2.2.1 e7 m_v_10; rw [show Int32.toNatClampNeg v_7 = 174 + 4 * Int32.toNatClampNeg p1 from (by have k1 := r_v_7.cl (by decide); have k2 := r_p1.cl (by decide); omega)] at t9; rw [show Int32.toNatClampNeg v_9 = 175 + 4 * Int32.toNatClampNeg p1 from (by have k1 := r_v_9.cl (by decide); have k2 := r_p1.cl (by decide); omega)] at x9; exact RN_child q9 (r_p1.to (by decide)) t9 x9 (r_v_13.to (by decide))
      have r_v_10 : RI v_10 0 47 := ⟨g_v_10.1, by have k1 := r_p1.2; omega⟩
      have g_v_12 : 0 ≤ v_12.toInt ∧ v_12.toInt < p1.toInt := by obtain ⟨_, f9, e8, e7, q9, _⟩ := ax_of (k := 14) (t := 34) hw h_p0 rfl (fun _ => rfl); cases FLD.inj hw.2.2.1 e8 m_u_8; have t9 := ARR.ael hw.2.2.1 e7 m_v_13; have x9 := ARR.ael hw.2.2.1 e7 m_v_12; rw [show Int32.toNatClampNeg v_7 = 174 + 4 * Int32.toNatClampNeg p1 from (by have k1 := r_v_7.cl (by decide); have k2 := r_p1.cl (by decide); omega)] at t9; rw [show Int32.toNatClampNeg v_11 = 176 + 4 * Int32.toNatClampNeg p1 from (by have k1 := r_v_11.cl (by decide); have k2 := r_p1.cl (by decide); omega)] at x9; exact RN_child2 q9 (r_p1.to (by decide)) t9 x9 (r_v_13.to (by decide))
      have r_v_12 : RI v_12 0 47 := ⟨g_v_12.1, by have k1 := r_p1.2; omega⟩
      refine lv_aload_n hx hb dX10_holds_124 rfl (lv_at hl 3 rfl) ?_
      refine lv_iload hx hb dX10_holds_125 (lv_at hl 1 rfl) ?_
      refine lv_iload_n hx hb dX10_holds_127 rfl (lv_at hl 5 rfl) ?_
      refine tk_ir (va_runV (As := [.int v_10, .int p2]) (rest := []) ⟨hx, hb, hml, hown, hts⟩ (c_X10_holds__12 l D cy z s.heap.size Ps w0 hw.1 p0 v_10 p2 h_p0 r_v_10 r_p2) (cwV 2 hts (gV tw_1787 tw_1789 ts_119 tw_15 tw_1790) rfl rfl rfl (by decide +kernel) ⟨Nat.le_of_ble_eq_true rfl, Nat.le_of_ble_eq_true rfl⟩) (tg_preV hw hK hSD hA (ci := 10) (q := (RX10, TX10, 49)) rfl h_p0 rfl) rfl rfl hl.1 rfl (lv_room (Nat.le_of_ble_eq_true rfl)) dX10_holds_128 ⟨Nat.le_of_ble_eq_true rfl, Nat.le_of_ble_eq_true rfl⟩) hw hA (fun v_15  H locs hp_v_15 hw => ?_)
      have r_v_15 : RI v_15 0 1 := hp_v_15.1
      refine lv_if_eq (tgt := 148) hx hb dX10_holds_131 (by decide) (fun c_131 => ?_) (fun c_131 => ?_)
      · have r_v_15 : RI v_15 0 0 := rc_eq1 r_v_15 rl_0 (ti_eq c_131) (by decide)
        refine lv_iconst (v := 0) hx hb dX10_holds_148 (by decide) ?_
        subst hQ
        exact W.zret (v := 0) hx hb hr (rfl) (fun t ht hW => ⟨⟨0, (), rfl, ⟨rl_0.to (by decide), (fun h0 => trivial), (fun _ => trivial)⟩, by rw [ht]; exact hw.2.1, va_K.moved hW.alike hK, hw.2.2.1⟩, hw.2.2.2.1.F ht⟩) hw.2.2.2.1.2.2 dX10_holds_149
      · have r_v_15 : RI v_15 1 1 := rc_neL r_v_15 rl_0 (ti_ne c_131) (by decide)
        refine lv_aload_n hx hb dX10_holds_134 rfl (lv_at hl 3 rfl) ?_
        refine lv_iload hx hb dX10_holds_135 (lv_at hl 0 rfl) ?_
        refine lv_iload_n hx hb dX10_holds_137 rfl (lv_at hl 5 rfl) ?_
        refine tk_ir (va_runV (As := [.int v_12, .int p2]) (rest := []) ⟨hx, hb, hml, hown, hts⟩ (c_X10_holds__12 l D cy z H.size Ps w0 hw.1 p0 v_12 p2 h_p0 r_v_12 r_p2) (cwV 2 hts (gV tw_1787 tw_1789 ts_119 tw_15 tw_1790) rfl rfl rfl (by decide +kernel) ⟨Nat.le_of_ble_eq_true rfl, Nat.le_of_ble_eq_true rfl⟩) (tg_preV hw hK hSD hA (ci := 10) (q := (RX10, TX10, 49)) rfl h_p0 rfl) rfl rfl hl.1 rfl (lv_room (Nat.le_of_ble_eq_true rfl)) dX10_holds_138 ⟨Nat.le_of_ble_eq_true rfl, Nat.le_of_ble_eq_true rfl⟩) hw hA (fun v_16  H locs hp_v_16 hw => ?_)
        have r_v_16 : RI v_16 0 1 := hp_v_16.1
        refine lv_if_eq (tgt := 148) hx hb dX10_holds_141 (by decide) (fun c_141 => ?_) (fun c_141 => ?_)
        · have r_v_16 : RI v_16 0 0 := rc_eq1 r_v_16 rl_0 (ti_eq c_141) (by decide)
          refine lv_iconst (v := 0) hx hb dX10_holds_148 (by decide) ?_
          subst hQ
          exact W.zret (v := 0) hx hb hr (rfl) (fun t ht hW => ⟨⟨0, (), rfl, ⟨rl_0.to (by decide), (fun h0 => trivial), (fun _ => trivial)⟩, by rw [ht]; exact hw.2.1, va_K.moved hW.alike hK, hw.2.2.1⟩, hw.2.2.2.1.F ht⟩) hw.2.2.2.1.2.2 dX10_holds_149
        · have r_v_16 : RI v_16 1 1 := rc_neL r_v_16 rl_0 (ti_ne c_141) (by decide)
          refine lv_iconst (v := 1) hx hb dX10_holds_144 (by decide) ?_
          refine lv_goto (tgt := 149) hx hb dX10_holds_145 (by decide) ?_
          subst hQ
          exact W.zret (v := 1) hx hb hr (rfl) (fun t ht hW => ⟨⟨1, (), rfl, ⟨rl_1.to (by decide), (fun _ => trivial), (fun h0 => trivial)⟩, by rw [ht]; exact hw.2.1, va_K.moved hW.alike hK, hw.2.2.1⟩, hw.2.2.2.1.F ht⟩) hw.2.2.2.1.2.2 dX10_holds_149
    · by_cases k_34_3 : v_13 = 3
      · refine lv_lookup (tgt := 150) (off := 116) hx hb dX10_holds_34 (by decide) (by rw [k_34_3]; decide) (by decide) ?_
        have r_v_13 : RI v_13 3 3 := by rw [k_34_3]; exact rl_3
        have g_v_10 : 0 ≤ v_10.toInt ∧ v_10.toInt < p1.toInt := by obtain ⟨_, f9, e8, e7, q9, _⟩ := ax_of (k := 14) (t := 34) hw h_p0 rfl (fun _ => rfl); cases FLD.inj hw.2.2.1 e8 m_u_8; have t9 := ARR.ael hw.2.2.1 e7 m_v_13; have x9 := ARR.ael hw.2.2.1 e7 m_v_10; rw [show Int32.toNatClampNeg v_7 = 174 + 4 * Int32.toNatClampNeg p1 from (by have k1 := r_v_7.cl (by decide); have k2 := r_p1.cl (by decide); omega)] at t9; rw [show Int32.toNatClampNeg v_9 = 175 + 4 * Int32.toNatClampNeg p1 from (by have k1 := r_v_9.cl (by decide); have k2 := r_p1.cl (by decide); omega)] at x9; exact RN_child q9 (r_p1.to (by decide)) t9 x9 (r_v_13.to (by decide))
        have r_v_10 : RI v_10 0 47 := ⟨g_v_10.1, by have k1 := r_p1.2; omega⟩
        have g_v_12 : 0 ≤ v_12.toInt ∧ v_12.toInt < p1.toInt := by obtain ⟨_, f9, e8, e7, q9, _⟩ := ax_of (k := 14) (t := 34) hw h_p0 rfl (fun _ => rfl); cases FLD.inj hw.2.2.1 e8 m_u_8; have t9 := ARR.ael hw.2.2.1 e7 m_v_13; have x9 := ARR.ael hw.2.2.1 e7 m_v_12; rw [show Int32.toNatClampNeg v_7 = 174 + 4 * Int32.toNatClampNeg p1 from (by have k1 := r_v_7.cl (by decide); have k2 := r_p1.cl (by decide); omega)] at t9; rw [show Int32.toNatClampNeg v_11 = 176 + 4 * Int32.toNatClampNeg p1 from (by have k1 := r_v_11.cl (by decide); have k2 := r_p1.cl (by decide); omega)] at x9; exact RN_child2 q9 (r_p1.to (by decide)) t9 x9 (r_v_13.to (by decide))
        have r_v_12 : RI v_12 0 47 := ⟨g_v_12.1, by have k1 := r_p1.2; omega⟩
        refine lv_aload_n hx hb dX10_holds_150 rfl (lv_at hl 3 rfl) ?_
        refine lv_iload hx hb dX10_holds_151 (lv_at hl 1 rfl) ?_
        refine lv_iload_n hx hb dX10_holds_153 rfl (lv_at hl 5 rfl) ?_
        refine tk_ir (va_runV (As := [.int v_10, .int p2]) (rest := []) ⟨hx, hb, hml, hown, hts⟩ (c_X10_holds__12 l D cy z s.heap.size Ps w0 hw.1 p0 v_10 p2 h_p0 r_v_10 r_p2) (cwV 2 hts (gV tw_1787 tw_1789 ts_119 tw_15 tw_1790) rfl rfl rfl (by decide +kernel) ⟨Nat.le_of_ble_eq_true rfl, Nat.le_of_ble_eq_true rfl⟩) (tg_preV hw hK hSD hA (ci := 10) (q := (RX10, TX10, 49)) rfl h_p0 rfl) rfl rfl hl.1 rfl (lv_room (Nat.le_of_ble_eq_true rfl)) dX10_holds_154 ⟨Nat.le_of_ble_eq_true rfl, Nat.le_of_ble_eq_true rfl⟩) hw hA (fun v_17  H locs hp_v_17 hw => ?_)
        have r_v_17 : RI v_17 0 1 := hp_v_17.1
        refine lv_if_ne (tgt := 170) hx hb dX10_holds_157 (by decide) (fun c_157 => ?_) (fun c_157 => ?_)
        · have r_v_17 : RI v_17 1 1 := rc_neL r_v_17 rl_0 (ti_ne c_157) (by decide)
          refine lv_iconst (v := 1) hx hb dX10_holds_170 (by decide) ?_
          refine lv_goto (tgt := 175) hx hb dX10_holds_171 (by decide) ?_
          subst hQ
          exact W.zret (v := 1) hx hb hr (rfl) (fun t ht hW => ⟨⟨1, (), rfl, ⟨rl_1.to (by decide), (fun _ => trivial), (fun h0 => trivial)⟩, by rw [ht]; exact hw.2.1, va_K.moved hW.alike hK, hw.2.2.1⟩, hw.2.2.2.1.F ht⟩) hw.2.2.2.1.2.2 dX10_holds_175
        · have r_v_17 : RI v_17 0 0 := rc_eq1 r_v_17 rl_0 (ti_eq c_157) (by decide)
          refine lv_aload_n hx hb dX10_holds_160 rfl (lv_at hl 3 rfl) ?_
          refine lv_iload hx hb dX10_holds_161 (lv_at hl 0 rfl) ?_
          refine lv_iload_n hx hb dX10_holds_163 rfl (lv_at hl 5 rfl) ?_
          refine tk_ir (va_runV (As := [.int v_12, .int p2]) (rest := []) ⟨hx, hb, hml, hown, hts⟩ (c_X10_holds__12 l D cy z H.size Ps w0 hw.1 p0 v_12 p2 h_p0 r_v_12 r_p2) (cwV 2 hts (gV tw_1787 tw_1789 ts_119 tw_15 tw_1790) rfl rfl rfl (by decide +kernel) ⟨Nat.le_of_ble_eq_true rfl, Nat.le_of_ble_eq_true rfl⟩) (tg_preV hw hK hSD hA (ci := 10) (q := (RX10, TX10, 49)) rfl h_p0 rfl) rfl rfl hl.1 rfl (lv_room (Nat.le_of_ble_eq_true rfl)) dX10_holds_164 ⟨Nat.le_of_ble_eq_true rfl, Nat.le_of_ble_eq_true rfl⟩) hw hA (fun v_18  H locs hp_v_18 hw => ?_)
          have r_v_18 : RI v_18 0 1 := hp_v_18.1
          refine lv_if_eq (tgt := 174) hx hb dX10_holds_167 (by decide) (fun c_167 => ?_) (fun c_167 => ?_)
          · have r_v_18 : RI v_18 0 0 := rc_eq1 r_v_18 rl_0 (ti_eq c_167) (by decide)
            refine lv_iconst (v := 0) hx hb dX10_holds_174 (by decide) ?_
            subst hQ
            exact W.zret (v := 0) hx hb hr (rfl) (fun t ht hW => ⟨⟨0, (), rfl, ⟨rl_0.to (by decide), (fun h0 => trivial), (fun _ => trivial)⟩, by rw [ht]; exact hw.2.1, va_K.moved hW.alike hK, hw.2.2.1⟩, hw.2.2.2.1.F ht⟩) hw.2.2.2.1.2.2 dX10_holds_175
          · have r_v_18 : RI v_18 1 1 := rc_neL r_v_18 rl_0 (ti_ne c_167) (by decide)
            refine lv_iconst (v := 1) hx hb dX10_holds_170 (by decide) ?_
            refine lv_goto (tgt := 175) hx hb dX10_holds_171 (by decide) ?_
            subst hQ
            exact W.zret (v := 1) hx hb hr (rfl) (fun t ht hW => ⟨⟨1, (), rfl, ⟨rl_1.to (by decide), (fun _ => trivial), (fun h0 => trivial)⟩, by rw [ht]; exact hw.2.1, va_K.moved hW.alike hK, hw.2.2.1⟩, hw.2.2.2.1.F ht⟩) hw.2.2.2.1.2.2 dX10_holds_175
      · by_cases k_34_69 : v_13 = 69
        · refine lv_lookup (tgt := 176) (off := 142) hx hb dX10_holds_34 (by decide) (by rw [k_34_69]; decide) (by decide) ?_
          have r_v_13 : RI v_13 69 69 := by rw [k_34_69]; exact rl_69
          refine lv_aload_n hx hb dX10_holds_176 rfl (lv_at hl 3 rfl) ?_
          refine lv_iload_n hx hb dX10_holds_177 rfl (lv_at hl 5 rfl) ?_
          refine tk_ir (va_runV (As := [.int p2]) (rest := []) ⟨hx, hb, hml, hown, hts⟩ (c_X10_isOpen l D cy z s.heap.size Ps w0 hw.1 p0 p2 h_p0 (r_p2.to (by decide))) (cwV 1 hts (gV tw_1457 tw_1459 ts_71 tw_15 tw_1460) rfl rfl rfl (by decide +kernel) ⟨Nat.le_of_ble_eq_true rfl, Nat.le_of_ble_eq_true rfl⟩) (tg_preV hw hK hSD hA (ci := 10) (q := (RX10, TX10, 49)) rfl h_p0 rfl) rfl rfl hl.1 rfl (lv_room (Nat.le_of_ble_eq_true rfl)) dX10_holds_178 ⟨Nat.le_of_ble_eq_true rfl, Nat.le_of_ble_eq_true rfl⟩) hw hA (fun v_19  H locs hp_v_19 hw => ?_)
          have r_v_19 : RI v_19 0 1 := hp_v_19.1
          subst hQ
          exact W.zret (v := v_19) hx hb hr (tq_nz (r_v_19.to (by decide))) (fun t ht hW => ⟨⟨v_19, (), rfl, ⟨r_v_19.to (by decide), (fun h0 => trivial), (fun h0 => trivial)⟩, by rw [ht]; exact hw.2.1, va_K.moved hW.alike hK, hw.2.2.1⟩, hw.2.2.2.1.F ht⟩) hw.2.2.2.1.2.2 dX10_holds_181
        · by_cases k_34_70 : v_13 = 70
          · refine lv_lookup (tgt := 182) (off := 148) hx hb dX10_holds_34 (by decide) (by rw [k_34_70]; decide) (by decide) ?_
            have r_v_13 : RI v_13 70 70 := by rw [k_34_70]; exact rl_70
            refine lv_aload_n hx hb dX10_holds_182 rfl (lv_at hl 3 rfl) ?_
            refine lv_iload_n hx hb dX10_holds_183 rfl (lv_at hl 5 rfl) ?_
            refine tk_ir (va_runV (As := [.int p2]) (rest := []) ⟨hx, hb, hml, hown, hts⟩ (c_X10_whatIs l D cy z s.heap.size Ps w0 hw.1 p0 p2 h_p0 r_p2) (cwV 1 hts (gV tw_1449 tw_1451 ts_69 tw_15 tw_1452) rfl rfl rfl (by decide +kernel) ⟨Nat.le_of_ble_eq_true rfl, Nat.le_of_ble_eq_true rfl⟩) (tg_preV hw hK hSD hA (ci := 10) (q := (RX10, TX10, 49)) rfl h_p0 rfl) rfl rfl hl.1 rfl (lv_room (Nat.le_of_ble_eq_true rfl)) dX10_holds_184 ⟨Nat.le_of_ble_eq_true rfl, Nat.le_of_ble_eq_true rfl⟩) hw hA (fun v_20  H locs hp_v_20 hw => ?_)
            have r_v_20 : RI v_20 (-1) 5 := hp_v_20.1
            by_cases c9_v_20 : v_20.toInt < 0
            · have r_v_20 : RI v_20 (-1) (-1) := by unfold RI at r_v_20 ⊢; omega
              have x_NB_p0_p2 := (hp_v_20.2.2.2.2.1 (by omega)).1
              refine lv_iconst (v := (-1)) hx hb dX10_holds_187 (by decide) ?_
              refine lv_icmp_ne (tgt := 195) hx hb dX10_holds_188 (by decide) (fun c_188 => ?_) (fun c_188 => ?_)
              · exact absurd (r_v_20.eq.trans rl_m1.eq.symm) ((ti_ne c_188))
              · refine lv_iconst (v := 1) hx hb dX10_holds_191 (by decide) ?_
                refine lv_goto (tgt := 196) hx hb dX10_holds_192 (by decide) ?_
                subst hQ
                exact W.zret (v := 1) hx hb hr (rfl) (fun t ht hW => ⟨⟨1, (), rfl, ⟨rl_1.to (by decide), (fun _ => trivial), (fun h0 => trivial)⟩, by rw [ht]; exact hw.2.1, va_K.moved hW.alike hK, hw.2.2.1⟩, hw.2.2.2.1.F ht⟩) hw.2.2.2.1.2.2 dX10_holds_196
            · have r_v_20 : RI v_20 0 5 := by unfold RI at r_v_20 ⊢; omega
              have x_WB_p0_p2_v_20 := (hp_v_20.2.2.2.2.2 (by omega)).1
              refine lv_iconst (v := (-1)) hx hb dX10_holds_187 (by decide) ?_
              refine lv_icmp_ne (tgt := 195) hx hb dX10_holds_188 (by decide) (fun c_188 => ?_) (fun c_188 => ?_)
              · refine lv_iconst (v := 0) hx hb dX10_holds_195 (by decide) ?_
                subst hQ
                exact W.zret (v := 0) hx hb hr (rfl) (fun t ht hW => ⟨⟨0, (), rfl, ⟨rl_0.to (by decide), (fun h0 => trivial), (fun _ => trivial)⟩, by rw [ht]; exact hw.2.1, va_K.moved hW.alike hK, hw.2.2.1⟩, hw.2.2.2.1.F ht⟩) hw.2.2.2.1.2.2 dX10_holds_196
              · have r_v_20 : RI v_20 0 (-1) := rc_eq1 r_v_20 rl_m1 (ti_eq c_188) (by decide)
                exact (r_v_20.no (by decide)).elim
          · by_cases k_34_71 : v_13 = 71
            · refine lv_lookup (tgt := 197) (off := 163) hx hb dX10_holds_34 (by decide) (by rw [k_34_71]; decide) (by decide) ?_
              have r_v_13 : RI v_13 71 71 := by rw [k_34_71]; exact rl_71
              refine lv_aload_n hx hb dX10_holds_197 rfl (lv_at hl 3 rfl) ?_
              refine lv_iload_n hx hb dX10_holds_198 rfl (lv_at hl 5 rfl) ?_
              refine tk_ir (va_runV (As := [.int p2]) (rest := []) ⟨hx, hb, hml, hown, hts⟩ (c_X10_sittersOf l D cy z s.heap.size Ps w0 hw.1 p0 p2 h_p0 (r_p2.to (by decide))) (cwV 1 hts (gV tw_1461 tw_1463 ts_72 tw_15 tw_1464) rfl rfl rfl (by decide +kernel) ⟨Nat.le_of_ble_eq_true rfl, Nat.le_of_ble_eq_true rfl⟩) (tg_preV hw hK hSD hA (ci := 10) (q := (RX10, TX10, 49)) rfl h_p0 rfl) rfl rfl hl.1 rfl (lv_room (Nat.le_of_ble_eq_true rfl)) dX10_holds_199 ⟨Nat.le_of_ble_eq_true rfl, Nat.le_of_ble_eq_true rfl⟩) hw hA (fun v_21  H locs hp_v_21 hw => ?_)
              have r_v_21 : RI v_21 (-2147483648) 2147483647 := hp_v_21.1
              refine lv_if_eq (tgt := 209) hx hb dX10_holds_202 (by decide) (fun c_202 => ?_) (fun c_202 => ?_)
              · have r_v_21 : RI v_21 0 0 := rc_eq1 r_v_21 rl_0 (ti_eq c_202) (by decide)
                refine lv_iconst (v := 0) hx hb dX10_holds_209 (by decide) ?_
                subst hQ
                exact W.zret (v := 0) hx hb hr (rfl) (fun t ht hW => ⟨⟨0, (), rfl, ⟨rl_0.to (by decide), (fun h0 => trivial), (fun _ => trivial)⟩, by rw [ht]; exact hw.2.1, va_K.moved hW.alike hK, hw.2.2.1⟩, hw.2.2.2.1.F ht⟩) hw.2.2.2.1.2.2 dX10_holds_210
              · refine lv_iconst (v := 1) hx hb dX10_holds_205 (by decide) ?_
                refine lv_goto (tgt := 210) hx hb dX10_holds_206 (by decide) ?_
                subst hQ
                exact W.zret (v := 1) hx hb hr (rfl) (fun t ht hW => ⟨⟨1, (), rfl, ⟨rl_1.to (by decide), (fun _ => trivial), (fun h0 => trivial)⟩, by rw [ht]; exact hw.2.1, va_K.moved hW.alike hK, hw.2.2.1⟩, hw.2.2.2.1.F ht⟩) hw.2.2.2.1.2.2 dX10_holds_210
            · by_cases k_34_72 : v_13 = 72
              · refine lv_lookup (tgt := 211) (off := 177) hx hb dX10_holds_34 (by decide) (by rw [k_34_72]; decide) (by decide) ?_
                have r_v_13 : RI v_13 72 72 := by rw [k_34_72]; exact rl_72
                refine lv_aload_n hx hb dX10_holds_211 rfl (lv_at hl 3 rfl) ?_
                refine lv_iload_n hx hb dX10_holds_212 rfl (lv_at hl 5 rfl) ?_
                refine tk_ir (va_runV (As := [.int p2]) (rest := []) ⟨hx, hb, hml, hown, hts⟩ (c_X10_whatIs l D cy z s.heap.size Ps w0 hw.1 p0 p2 h_p0 r_p2) (cwV 1 hts (gV tw_1449 tw_1451 ts_69 tw_15 tw_1452) rfl rfl rfl (by decide +kernel) ⟨Nat.le_of_ble_eq_true rfl, Nat.le_of_ble_eq_true rfl⟩) (tg_preV hw hK hSD hA (ci := 10) (q := (RX10, TX10, 49)) rfl h_p0 rfl) rfl rfl hl.1 rfl (lv_room (Nat.le_of_ble_eq_true rfl)) dX10_holds_213 ⟨Nat.le_of_ble_eq_true rfl, Nat.le_of_ble_eq_true rfl⟩) hw hA (fun v_22  H locs hp_v_22 hw => ?_)
                have r_v_22 : RI v_22 (-1) 5 := hp_v_22.1
                by_cases c9_v_22 : v_22.toInt < 0
                · have r_v_22 : RI v_22 (-1) (-1) := by unfold RI at r_v_22 ⊢; omega
                  have x_NB_p0_p2 := (hp_v_22.2.2.2.2.1 (by omega)).1
                  refine lv_iload hx hb dX10_holds_216 (lv_at hl 1 rfl) ?_
                  refine lv_icmp_ne (tgt := 225) hx hb dX10_holds_218 (by decide) (fun c_218 => ?_) (fun c_218 => ?_)
                  · refine lv_iconst (v := 0) hx hb dX10_holds_225 (by decide) ?_
                    subst hQ
                    exact W.zret (v := 0) hx hb hr (rfl) (fun t ht hW => ⟨⟨0, (), rfl, ⟨rl_0.to (by decide), (fun h0 => trivial), (fun _ => trivial)⟩, by rw [ht]; exact hw.2.1, va_K.moved hW.alike hK, hw.2.2.1⟩, hw.2.2.2.1.F ht⟩) hw.2.2.2.1.2.2 dX10_holds_226
                  · have r_v_10 : RI v_10 (-1) (-1) := rc_eq2 r_v_22 r_v_10 (ti_eq c_218) (by decide)
                    refine lv_iconst (v := 1) hx hb dX10_holds_221 (by decide) ?_
                    refine lv_goto (tgt := 226) hx hb dX10_holds_222 (by decide) ?_
                    subst hQ
                    exact W.zret (v := 1) hx hb hr (rfl) (fun t ht hW => ⟨⟨1, (), rfl, ⟨rl_1.to (by decide), (fun _ => trivial), (fun h0 => trivial)⟩, by rw [ht]; exact hw.2.1, va_K.moved hW.alike hK, hw.2.2.1⟩, hw.2.2.2.1.F ht⟩) hw.2.2.2.1.2.2 dX10_holds_226
                · have r_v_22 : RI v_22 0 5 := by unfold RI at r_v_22 ⊢; omega
                  have x_WB_p0_p2_v_22 := (hp_v_22.2.2.2.2.2 (by omega)).1
                  refine lv_iload hx hb dX10_holds_216 (lv_at hl 1 rfl) ?_
                  refine lv_icmp_ne (tgt := 225) hx hb dX10_holds_218 (by decide) (fun c_218 => ?_) (fun c_218 => ?_)
                  · refine lv_iconst (v := 0) hx hb dX10_holds_225 (by decide) ?_
                    subst hQ
                    exact W.zret (v := 0) hx hb hr (rfl) (fun t ht hW => ⟨⟨0, (), rfl, ⟨rl_0.to (by decide), (fun h0 => trivial), (fun _ => trivial)⟩, by rw [ht]; exact hw.2.1, va_K.moved hW.alike hK, hw.2.2.1⟩, hw.2.2.2.1.F ht⟩) hw.2.2.2.1.2.2 dX10_holds_226
                  · have r_v_10 : RI v_10 0 5 := rc_eq2 r_v_22 r_v_10 (ti_eq c_218) (by decide)
                    refine lv_iconst (v := 1) hx hb dX10_holds_221 (by decide) ?_
                    refine lv_goto (tgt := 226) hx hb dX10_holds_222 (by decide) ?_
                    subst hQ
                    exact W.zret (v := 1) hx hb hr (rfl) (fun t ht hW => ⟨⟨1, (), rfl, ⟨rl_1.to (by decide), (fun _ => trivial), (fun h0 => trivial)⟩, by rw [ht]; exact hw.2.1, va_K.moved hW.alike hK, hw.2.2.1⟩, hw.2.2.2.1.F ht⟩) hw.2.2.2.1.2.2 dX10_holds_226
              · by_cases k_34_73 : v_13 = 73
                · refine lv_lookup (tgt := 227) (off := 193) hx hb dX10_holds_34 (by decide) (by rw [k_34_73]; decide) (by decide) ?_
                  have r_v_13 : RI v_13 73 73 := by rw [k_34_73]; exact rl_73
                  refine lv_aload_n hx hb dX10_holds_227 rfl (lv_at hl 3 rfl) ?_
                  refine tg_mem (ci := 10) (C := RX10) (T := TX10) (N := 49) hx hb hts inX10 hown hK hw 14 m_u_8 rfl (by decide) (hts _ tw_1151) (fun _ h9 => h9) dX10_holds_228 ?_
                  refine lv_bipush (v := 86) hx hb dX10_holds_231 (by decide) ?_
                  refine lv_iload_n hx hb dX10_holds_233 rfl (lv_at hl 5 rfl) ?_
                  refine lv_iadd hx hb dX10_holds_234 (lv_topi (fun v_23 e_v_23 => ?_))
                  obtain ⟨t_v_23, r_v_23⟩ := tq_add (lo := 86) (hi := 91) rl_86 r_p2 (by decide +kernel) e_v_23
                  have t_v_23 : v_23.toInt = 86 + p2.toInt := t_v_23
                  refine tg_iald (lo := (-2147483648)) (hi := 2147483647) hx hb hK hw h_vu_8 rfl 86 91 r_v_23 (by decide) (by decide +kernel) dX10_holds_235 (fun v_24 r_v_24 m_v_24 o_v_24 => ?_)
                  refine lv_iload hx hb dX10_holds_236 (lv_at hl 1 rfl) ?_
                  refine lv_icmp_ne (tgt := 245) hx hb dX10_holds_238 (by decide) (fun c_238 => ?_) (fun c_238 => ?_)
                  · refine lv_iconst (v := 0) hx hb dX10_holds_245 (by decide) ?_
                    subst hQ
                    exact W.zret (v := 0) hx hb hr (rfl) (fun t ht hW => ⟨⟨0, (), rfl, ⟨rl_0.to (by decide), (fun h0 => trivial), (fun _ => trivial)⟩, by rw [ht]; exact hw.2.1, va_K.moved hW.alike hK, hw.2.2.1⟩, hw.2.2.2.1.F ht⟩) hw.2.2.2.1.2.2 dX10_holds_246
                  · refine lv_iconst (v := 1) hx hb dX10_holds_241 (by decide) ?_
                    refine lv_goto (tgt := 246) hx hb dX10_holds_242 (by decide) ?_
                    subst hQ
                    exact W.zret (v := 1) hx hb hr (rfl) (fun t ht hW => ⟨⟨1, (), rfl, ⟨rl_1.to (by decide), (fun _ => trivial), (fun h0 => trivial)⟩, by rw [ht]; exact hw.2.1, va_K.moved hW.alike hK, hw.2.2.1⟩, hw.2.2.2.1.F ht⟩) hw.2.2.2.1.2.2 dX10_holds_246
                · refine lv_lookup (tgt := 247) (off := 213) hx hb dX10_holds_34 (by decide) ((lv_osw k_34_1 (by decide)).trans ((lv_osw k_34_2 (by decide)).trans ((lv_osw k_34_3 (by decide)).trans ((lv_osw k_34_69 (by decide)).trans ((lv_osw k_34_70 (by decide)).trans ((lv_osw k_34_71 (by decide)).trans ((lv_osw k_34_72 (by decide)).trans ((lv_osw k_34_73 (by decide)).trans (rfl))))))))) (by decide) ?_
                  refine lv_aload_n hx hb dX10_holds_247 rfl (lv_at hl 3 rfl) ?_
                  refine tg_mem (ci := 10) (C := RX10) (T := TX10) (N := 49) hx hb hts inX10 hown hK hw 14 m_u_8 rfl (by decide) (hts _ tw_1151) (fun _ h9 => h9) dX10_holds_248 ?_
                  refine lv_iload_n hx hb dX10_holds_251 rfl (lv_at hl 2 rfl) ?_
                  refine tg_imem hx hb hK hw h_vu_8 rfl r_v_7 (by decide) m_v_13 dX10_holds_252 ?_
                  refine lv_bipush (v := 50) hx hb dX10_holds_253 (by decide) ?_
                  refine lv_isub hx hb dX10_holds_255 (lv_topi (fun v_26 e_v_26 => ?_))
                  have r_v_26 := ri_any v_26
                  refine lv_istore (lv' := [(6, .int v_26), (5, .int v_12), (4, .int v_10), (3, .int v_7), (0, .ref p0), (1, .int p1), (2, .int p2)]) hx hb dX10_holds_256 hl (by decide) rfl (fun ls hl => ?_)
                  refine lv_iload hx hb dX10_holds_258 (lv_at hl 0 rfl) ?_
                  refine lv_bipush (v := 24) hx hb dX10_holds_260 (by decide) ?_
                  refine lv_icmp_ne (tgt := 273) hx hb dX10_holds_262 (by decide) (fun c_262 => ?_) (fun c_262 => ?_)
                  · refine lv_iload hx hb dX10_holds_273 (lv_at hl 0 rfl) ?_
                    refine lv_bipush (v := 25) hx hb dX10_holds_275 (by decide) ?_
                    refine lv_icmp_ne (tgt := 292) hx hb dX10_holds_277 (by decide) (fun c_277 => ?_) (fun c_277 => ?_)
                    · refine lv_iload hx hb dX10_holds_292 (lv_at hl 0 rfl) ?_
                      refine lv_bipush (v := 26) hx hb dX10_holds_294 (by decide) ?_
                      refine lv_icmp_ne (tgt := 311) hx hb dX10_holds_296 (by decide) (fun c_296 => ?_) (fun c_296 => ?_)
                      · refine lv_iload_n hx hb dX10_holds_311 rfl (lv_at hl 6 rfl) ?_
                        exact B312 v_7 v_10 v_12 v_26 p2 _ _ ls r_p1 r_p2 r_v_7 r_v_10 r_v_12 r_v_26 (r_p2.to (by decide)) hw (lv_sub hl [4, 5, 6, 3, 2, 1, 0] rfl)
                      · have r_v_26 : RI v_26 26 26 := rc_eq1 r_v_26 rl_26 (ti_eq c_296) (by decide)
                        refine lv_aload_n hx hb dX10_holds_299 rfl (lv_at hl 4 rfl) ?_
                        refine tg_mem (ci := 10) (C := RX10) (T := TX10) (N := 49) hx hb hts inX10 hown hK hw 14 m_u_8 rfl (by decide) (hts _ tw_1151) (fun _ h9 => h9) dX10_holds_300 ?_
                        refine lv_bipush (v := 98) hx hb dX10_holds_303 (by decide) ?_
                        refine lv_iload_n hx hb dX10_holds_305 rfl (lv_at hl 6 rfl) ?_
                        refine lv_iadd hx hb dX10_holds_306 (lv_topi (fun v_27 e_v_27 => ?_))
                        obtain ⟨t_v_27, r_v_27⟩ := tq_add (lo := 98) (hi := 103) rl_98 r_p2 (by decide +kernel) e_v_27
                        have t_v_27 : v_27.toInt = 98 + p2.toInt := t_v_27
                        refine tg_iald (lo := (-2147483648)) (hi := 2147483647) hx hb hK hw h_vu_8 rfl 98 103 r_v_27 (by decide) (by decide +kernel) dX10_holds_307 (fun v_28 r_v_28 m_v_28 o_v_28 => ?_)
                        refine lv_goto (tgt := 312) hx hb dX10_holds_308 (by decide) ?_
                        exact B312 v_7 v_10 v_12 v_26 v_28 _ _ ls r_p1 r_p2 r_v_7 r_v_10 r_v_12 (r_v_26.to (by decide)) r_v_28 hw (lv_sub hl [4, 5, 6, 3, 2, 1, 0] rfl)
                    · have r_v_26 : RI v_26 25 25 := rc_eq1 r_v_26 rl_25 (ti_eq c_277) (by decide)
                      refine lv_aload_n hx hb dX10_holds_280 rfl (lv_at hl 4 rfl) ?_
                      refine tg_mem (ci := 10) (C := RX10) (T := TX10) (N := 49) hx hb hts inX10 hown hK hw 14 m_u_8 rfl (by decide) (hts _ tw_1151) (fun _ h9 => h9) dX10_holds_281 ?_
                      refine lv_bipush (v := 92) hx hb dX10_holds_284 (by decide) ?_
                      refine lv_iload_n hx hb dX10_holds_286 rfl (lv_at hl 6 rfl) ?_
                      refine lv_iadd hx hb dX10_holds_287 (lv_topi (fun v_29 e_v_29 => ?_))
                      obtain ⟨t_v_29, r_v_29⟩ := tq_add (lo := 92) (hi := 97) rl_92 r_p2 (by decide +kernel) e_v_29
                      have t_v_29 : v_29.toInt = 92 + p2.toInt := t_v_29
                      refine tg_iald (lo := (-2147483648)) (hi := 2147483647) hx hb hK hw h_vu_8 rfl 92 97 r_v_29 (by decide) (by decide +kernel) dX10_holds_288 (fun v_30 r_v_30 m_v_30 o_v_30 => ?_)
                      refine lv_goto (tgt := 312) hx hb dX10_holds_289 (by decide) ?_
                      exact B312 v_7 v_10 v_12 v_26 v_30 _ _ ls r_p1 r_p2 r_v_7 r_v_10 r_v_12 (r_v_26.to (by decide)) r_v_30 hw (lv_sub hl [4, 5, 6, 3, 2, 1, 0] rfl)
                  · have r_v_26 : RI v_26 24 24 := rc_eq1 r_v_26 rl_24 (ti_eq c_262) (by decide)
                    refine lv_aload_n hx hb dX10_holds_265 rfl (lv_at hl 4 rfl) ?_
                    refine lv_iload_n hx hb dX10_holds_266 rfl (lv_at hl 6 rfl) ?_
                    refine tk_ir (va_runV (As := [.int p2]) (rest := []) ⟨hx, hb, hml, hown, hts⟩ (c_X10_sizeOf l D cy z s.heap.size Ps w0 hw.1 p0 p2 h_p0 r_p2) (cwV 1 hts (gV tw_1453 tw_1455 ts_70 tw_15 tw_1456) rfl rfl rfl (by decide +kernel) ⟨Nat.le_of_ble_eq_true rfl, Nat.le_of_ble_eq_true rfl⟩) (tg_preV hw hK hSD hA (ci := 10) (q := (RX10, TX10, 49)) rfl h_p0 rfl) rfl rfl hl.1 rfl (lv_room (Nat.le_of_ble_eq_true rfl)) dX10_holds_267 ⟨Nat.le_of_ble_eq_true rfl, Nat.le_of_ble_eq_true rfl⟩) hw hA (fun v_31  H locs hp_v_31 hw => ?_)
                    have r_v_31 : RI v_31 (-2147483648) 2147483647 := hp_v_31.1
                    refine lv_goto (tgt := 312) hx hb dX10_holds_270 (by decide) ?_
                    exact B312 v_7 v_10 v_12 v_26 v_31 _ _ ls r_p1 r_p2 r_v_7 r_v_10 r_v_12 (r_v_26.to (by decide)) r_v_31 hw (lv_sub hl [4, 5, 6, 3, 2, 1, 0] rfl)
abbrev wr_X10_holds__10 : List (Nat × Nat) := []
abbrev wa_X10_holds__10 : List Nat := []
set_option maxHeartbeats 4000000 in
set_option maxRecDepth 100000 in
theorem c_X10_holds__10 (l : Launch) (D : va_G) (cy : Nat → ClassId) (z : Nat → Nat) (sz : Nat) (Ps : PSI) (w0 : va_W) (hT : HT cy GG Ps w0) (p0 : Nat) (p1 : Int32) (p2 : Int32) (h_p0 : (p0, 55) ∈ Ps) (r_p1 : RI p1 0 49) (r_p2 : RI p2 0 5) : Met l yX10_holds (Cond.code yX10_holds cX10_holds 8 (some .boolean) :: gT) ({ frames := 52, cells := 0, slots := 0, locals := 10400 } : Room) (va_Pc [.ref p0, .int p1, .int p2] (PRE D cy z w0 sz)) (va_Qi (fun (r : Int32) (u : Unit) => RI r 0 1 ∧ (r = 0 → True) ∧ (¬ r = 0 → True)) (BB D cy (va_A w0 sz) (fun (u : Unit) => w0)) (va_A w0 sz)) 0 0 (va_A w0 sz) := by
  refine Met.ofW (cc := cX10_holds) (maxL := 8) (ret := (some .boolean)) (by decide) rfl ?_
  intro p e s m args below meth c s₁ B hml hv
  obtain ⟨rfl, hsz, hP, hK, hD0, hSD⟩ := hv
  have hx := B.exec
  have hb := B.bytes
  have hr := B.returns
  have hlocks := B.notSynchronized
  have hts : ∀ w ∈ gT, w.before _ s = true := fun w h => atoms_spec (ws := Cond.code yX10_holds cX10_holds 8 (some .boolean) :: gT) B.pre w (List.mem_cons_of_mem _ h)
  have hown : s.vm.findClass RX10 = some m.cls := findClass_of_methodNamed B.named
  subst hsz
  have hD := hD0.self (sz := s.heap.size)
  generalize hAe : va_A w0 s.heap.size = A at hD hSD ⊢
  have hA : ∀ q : Nat, s.heap.size ≤ q → A q := fun q h => by rw [← hAe]; exact Or.inr h
  have hl := lv_entry ([.ref p0, .int p1, .int p2]) (n := 8) (Nat.le_of_ble_eq_true rfl)
  rw [lg_entry_eq]
  generalize (lg_sl ([.ref p0, .int p1, .int p2]) ++ List.replicate (8 - (lg_sl ([.ref p0, .int p1, .int p2])).length) Slot.unset).toArray = ls at hl ⊢
  have hl : lv_has ls 8 [(0, .ref p0), (1, .int p1), (2, .int p2)] := hl
  refine nameQ (fun Q hQ => ?_)
  have hw : WD D cy GG A s wr_X10_holds__10 wa_X10_holds__10 Ps w0 Ps w0 s.heap [] := ⟨hT, hP, hD, va_S.rf, FR.rf, hT.1, [], (List.append_nil _).symm⟩
  have B312 : ∀ (x3 : Int32) (x4 : Int32) (x5 : Int32) (x6 : Int32) (y0 : Int32) (H : Heap) (locs : List Loc) (ls : Array Slot), RI p1 0 49 → RI p2 0 5 → RI x3 174 370 → RI x4 (-2147483648) 2147483647 → RI x5 (-2147483648) 2147483647 → RI x6 (-2147483648) 2147483647 → RI y0 (-2147483648) 2147483647 → WD D cy GG A s wr_X10_holds__10 wa_X10_holds__10 Ps w0 Ps w0 H locs → lv_has ls 8 [(0, .ref p0), (1, .int p1), (2, .int p2), (3, .int x3), (4, .int x4), (5, .int x5), (6, .int x6)] → W p l e (headSpec (Cond.code yX10_holds cX10_holds 8 (some .boolean) :: gT) ({ frames := 52, cells := 0, slots := 0, locals := 10400 } : Room)).room s m ([.ref p0, .int p1, .int p2] : List Value).toArray below meth c H locs 0 0 Q (F0 m 312 ls [.int y0]) := by
    intro x3 x4 x5 x6 y0 H locs ls r_p1 r_p2 r_x3 r_x4 r_x5 r_x6 r_y0 hw hl
    refine lv_istore (lv' := [(7, .int y0), (0, .ref p0), (1, .int p1), (2, .int p2), (3, .int x3), (4, .int x4), (5, .int x5), (6, .int x6)]) hx hb dX10_holds_312 hl (by decide) rfl (fun ls hl => ?_)
    refine lv_aload_n hx hb dX10_holds_314 rfl (lv_at hl 1 rfl) ?_
    refine tg_get (ci := 10) (ts := ty_MODEL) (C := RX10) (T := TX10) (N := 49) hx hb hts inX10 hown hK hw h_p0 rfl rfl 14 (by decide) (hts _ tw_1151) (fun _ h9 => h9) (ft := vR 34) rfl dX10_holds_315 (fun u_1 hv_u_1 m_u_1 => ?_)
    obtain ⟨vu_1, rfl, h_vu_1⟩ := hv_u_1
    refine lv_iload_n hx hb dX10_holds_318 rfl (lv_at hl 4 rfl) ?_
    refine lv_iconst (v := 3) hx hb dX10_holds_319 (by decide) ?_
    refine lv_iadd hx hb dX10_holds_320 (lv_topi (fun v_2 e_v_2 => ?_))
    obtain ⟨t_v_2, r_v_2⟩ := tq_add (lo := 177) (hi := 373) r_x3 rl_3 (by decide +kernel) e_v_2
    have t_v_2 : v_2.toInt = x3.toInt + 3 := t_v_2
    refine tg_iald (lo := (-2147483648)) (hi := 2147483647) hx hb hK hw h_vu_1 rfl 177 373 r_v_2 (by decide) (by decide +kernel) dX10_holds_321 (fun v_3 r_v_3 m_v_3 o_v_3 => ?_)
    refine lv_bipush (v := 60) hx hb dX10_holds_322 (by decide) ?_
    refine lv_icmp_ne (tgt := 342) hx hb dX10_holds_324 (by decide) (fun c_324 => ?_) (fun c_324 => ?_)
    · refine lv_aload_n hx hb dX10_holds_342 rfl (lv_at hl 1 rfl) ?_
      refine tg_mem (ci := 10) (C := RX10) (T := TX10) (N := 49) hx hb hts inX10 hown hK hw 14 m_u_1 rfl (by decide) (hts _ tw_1151) (fun _ h9 => h9) dX10_holds_343 ?_
      refine lv_iload_n hx hb dX10_holds_346 rfl (lv_at hl 4 rfl) ?_
      refine lv_iconst (v := 3) hx hb dX10_holds_347 (by decide) ?_
      refine lv_iadd hx hb dX10_holds_348 (lv_topi (fun v_4 e_v_4 => ?_))
      obtain ⟨t_v_4, r_v_4⟩ := tq_add (lo := 177) (hi := 373) r_x3 rl_3 (by decide +kernel) e_v_4
      have t_v_4 : v_4.toInt = x3.toInt + 3 := t_v_4
      refine tg_iald (lo := (-2147483648)) (hi := 2147483647) hx hb hK hw h_vu_1 rfl 177 373 r_v_4 (by decide) (by decide +kernel) dX10_holds_349 (fun v_5 r_v_5 m_v_5 o_v_5 => ?_)
      refine lv_bipush (v := 61) hx hb dX10_holds_350 (by decide) ?_
      refine lv_icmp_ne (tgt := 370) hx hb dX10_holds_352 (by decide) (fun c_352 => ?_) (fun c_352 => ?_)
      · refine lv_iload hx hb dX10_holds_370 (lv_at hl 0 rfl) ?_
        refine lv_iload hx hb dX10_holds_372 (lv_at hl 6 rfl) ?_
        refine lv_icmp_le (tgt := 381) hx hb dX10_holds_374 (by decide) (fun c_374 => ?_) (fun c_374 => ?_)
        · refine lv_iconst (v := 0) hx hb dX10_holds_381 (by decide) ?_
          subst hQ
          exact W.zret (v := 0) hx hb hr (rfl) (fun t ht hW => ⟨⟨0, (), rfl, ⟨rl_0.to (by decide), (fun h0 => trivial), (fun _ => trivial)⟩, by rw [ht]; exact hw.2.1, va_K.moved hW.alike hK, hw.2.2.1⟩, hw.2.2.2.1.F ht⟩) hw.2.2.2.1.2.2 dX10_holds_382
        · have r_x5 : RI x5 (-2147483648) 2147483646 := rc_lt1 r_x5 r_y0 (ti_nle c_374) (by decide)
          have r_y0 : RI y0 (-2147483647) 2147483647 := rc_lt2 r_x5 r_y0 (ti_nle c_374) (by decide)
          refine lv_iconst (v := 1) hx hb dX10_holds_377 (by decide) ?_
          refine lv_goto (tgt := 382) hx hb dX10_holds_378 (by decide) ?_
          subst hQ
          exact W.zret (v := 1) hx hb hr (rfl) (fun t ht hW => ⟨⟨1, (), rfl, ⟨rl_1.to (by decide), (fun _ => trivial), (fun h0 => trivial)⟩, by rw [ht]; exact hw.2.1, va_K.moved hW.alike hK, hw.2.2.1⟩, hw.2.2.2.1.F ht⟩) hw.2.2.2.1.2.2 dX10_holds_382
      · have r_v_5 : RI v_5 61 61 := rc_eq1 r_v_5 rl_61 (ti_eq c_352) (by decide)
        refine lv_iload hx hb dX10_holds_355 (lv_at hl 0 rfl) ?_
        refine lv_iload hx hb dX10_holds_357 (lv_at hl 6 rfl) ?_
        refine lv_icmp_ne (tgt := 366) hx hb dX10_holds_359 (by decide) (fun c_359 => ?_) (fun c_359 => ?_)
        · refine lv_iconst (v := 0) hx hb dX10_holds_366 (by decide) ?_
          refine lv_goto (tgt := 382) hx hb dX10_holds_367 (by decide) ?_
          subst hQ
          exact W.zret (v := 0) hx hb hr (rfl) (fun t ht hW => ⟨⟨0, (), rfl, ⟨rl_0.to (by decide), (fun h0 => trivial), (fun _ => trivial)⟩, by rw [ht]; exact hw.2.1, va_K.moved hW.alike hK, hw.2.2.1⟩, hw.2.2.2.1.F ht⟩) hw.2.2.2.1.2.2 dX10_holds_382
        · refine lv_iconst (v := 1) hx hb dX10_holds_362 (by decide) ?_
          refine lv_goto (tgt := 382) hx hb dX10_holds_363 (by decide) ?_
          subst hQ
          exact W.zret (v := 1) hx hb hr (rfl) (fun t ht hW => ⟨⟨1, (), rfl, ⟨rl_1.to (by decide), (fun _ => trivial), (fun h0 => trivial)⟩, by rw [ht]; exact hw.2.1, va_K.moved hW.alike hK, hw.2.2.1⟩, hw.2.2.2.1.F ht⟩) hw.2.2.2.1.2.2 dX10_holds_382
    · have r_v_3 : RI v_3 60 60 := rc_eq1 r_v_3 rl_60 (ti_eq c_324) (by decide)
      refine lv_iload hx hb dX10_holds_327 (lv_at hl 0 rfl) ?_
      refine lv_iload hx hb dX10_holds_329 (lv_at hl 6 rfl) ?_
      refine lv_icmp_ge (tgt := 338) hx hb dX10_holds_331 (by decide) (fun c_331 => ?_) (fun c_331 => ?_)
      · refine lv_iconst (v := 0) hx hb dX10_holds_338 (by decide) ?_
        refine lv_goto (tgt := 382) hx hb dX10_holds_339 (by decide) ?_
        subst hQ
        exact W.zret (v := 0) hx hb hr (rfl) (fun t ht hW => ⟨⟨0, (), rfl, ⟨rl_0.to (by decide), (fun h0 => trivial), (fun _ => trivial)⟩, by rw [ht]; exact hw.2.1, va_K.moved hW.alike hK, hw.2.2.1⟩, hw.2.2.2.1.F ht⟩) hw.2.2.2.1.2.2 dX10_holds_382
      · have r_y0 : RI y0 (-2147483648) 2147483646 := rc_lt1 r_y0 r_x5 (ti_nle c_331) (by decide)
        have r_x5 : RI x5 (-2147483647) 2147483647 := rc_lt2 r_y0 r_x5 (ti_nle c_331) (by decide)
        refine lv_iconst (v := 1) hx hb dX10_holds_334 (by decide) ?_
        refine lv_goto (tgt := 382) hx hb dX10_holds_335 (by decide) ?_
        subst hQ
        exact W.zret (v := 1) hx hb hr (rfl) (fun t ht hW => ⟨⟨1, (), rfl, ⟨rl_1.to (by decide), (fun _ => trivial), (fun h0 => trivial)⟩, by rw [ht]; exact hw.2.1, va_K.moved hW.alike hK, hw.2.2.1⟩, hw.2.2.2.1.F ht⟩) hw.2.2.2.1.2.2 dX10_holds_382
  refine lv_sipush (v := 174) hx hb dX10_holds_0 (by decide) ?_
  refine lv_iconst (v := 4) hx hb dX10_holds_3 (by decide) ?_
  refine lv_iload_n hx hb dX10_holds_4 rfl (lv_at hl 1 rfl) ?_
  refine lv_imul hx hb dX10_holds_5 (lv_topi (fun v_6 e_v_6 => ?_))
  obtain ⟨t_v_6, r_v_6⟩ := tq_mul (lo := 0) (hi := 196) rl_4 r_p1 (by decide +kernel) e_v_6
  have t_v_6 : v_6.toInt = 4 * p1.toInt := t_v_6
  refine lv_iadd hx hb dX10_holds_6 (lv_topi (fun v_7 e_v_7 => ?_))
  obtain ⟨t_v_7, r_v_7⟩ := tq_add (lo := 174) (hi := 370) rl_174 r_v_6 (by decide +kernel) e_v_7
  have t_v_7 : v_7.toInt = 174 + v_6.toInt := t_v_7
  refine lv_istore_n (lv' := [(3, .int v_7), (0, .ref p0), (1, .int p1), (2, .int p2)]) hx hb dX10_holds_7 rfl hl (by decide) rfl (fun ls hl => ?_)
  refine lv_aload_n hx hb dX10_holds_8 rfl (lv_at hl 1 rfl) ?_
  refine tg_get (ci := 10) (ts := ty_MODEL) (C := RX10) (T := TX10) (N := 49) hx hb hts inX10 hown hK hw h_p0 rfl rfl 14 (by decide) (hts _ tw_1151) (fun _ h9 => h9) (ft := vR 34) rfl dX10_holds_9 (fun u_8 hv_u_8 m_u_8 => ?_)
  obtain ⟨vu_8, rfl, h_vu_8⟩ := hv_u_8
  refine lv_iload_n hx hb dX10_holds_12 rfl (lv_at hl 0 rfl) ?_
  refine lv_iconst (v := 1) hx hb dX10_holds_13 (by decide) ?_
  refine lv_iadd hx hb dX10_holds_14 (lv_topi (fun v_9 e_v_9 => ?_))
  obtain ⟨t_v_9, r_v_9⟩ := tq_add (lo := 175) (hi := 371) r_v_7 rl_1 (by decide +kernel) e_v_9
  have t_v_9 : v_9.toInt = v_7.toInt + 1 := t_v_9
  refine tg_iald (lo := (-2147483648)) (hi := 2147483647) hx hb hK hw h_vu_8 rfl 175 371 r_v_9 (by decide) (by decide +kernel) dX10_holds_15 (fun v_10 r_v_10 m_v_10 o_v_10 => ?_)
  refine lv_istore (lv' := [(4, .int v_10), (3, .int v_7), (0, .ref p0), (1, .int p1), (2, .int p2)]) hx hb dX10_holds_16 hl (by decide) rfl (fun ls hl => ?_)
  refine lv_aload_n hx hb dX10_holds_18 rfl (lv_at hl 2 rfl) ?_
  refine tg_mem (ci := 10) (C := RX10) (T := TX10) (N := 49) hx hb hts inX10 hown hK hw 14 m_u_8 rfl (by decide) (hts _ tw_1151) (fun _ h9 => h9) dX10_holds_19 ?_
  refine lv_iload_n hx hb dX10_holds_22 rfl (lv_at hl 1 rfl) ?_
  refine lv_iconst (v := 2) hx hb dX10_holds_23 (by decide) ?_
  refine lv_iadd hx hb dX10_holds_24 (lv_topi (fun v_11 e_v_11 => ?_))
  obtain ⟨t_v_11, r_v_11⟩ := tq_add (lo := 176) (hi := 372) r_v_7 rl_2 (by decide +kernel) e_v_11
  have t_v_11 : v_11.toInt = v_7.toInt + 2 := t_v_11
  refine tg_iald (lo := (-2147483648)) (hi := 2147483647) hx hb hK hw h_vu_8 rfl 176 372 r_v_11 (by decide) (by decide +kernel) dX10_holds_25 (fun v_12 r_v_12 m_v_12 o_v_12 => ?_)
  refine lv_istore (lv' := [(5, .int v_12), (4, .int v_10), (3, .int v_7), (0, .ref p0), (1, .int p1), (2, .int p2)]) hx hb dX10_holds_26 hl (by decide) rfl (fun ls hl => ?_)
  refine lv_aload_n hx hb dX10_holds_28 rfl (lv_at hl 3 rfl) ?_
  refine tg_mem (ci := 10) (C := RX10) (T := TX10) (N := 49) hx hb hts inX10 hown hK hw 14 m_u_8 rfl (by decide) (hts _ tw_1151) (fun _ h9 => h9) dX10_holds_29 ?_
  refine lv_iload_n hx hb dX10_holds_32 rfl (lv_at hl 2 rfl) ?_
  refine tg_iald (lo := (-2147483648)) (hi := 2147483647) hx hb hK hw h_vu_8 rfl 174 370 r_v_7 (by decide) (by decide +kernel) dX10_holds_33 (fun v_13 r_v_13 m_v_13 o_v_13 => ?_)
  by_cases k_34_1 : v_13 = 1
  · refine lv_lookup (tgt := 108) (off := 74) hx hb dX10_holds_34 (by decide) (by rw [k_34_1]; decide) (by decide) ?_
    have r_v_13 : RI v_13 1 1 := by rw [k_34_1]; exact rl_1
    have g_v_10 : 0 ≤ v_10.toInt ∧ v_10.toInt < p1.toInt := by obtain ⟨_, f9, e8, e7, q9, _⟩ := ax_of (k := 14) (t := 34) hw h_p0 rfl (fun _ => rfl); cases FLD.inj hw.2.2.1 e8 m_u_8; have t9 := ARR.ael hw.2.2.1 e7 m_v_13; have x9 := ARR.ael hw.2.2.1 e7 m_v_10; rw [show Int32.toNatClampNeg v_7 = 174 + 4 * Int32.toNatClampNeg p1 from (by have k1 := r_v_7.cl (by decide); have k2 := r_p1.cl (by decide); omega)] at t9; rw [show Int32.toNatClampNeg v_9 = 175 + 4 * Int32.toNatClampNeg p1 from (by have k1 := r_v_9.cl (by decide); have k2 := r_p1.cl (by decide); omega)] at x9; exact RN_child q9 (r_p1.to (by decide)) t9 x9 (r_v_13.to (by decide))
    have r_v_10 : RI v_10 0 48 := ⟨g_v_10.1, by have k1 := r_p1.2; omega⟩
    refine lv_aload_n hx hb dX10_holds_108 rfl (lv_at hl 3 rfl) ?_
    refine lv_iload hx hb dX10_holds_109 (lv_at hl 1 rfl) ?_
    refine lv_iload_n hx hb dX10_holds_111 rfl (lv_at hl 5 rfl) ?_
    refine tk_ir (va_runV (As := [.int v_10, .int p2]) (rest := []) ⟨hx, hb, hml, hown, hts⟩ (c_X10_holds__11 l D cy z s.heap.size Ps w0 hw.1 p0 v_10 p2 h_p0 r_v_10 r_p2) (cwV 2 hts (gV tw_1787 tw_1789 ts_119 tw_15 tw_1790) rfl rfl rfl (by decide +kernel) ⟨Nat.le_of_ble_eq_true rfl, Nat.le_of_ble_eq_true rfl⟩) (tg_preV hw hK hSD hA (ci := 10) (q := (RX10, TX10, 49)) rfl h_p0 rfl) rfl rfl hl.1 rfl (lv_room (Nat.le_of_ble_eq_true rfl)) dX10_holds_112 ⟨Nat.le_of_ble_eq_true rfl, Nat.le_of_ble_eq_true rfl⟩) hw hA (fun v_14  H locs hp_v_14 hw => ?_)
    have r_v_14 : RI v_14 0 1 := hp_v_14.1
    refine lv_if_ne (tgt := 122) hx hb dX10_holds_115 (by decide) (fun c_115 => ?_) (fun c_115 => ?_)
    · have r_v_14 : RI v_14 1 1 := rc_neL r_v_14 rl_0 (ti_ne c_115) (by decide)
      refine lv_iconst (v := 0) hx hb dX10_holds_122 (by decide) ?_
      subst hQ
      exact W.zret (v := 0) hx hb hr (rfl) (fun t ht hW => ⟨⟨0, (), rfl, ⟨rl_0.to (by decide), (fun h0 => trivial), (fun _ => trivial)⟩, by rw [ht]; exact hw.2.1, va_K.moved hW.alike hK, hw.2.2.1⟩, hw.2.2.2.1.F ht⟩) hw.2.2.2.1.2.2 dX10_holds_123
    · have r_v_14 : RI v_14 0 0 := rc_eq1 r_v_14 rl_0 (ti_eq c_115) (by decide)
      refine lv_iconst (v := 1) hx hb dX10_holds_118 (by decide) ?_
      refine lv_goto (tgt := 123) hx hb dX10_holds_119 (by decide) ?_
      subst hQ
      exact W.zret (v := 1) hx hb hr (rfl) (fun t ht hW => ⟨⟨1, (), rfl, ⟨rl_1.to (by decide), (fun _ => trivial), (fun h0 => trivial)⟩, by rw [ht]; exact hw.2.1, va_K.moved hW.alike hK, hw.2.2.1⟩, hw.2.2.2.1.F ht⟩) hw.2.2.2.1.2.2 dX10_holds_123
  · by_cases k_34_2 : v_13 = 2
    · refine lv_lookup (tgt := 124) (off := 90) hx hb dX10_holds_34 (by decide) (by rw [k_34_2]; decide) (by decide) ?_
      have r_v_13 : RI v_13 2 2 := by rw [k_34_2]; exact rl_2
      have g_v_10 : 0 ≤ v_10.toInt ∧ v_10.toInt < p1.toInt := by obtain ⟨_, f9, e8, e7, q9, _⟩ := ax_of (k := 14) (t := 34) hw h_p0 rfl (fun _ => rfl); cases FLD.inj hw.2.2.1 e8 m_u_8; have t9 := ARR.ael hw.2.2.1 e7 m_v_13; have x9 := ARR.ael hw.2.2.1 e7 m_v_10; rw [show Int32.toNatClampNeg v_7 = 174 + 4 * Int32.toNatClampNeg p1 from (by have k1 := r_v_7.cl (by decide); have k2 := r_p1.cl (by decide); omega)] at t9; rw [show Int32.toNatClampNeg v_9 = 175 + 4 * Int32.toNatClampNeg p1 from (by have k1 := r_v_9.cl (by decide); have k2 := r_p1.cl (by decide); omega)] at x9; exact RN_child q9 (r_p1.to (by decide)) t9 x9 (r_v_13.to (by decide))
      have r_v_10 : RI v_10 0 48 := ⟨g_v_10.1, by have k1 := r_p1.2; omega⟩
      have g_v_12 : 0 ≤ v_12.toInt ∧ v_12.toInt < p1.toInt := by obtain ⟨_, f9, e8, e7, q9, _⟩ := ax_of (k := 14) (t := 34) hw h_p0 rfl (fun _ => rfl); cases FLD.inj hw.2.2.1 e8 m_u_8; have t9 := ARR.ael hw.2.2.1 e7 m_v_13; have x9 := ARR.ael hw.2.2.1 e7 m_v_12; rw [show Int32.toNatClampNeg v_7 = 174 + 4 * Int32.toNatClampNeg p1 from (by have k1 := r_v_7.cl (by decide); have k2 := r_p1.cl (by decide); omega)] at t9; rw [show Int32.toNatClampNeg v_11 = 176 + 4 * Int32.toNatClampNeg p1 from (by have k1 := r_v_11.cl (by decide); have k2 := r_p1.cl (by decide); omega)] at x9; exact RN_child2 q9 (r_p1.to (by decide)) t9 x9 (r_v_13.to (by decide))
      have r_v_12 : RI v_12 0 48 := ⟨g_v_12.1, by have k1 := r_p1.2; omega⟩
      refine lv_aload_n hx hb dX10_holds_124 rfl (lv_at hl 3 rfl) ?_
      refine lv_iload hx hb dX10_holds_125 (lv_at hl 1 rfl) ?_
      refine lv_iload_n hx hb dX10_holds_127 rfl (lv_at hl 5 rfl) ?_
      refine tk_ir (va_runV (As := [.int v_10, .int p2]) (rest := []) ⟨hx, hb, hml, hown, hts⟩ (c_X10_holds__11 l D cy z s.heap.size Ps w0 hw.1 p0 v_10 p2 h_p0 r_v_10 r_p2) (cwV 2 hts (gV tw_1787 tw_1789 ts_119 tw_15 tw_1790) rfl rfl rfl (by decide +kernel) ⟨Nat.le_of_ble_eq_true rfl, Nat.le_of_ble_eq_true rfl⟩) (tg_preV hw hK hSD hA (ci := 10) (q := (RX10, TX10, 49)) rfl h_p0 rfl) rfl rfl hl.1 rfl (lv_room (Nat.le_of_ble_eq_true rfl)) dX10_holds_128 ⟨Nat.le_of_ble_eq_true rfl, Nat.le_of_ble_eq_true rfl⟩) hw hA (fun v_15  H locs hp_v_15 hw => ?_)
      have r_v_15 : RI v_15 0 1 := hp_v_15.1
      refine lv_if_eq (tgt := 148) hx hb dX10_holds_131 (by decide) (fun c_131 => ?_) (fun c_131 => ?_)
      · have r_v_15 : RI v_15 0 0 := rc_eq1 r_v_15 rl_0 (ti_eq c_131) (by decide)
        refine lv_iconst (v := 0) hx hb dX10_holds_148 (by decide) ?_
        subst hQ
        exact W.zret (v := 0) hx hb hr (rfl) (fun t ht hW => ⟨⟨0, (), rfl, ⟨rl_0.to (by decide), (fun h0 => trivial), (fun _ => trivial)⟩, by rw [ht]; exact hw.2.1, va_K.moved hW.alike hK, hw.2.2.1⟩, hw.2.2.2.1.F ht⟩) hw.2.2.2.1.2.2 dX10_holds_149
      · have r_v_15 : RI v_15 1 1 := rc_neL r_v_15 rl_0 (ti_ne c_131) (by decide)
        refine lv_aload_n hx hb dX10_holds_134 rfl (lv_at hl 3 rfl) ?_
        refine lv_iload hx hb dX10_holds_135 (lv_at hl 0 rfl) ?_
        refine lv_iload_n hx hb dX10_holds_137 rfl (lv_at hl 5 rfl) ?_
        refine tk_ir (va_runV (As := [.int v_12, .int p2]) (rest := []) ⟨hx, hb, hml, hown, hts⟩ (c_X10_holds__11 l D cy z H.size Ps w0 hw.1 p0 v_12 p2 h_p0 r_v_12 r_p2) (cwV 2 hts (gV tw_1787 tw_1789 ts_119 tw_15 tw_1790) rfl rfl rfl (by decide +kernel) ⟨Nat.le_of_ble_eq_true rfl, Nat.le_of_ble_eq_true rfl⟩) (tg_preV hw hK hSD hA (ci := 10) (q := (RX10, TX10, 49)) rfl h_p0 rfl) rfl rfl hl.1 rfl (lv_room (Nat.le_of_ble_eq_true rfl)) dX10_holds_138 ⟨Nat.le_of_ble_eq_true rfl, Nat.le_of_ble_eq_true rfl⟩) hw hA (fun v_16  H locs hp_v_16 hw => ?_)
        have r_v_16 : RI v_16 0 1 := hp_v_16.1
        refine lv_if_eq (tgt := 148) hx hb dX10_holds_141 (by decide) (fun c_141 => ?_) (fun c_141 => ?_)
        · have r_v_16 : RI v_16 0 0 := rc_eq1 r_v_16 rl_0 (ti_eq c_141) (by decide)
          refine lv_iconst (v := 0) hx hb dX10_holds_148 (by decide) ?_
          subst hQ
          exact W.zret (v := 0) hx hb hr (rfl) (fun t ht hW => ⟨⟨0, (), rfl, ⟨rl_0.to (by decide), (fun h0 => trivial), (fun _ => trivial)⟩, by rw [ht]; exact hw.2.1, va_K.moved hW.alike hK, hw.2.2.1⟩, hw.2.2.2.1.F ht⟩) hw.2.2.2.1.2.2 dX10_holds_149
        · have r_v_16 : RI v_16 1 1 := rc_neL r_v_16 rl_0 (ti_ne c_141) (by decide)
          refine lv_iconst (v := 1) hx hb dX10_holds_144 (by decide) ?_
          refine lv_goto (tgt := 149) hx hb dX10_holds_145 (by decide) ?_
          subst hQ
          exact W.zret (v := 1) hx hb hr (rfl) (fun t ht hW => ⟨⟨1, (), rfl, ⟨rl_1.to (by decide), (fun _ => trivial), (fun h0 => trivial)⟩, by rw [ht]; exact hw.2.1, va_K.moved hW.alike hK, hw.2.2.1⟩, hw.2.2.2.1.F ht⟩) hw.2.2.2.1.2.2 dX10_holds_149
    · by_cases k_34_3 : v_13 = 3
      · refine lv_lookup (tgt := 150) (off := 116) hx hb dX10_holds_34 (by decide) (by rw [k_34_3]; decide) (by decide) ?_
        have r_v_13 : RI v_13 3 3 := by rw [k_34_3]; exact rl_3
        have g_v_10 : 0 ≤ v_10.toInt ∧ v_10.toInt < p1.toInt := by obtain ⟨_, f9, e8, e7, q9, _⟩ := ax_of (k := 14) (t := 34) hw h_p0 rfl (fun _ => rfl); cases FLD.inj hw.2.2.1 e8 m_u_8; have t9 := ARR.ael hw.2.2.1 e7 m_v_13; have x9 := ARR.ael hw.2.2.1 e7 m_v_10; rw [show Int32.toNatClampNeg v_7 = 174 + 4 * Int32.toNatClampNeg p1 from (by have k1 := r_v_7.cl (by decide); have k2 := r_p1.cl (by decide); omega)] at t9; rw [show Int32.toNatClampNeg v_9 = 175 + 4 * Int32.toNatClampNeg p1 from (by have k1 := r_v_9.cl (by decide); have k2 := r_p1.cl (by decide); omega)] at x9; exact RN_child q9 (r_p1.to (by decide)) t9 x9 (r_v_13.to (by decide))
        have r_v_10 : RI v_10 0 48 := ⟨g_v_10.1, by have k1 := r_p1.2; omega⟩
        have g_v_12 : 0 ≤ v_12.toInt ∧ v_12.toInt < p1.toInt := by obtain ⟨_, f9, e8, e7, q9, _⟩ := ax_of (k := 14) (t := 34) hw h_p0 rfl (fun _ => rfl); cases FLD.inj hw.2.2.1 e8 m_u_8; have t9 := ARR.ael hw.2.2.1 e7 m_v_13; have x9 := ARR.ael hw.2.2.1 e7 m_v_12; rw [show Int32.toNatClampNeg v_7 = 174 + 4 * Int32.toNatClampNeg p1 from (by have k1 := r_v_7.cl (by decide); have k2 := r_p1.cl (by decide); omega)] at t9; rw [show Int32.toNatClampNeg v_11 = 176 + 4 * Int32.toNatClampNeg p1 from (by have k1 := r_v_11.cl (by decide); have k2 := r_p1.cl (by decide); omega)] at x9; exact RN_child2 q9 (r_p1.to (by decide)) t9 x9 (r_v_13.to (by decide))
        have r_v_12 : RI v_12 0 48 := ⟨g_v_12.1, by have k1 := r_p1.2; omega⟩
        refine lv_aload_n hx hb dX10_holds_150 rfl (lv_at hl 3 rfl) ?_
        refine lv_iload hx hb dX10_holds_151 (lv_at hl 1 rfl) ?_
        refine lv_iload_n hx hb dX10_holds_153 rfl (lv_at hl 5 rfl) ?_
        refine tk_ir (va_runV (As := [.int v_10, .int p2]) (rest := []) ⟨hx, hb, hml, hown, hts⟩ (c_X10_holds__11 l D cy z s.heap.size Ps w0 hw.1 p0 v_10 p2 h_p0 r_v_10 r_p2) (cwV 2 hts (gV tw_1787 tw_1789 ts_119 tw_15 tw_1790) rfl rfl rfl (by decide +kernel) ⟨Nat.le_of_ble_eq_true rfl, Nat.le_of_ble_eq_true rfl⟩) (tg_preV hw hK hSD hA (ci := 10) (q := (RX10, TX10, 49)) rfl h_p0 rfl) rfl rfl hl.1 rfl (lv_room (Nat.le_of_ble_eq_true rfl)) dX10_holds_154 ⟨Nat.le_of_ble_eq_true rfl, Nat.le_of_ble_eq_true rfl⟩) hw hA (fun v_17  H locs hp_v_17 hw => ?_)
        have r_v_17 : RI v_17 0 1 := hp_v_17.1
        refine lv_if_ne (tgt := 170) hx hb dX10_holds_157 (by decide) (fun c_157 => ?_) (fun c_157 => ?_)
        · have r_v_17 : RI v_17 1 1 := rc_neL r_v_17 rl_0 (ti_ne c_157) (by decide)
          refine lv_iconst (v := 1) hx hb dX10_holds_170 (by decide) ?_
          refine lv_goto (tgt := 175) hx hb dX10_holds_171 (by decide) ?_
          subst hQ
          exact W.zret (v := 1) hx hb hr (rfl) (fun t ht hW => ⟨⟨1, (), rfl, ⟨rl_1.to (by decide), (fun _ => trivial), (fun h0 => trivial)⟩, by rw [ht]; exact hw.2.1, va_K.moved hW.alike hK, hw.2.2.1⟩, hw.2.2.2.1.F ht⟩) hw.2.2.2.1.2.2 dX10_holds_175
        · have r_v_17 : RI v_17 0 0 := rc_eq1 r_v_17 rl_0 (ti_eq c_157) (by decide)
          refine lv_aload_n hx hb dX10_holds_160 rfl (lv_at hl 3 rfl) ?_
          refine lv_iload hx hb dX10_holds_161 (lv_at hl 0 rfl) ?_
          refine lv_iload_n hx hb dX10_holds_163 rfl (lv_at hl 5 rfl) ?_
          refine tk_ir (va_runV (As := [.int v_12, .int p2]) (rest := []) ⟨hx, hb, hml, hown, hts⟩ (c_X10_holds__11 l D cy z H.size Ps w0 hw.1 p0 v_12 p2 h_p0 r_v_12 r_p2) (cwV 2 hts (gV tw_1787 tw_1789 ts_119 tw_15 tw_1790) rfl rfl rfl (by decide +kernel) ⟨Nat.le_of_ble_eq_true rfl, Nat.le_of_ble_eq_true rfl⟩) (tg_preV hw hK hSD hA (ci := 10) (q := (RX10, TX10, 49)) rfl h_p0 rfl) rfl rfl hl.1 rfl (lv_room (Nat.le_of_ble_eq_true rfl)) dX10_holds_164 ⟨Nat.le_of_ble_eq_true rfl, Nat.le_of_ble_eq_true rfl⟩) hw hA (fun v_18  H locs hp_v_18 hw => ?_)
          have r_v_18 : RI v_18 0 1 := hp_v_18.1
          refine lv_if_eq (tgt := 174) hx hb dX10_holds_167 (by decide) (fun c_167 => ?_) (fun c_167 => ?_)
          · have r_v_18 : RI v_18 0 0 := rc_eq1 r_v_18 rl_0 (ti_eq c_167) (by decide)
            refine lv_iconst (v := 0) hx hb dX10_holds_174 (by decide) ?_
            subst hQ
            exact W.zret (v := 0) hx hb hr (rfl) (fun t ht hW => ⟨⟨0, (), rfl, ⟨rl_0.to (by decide), (fun h0 => trivial), (fun _ => trivial)⟩, by rw [ht]; exact hw.2.1, va_K.moved hW.alike hK, hw.2.2.1⟩, hw.2.2.2.1.F ht⟩) hw.2.2.2.1.2.2 dX10_holds_175
          · have r_v_18 : RI v_18 1 1 := rc_neL r_v_18 rl_0 (ti_ne c_167) (by decide)
            refine lv_iconst (v := 1) hx hb dX10_holds_170 (by decide) ?_
            refine lv_goto (tgt := 175) hx hb dX10_holds_171 (by decide) ?_
            subst hQ
            exact W.zret (v := 1) hx hb hr (rfl) (fun t ht hW => ⟨⟨1, (), rfl, ⟨rl_1.to (by decide), (fun _ => trivial), (fun h0 => trivial)⟩, by rw [ht]; exact hw.2.1, va_K.moved hW.alike hK, hw.2.2.1⟩, hw.2.2.2.1.F ht⟩) hw.2.2.2.1.2.2 dX10_holds_175
      · by_cases k_34_69 : v_13 = 69
        · refine lv_lookup (tgt := 176) (off := 142) hx hb dX10_holds_34 (by decide) (by rw [k_34_69]; decide) (by decide) ?_
          have r_v_13 : RI v_13 69 69 := by rw [k_34_69]; exact rl_69
          refine lv_aload_n hx hb dX10_holds_176 rfl (lv_at hl 3 rfl) ?_
          refine lv_iload_n hx hb dX10_holds_177 rfl (lv_at hl 5 rfl) ?_
          refine tk_ir (va_runV (As := [.int p2]) (rest := []) ⟨hx, hb, hml, hown, hts⟩ (c_X10_isOpen l D cy z s.heap.size Ps w0 hw.1 p0 p2 h_p0 (r_p2.to (by decide))) (cwV 1 hts (gV tw_1457 tw_1459 ts_71 tw_15 tw_1460) rfl rfl rfl (by decide +kernel) ⟨Nat.le_of_ble_eq_true rfl, Nat.le_of_ble_eq_true rfl⟩) (tg_preV hw hK hSD hA (ci := 10) (q := (RX10, TX10, 49)) rfl h_p0 rfl) rfl rfl hl.1 rfl (lv_room (Nat.le_of_ble_eq_true rfl)) dX10_holds_178 ⟨Nat.le_of_ble_eq_true rfl, Nat.le_of_ble_eq_true rfl⟩) hw hA (fun v_19  H locs hp_v_19 hw => ?_)
          have r_v_19 : RI v_19 0 1 := hp_v_19.1
          subst hQ
          exact W.zret (v := v_19) hx hb hr (tq_nz (r_v_19.to (by decide))) (fun t ht hW => ⟨⟨v_19, (), rfl, ⟨r_v_19.to (by decide), (fun h0 => trivial), (fun h0 => trivial)⟩, by rw [ht]; exact hw.2.1, va_K.moved hW.alike hK, hw.2.2.1⟩, hw.2.2.2.1.F ht⟩) hw.2.2.2.1.2.2 dX10_holds_181
        · by_cases k_34_70 : v_13 = 70
          · refine lv_lookup (tgt := 182) (off := 148) hx hb dX10_holds_34 (by decide) (by rw [k_34_70]; decide) (by decide) ?_
            have r_v_13 : RI v_13 70 70 := by rw [k_34_70]; exact rl_70
            refine lv_aload_n hx hb dX10_holds_182 rfl (lv_at hl 3 rfl) ?_
            refine lv_iload_n hx hb dX10_holds_183 rfl (lv_at hl 5 rfl) ?_
            refine tk_ir (va_runV (As := [.int p2]) (rest := []) ⟨hx, hb, hml, hown, hts⟩ (c_X10_whatIs l D cy z s.heap.size Ps w0 hw.1 p0 p2 h_p0 r_p2) (cwV 1 hts (gV tw_1449 tw_1451 ts_69 tw_15 tw_1452) rfl rfl rfl (by decide +kernel) ⟨Nat.le_of_ble_eq_true rfl, Nat.le_of_ble_eq_true rfl⟩) (tg_preV hw hK hSD hA (ci := 10) (q := (RX10, TX10, 49)) rfl h_p0 rfl) rfl rfl hl.1 rfl (lv_room (Nat.le_of_ble_eq_true rfl)) dX10_holds_184 ⟨Nat.le_of_ble_eq_true rfl, Nat.le_of_ble_eq_true rfl⟩) hw hA (fun v_20  H locs hp_v_20 hw => ?_)
            have r_v_20 : RI v_20 (-1) 5 := hp_v_20.1
            by_cases c9_v_20 : v_20.toInt < 0
            · have r_v_20 : RI v_20 (-1) (-1) := by unfold RI at r_v_20 ⊢; omega
              have x_NB_p0_p2 := (hp_v_20.2.2.2.2.1 (by omega)).1
              refine lv_iconst (v := (-1)) hx hb dX10_holds_187 (by decide) ?_
              refine lv_icmp_ne (tgt := 195) hx hb dX10_holds_188 (by decide) (fun c_188 => ?_) (fun c_188 => ?_)
              · exact absurd (r_v_20.eq.trans rl_m1.eq.symm) ((ti_ne c_188))
              · refine lv_iconst (v := 1) hx hb dX10_holds_191 (by decide) ?_
                refine lv_goto (tgt := 196) hx hb dX10_holds_192 (by decide) ?_
                subst hQ
                exact W.zret (v := 1) hx hb hr (rfl) (fun t ht hW => ⟨⟨1, (), rfl, ⟨rl_1.to (by decide), (fun _ => trivial), (fun h0 => trivial)⟩, by rw [ht]; exact hw.2.1, va_K.moved hW.alike hK, hw.2.2.1⟩, hw.2.2.2.1.F ht⟩) hw.2.2.2.1.2.2 dX10_holds_196
            · have r_v_20 : RI v_20 0 5 := by unfold RI at r_v_20 ⊢; omega
              have x_WB_p0_p2_v_20 := (hp_v_20.2.2.2.2.2 (by omega)).1
              refine lv_iconst (v := (-1)) hx hb dX10_holds_187 (by decide) ?_
              refine lv_icmp_ne (tgt := 195) hx hb dX10_holds_188 (by decide) (fun c_188 => ?_) (fun c_188 => ?_)
              · refine lv_iconst (v := 0) hx hb dX10_holds_195 (by decide) ?_
                subst hQ
                exact W.zret (v := 0) hx hb hr (rfl) (fun t ht hW => ⟨⟨0, (), rfl, ⟨rl_0.to (by decide), (fun h0 => trivial), (fun _ => trivial)⟩, by rw [ht]; exact hw.2.1, va_K.moved hW.alike hK, hw.2.2.1⟩, hw.2.2.2.1.F ht⟩) hw.2.2.2.1.2.2 dX10_holds_196
              · have r_v_20 : RI v_20 0 (-1) := rc_eq1 r_v_20 rl_m1 (ti_eq c_188) (by decide)
                exact (r_v_20.no (by decide)).elim
          · by_cases k_34_71 : v_13 = 71
            · refine lv_lookup (tgt := 197) (off := 163) hx hb dX10_holds_34 (by decide) (by rw [k_34_71]; decide) (by decide) ?_
              have r_v_13 : RI v_13 71 71 := by rw [k_34_71]; exact rl_71
              refine lv_aload_n hx hb dX10_holds_197 rfl (lv_at hl 3 rfl) ?_
              refine lv_iload_n hx hb dX10_holds_198 rfl (lv_at hl 5 rfl) ?_
              refine tk_ir (va_runV (As := [.int p2]) (rest := []) ⟨hx, hb, hml, hown, hts⟩ (c_X10_sittersOf l D cy z s.heap.size Ps w0 hw.1 p0 p2 h_p0 (r_p2.to (by decide))) (cwV 1 hts (gV tw_1461 tw_1463 ts_72 tw_15 tw_1464) rfl rfl rfl (by decide +kernel) ⟨Nat.le_of_ble_eq_true rfl, Nat.le_of_ble_eq_true rfl⟩) (tg_preV hw hK hSD hA (ci := 10) (q := (RX10, TX10, 49)) rfl h_p0 rfl) rfl rfl hl.1 rfl (lv_room (Nat.le_of_ble_eq_true rfl)) dX10_holds_199 ⟨Nat.le_of_ble_eq_true rfl, Nat.le_of_ble_eq_true rfl⟩) hw hA (fun v_21  H locs hp_v_21 hw => ?_)
              have r_v_21 : RI v_21 (-2147483648) 2147483647 := hp_v_21.1
              refine lv_if_eq (tgt := 209) hx hb dX10_holds_202 (by decide) (fun c_202 => ?_) (fun c_202 => ?_)
              · have r_v_21 : RI v_21 0 0 := rc_eq1 r_v_21 rl_0 (ti_eq c_202) (by decide)
                refine lv_iconst (v := 0) hx hb dX10_holds_209 (by decide) ?_
                subst hQ
                exact W.zret (v := 0) hx hb hr (rfl) (fun t ht hW => ⟨⟨0, (), rfl, ⟨rl_0.to (by decide), (fun h0 => trivial), (fun _ => trivial)⟩, by rw [ht]; exact hw.2.1, va_K.moved hW.alike hK, hw.2.2.1⟩, hw.2.2.2.1.F ht⟩) hw.2.2.2.1.2.2 dX10_holds_210
              · refine lv_iconst (v := 1) hx hb dX10_holds_205 (by decide) ?_
                refine lv_goto (tgt := 210) hx hb dX10_holds_206 (by decide) ?_
                subst hQ
                exact W.zret (v := 1) hx hb hr (rfl) (fun t ht hW => ⟨⟨1, (), rfl, ⟨rl_1.to (by decide), (fun _ => trivial), (fun h0 => trivial)⟩, by rw [ht]; exact hw.2.1, va_K.moved hW.alike hK, hw.2.2.1⟩, hw.2.2.2.1.F ht⟩) hw.2.2.2.1.2.2 dX10_holds_210
            · by_cases k_34_72 : v_13 = 72
              · refine lv_lookup (tgt := 211) (off := 177) hx hb dX10_holds_34 (by decide) (by rw [k_34_72]; decide) (by decide) ?_
                have r_v_13 : RI v_13 72 72 := by rw [k_34_72]; exact rl_72
                refine lv_aload_n hx hb dX10_holds_211 rfl (lv_at hl 3 rfl) ?_
                refine lv_iload_n hx hb dX10_holds_212 rfl (lv_at hl 5 rfl) ?_
                refine tk_ir (va_runV (As := [.int p2]) (rest := []) ⟨hx, hb, hml, hown, hts⟩ (c_X10_whatIs l D cy z s.heap.size Ps w0 hw.1 p0 p2 h_p0 r_p2) (cwV 1 hts (gV tw_1449 tw_1451 ts_69 tw_15 tw_1452) rfl rfl rfl (by decide +kernel) ⟨Nat.le_of_ble_eq_true rfl, Nat.le_of_ble_eq_true rfl⟩) (tg_preV hw hK hSD hA (ci := 10) (q := (RX10, TX10, 49)) rfl h_p0 rfl) rfl rfl hl.1 rfl (lv_room (Nat.le_of_ble_eq_true rfl)) dX10_holds_213 ⟨Nat.le_of_ble_eq_true rfl, Nat.le_of_ble_eq_true rfl⟩) hw hA (fun v_22  H locs hp_v_22 hw => ?_)
                have r_v_22 : RI v_22 (-1) 5 := hp_v_22.1
                by_cases c9_v_22 : v_22.toInt < 0
                · have r_v_22 : RI v_22 (-1) (-1) := by unfold RI at r_v_22 ⊢; omega
                  have x_NB_p0_p2 := (hp_v_22.2.2.2.2.1 (by omega)).1
                  refine lv_iload hx hb dX10_holds_216 (lv_at hl 1 rfl) ?_
                  refine lv_icmp_ne (tgt := 225) hx hb dX10_holds_218 (by decide) (fun c_218 => ?_) (fun c_218 => ?_)
                  · refine lv_iconst (v := 0) hx hb dX10_holds_225 (by decide) ?_
                    subst hQ
                    exact W.zret (v := 0) hx hb hr (rfl) (fun t ht hW => ⟨⟨0, (), rfl, ⟨rl_0.to (by decide), (fun h0 => trivial), (fun _ => trivial)⟩, by rw [ht]; exact hw.2.1, va_K.moved hW.alike hK, hw.2.2.1⟩, hw.2.2.2.1.F ht⟩) hw.2.2.2.1.2.2 dX10_holds_226
                  · have r_v_10 : RI v_10 (-1) (-1) := rc_eq2 r_v_22 r_v_10 (ti_eq c_218) (by decide)
                    refine lv_iconst (v := 1) hx hb dX10_holds_221 (by decide) ?_
                    refine lv_goto (tgt := 226) hx hb dX10_holds_222 (by decide) ?_
                    subst hQ
                    exact W.zret (v := 1) hx hb hr (rfl) (fun t ht hW => ⟨⟨1, (), rfl, ⟨rl_1.to (by decide), (fun _ => trivial), (fun h0 => trivial)⟩, by rw [ht]; exact hw.2.1, va_K.moved hW.alike hK, hw.2.2.1⟩, hw.2.2.2.1.F ht⟩) hw.2.2.2.1.2.2 dX10_holds_226
                · have r_v_22 : RI v_22 0 5 := by unfold RI at r_v_22 ⊢; omega
                  have x_WB_p0_p2_v_22 := (hp_v_22.2.2.2.2.2 (by omega)).1
                  refine lv_iload hx hb dX10_holds_216 (lv_at hl 1 rfl) ?_
                  refine lv_icmp_ne (tgt := 225) hx hb dX10_holds_218 (by decide) (fun c_218 => ?_) (fun c_218 => ?_)
                  · refine lv_iconst (v := 0) hx hb dX10_holds_225 (by decide) ?_
                    subst hQ
                    exact W.zret (v := 0) hx hb hr (rfl) (fun t ht hW => ⟨⟨0, (), rfl, ⟨rl_0.to (by decide), (fun h0 => trivial), (fun _ => trivial)⟩, by rw [ht]; exact hw.2.1, va_K.moved hW.alike hK, hw.2.2.1⟩, hw.2.2.2.1.F ht⟩) hw.2.2.2.1.2.2 dX10_holds_226
                  · have r_v_10 : RI v_10 0 5 := rc_eq2 r_v_22 r_v_10 (ti_eq c_218) (by decide)
                    refine lv_iconst (v := 1) hx hb dX10_holds_221 (by decide) ?_
                    refine lv_goto (tgt := 226) hx hb dX10_holds_222 (by decide) ?_
                    subst hQ
                    exact W.zret (v := 1) hx hb hr (rfl) (fun t ht hW => ⟨⟨1, (), rfl, ⟨rl_1.to (by decide), (fun _ => trivial), (fun h0 => trivial)⟩, by rw [ht]; exact hw.2.1, va_K.moved hW.alike hK, hw.2.2.1⟩, hw.2.2.2.1.F ht⟩) hw.2.2.2.1.2.2 dX10_holds_226
              · by_cases k_34_73 : v_13 = 73
                · refine lv_lookup (tgt := 227) (off := 193) hx hb dX10_holds_34 (by decide) (by rw [k_34_73]; decide) (by decide) ?_
                  have r_v_13 : RI v_13 73 73 := by rw [k_34_73]; exact rl_73
                  refine lv_aload_n hx hb dX10_holds_227 rfl (lv_at hl 3 rfl) ?_
                  refine tg_mem (ci := 10) (C := RX10) (T := TX10) (N := 49) hx hb hts inX10 hown hK hw 14 m_u_8 rfl (by decide) (hts _ tw_1151) (fun _ h9 => h9) dX10_holds_228 ?_
                  refine lv_bipush (v := 86) hx hb dX10_holds_231 (by decide) ?_
                  refine lv_iload_n hx hb dX10_holds_233 rfl (lv_at hl 5 rfl) ?_
                  refine lv_iadd hx hb dX10_holds_234 (lv_topi (fun v_23 e_v_23 => ?_))
                  obtain ⟨t_v_23, r_v_23⟩ := tq_add (lo := 86) (hi := 91) rl_86 r_p2 (by decide +kernel) e_v_23
                  have t_v_23 : v_23.toInt = 86 + p2.toInt := t_v_23
                  refine tg_iald (lo := (-2147483648)) (hi := 2147483647) hx hb hK hw h_vu_8 rfl 86 91 r_v_23 (by decide) (by decide +kernel) dX10_holds_235 (fun v_24 r_v_24 m_v_24 o_v_24 => ?_)
                  refine lv_iload hx hb dX10_holds_236 (lv_at hl 1 rfl) ?_
                  refine lv_icmp_ne (tgt := 245) hx hb dX10_holds_238 (by decide) (fun c_238 => ?_) (fun c_238 => ?_)
                  · refine lv_iconst (v := 0) hx hb dX10_holds_245 (by decide) ?_
                    subst hQ
                    exact W.zret (v := 0) hx hb hr (rfl) (fun t ht hW => ⟨⟨0, (), rfl, ⟨rl_0.to (by decide), (fun h0 => trivial), (fun _ => trivial)⟩, by rw [ht]; exact hw.2.1, va_K.moved hW.alike hK, hw.2.2.1⟩, hw.2.2.2.1.F ht⟩) hw.2.2.2.1.2.2 dX10_holds_246
                  · refine lv_iconst (v := 1) hx hb dX10_holds_241 (by decide) ?_
                    refine lv_goto (tgt := 246) hx hb dX10_holds_242 (by decide) ?_
                    subst hQ
                    exact W.zret (v := 1) hx hb hr (rfl) (fun t ht hW => ⟨⟨1, (), rfl, ⟨rl_1.to (by decide), (fun _ => trivial), (fun h0 => trivial)⟩, by rw [ht]; exact hw.2.1, va_K.moved hW.alike hK, hw.2.2.1⟩, hw.2.2.2.1.F ht⟩) hw.2.2.2.1.2.2 dX10_holds_246
                · refine lv_lookup (tgt := 247) (off := 213) hx hb dX10_holds_34 (by decide) ((lv_osw k_34_1 (by decide)).trans ((lv_osw k_34_2 (by decide)).trans ((lv_osw k_34_3 (by decide)).trans ((lv_osw k_34_69 (by decide)).trans ((lv_osw k_34_70 (by decide)).trans ((lv_osw k_34_71 (by decide)).trans ((lv_osw k_34_72 (by decide)).trans ((lv_osw k_34_73 (by decide)).trans (rfl))))))))) (by decide) ?_
                  refine lv_aload_n hx hb dX10_holds_247 rfl (lv_at hl 3 rfl) ?_
                  refine tg_mem (ci := 10) (C := RX10) (T := TX10) (N := 49) hx hb hts inX10 hown hK hw 14 m_u_8 rfl (by decide) (hts _ tw_1151) (fun _ h9 => h9) dX10_holds_248 ?_
                  refine lv_iload_n hx hb dX10_holds_251 rfl (lv_at hl 2 rfl) ?_
                  refine tg_imem hx hb hK hw h_vu_8 rfl r_v_7 (by decide) m_v_13 dX10_holds_252 ?_
                  refine lv_bipush (v := 50) hx hb dX10_holds_253 (by decide) ?_
                  refine lv_isub hx hb dX10_holds_255 (lv_topi (fun v_26 e_v_26 => ?_))
                  have r_v_26 := ri_any v_26
                  refine lv_istore (lv' := [(6, .int v_26), (5, .int v_12), (4, .int v_10), (3, .int v_7), (0, .ref p0), (1, .int p1), (2, .int p2)]) hx hb dX10_holds_256 hl (by decide) rfl (fun ls hl => ?_)
                  refine lv_iload hx hb dX10_holds_258 (lv_at hl 0 rfl) ?_
                  refine lv_bipush (v := 24) hx hb dX10_holds_260 (by decide) ?_
                  refine lv_icmp_ne (tgt := 273) hx hb dX10_holds_262 (by decide) (fun c_262 => ?_) (fun c_262 => ?_)
                  · refine lv_iload hx hb dX10_holds_273 (lv_at hl 0 rfl) ?_
                    refine lv_bipush (v := 25) hx hb dX10_holds_275 (by decide) ?_
                    refine lv_icmp_ne (tgt := 292) hx hb dX10_holds_277 (by decide) (fun c_277 => ?_) (fun c_277 => ?_)
                    · refine lv_iload hx hb dX10_holds_292 (lv_at hl 0 rfl) ?_
                      refine lv_bipush (v := 26) hx hb dX10_holds_294 (by decide) ?_
                      refine lv_icmp_ne (tgt := 311) hx hb dX10_holds_296 (by decide) (fun c_296 => ?_) (fun c_296 => ?_)
                      · refine lv_iload_n hx hb dX10_holds_311 rfl (lv_at hl 6 rfl) ?_
                        exact B312 v_7 v_10 v_12 v_26 p2 _ _ ls r_p1 r_p2 r_v_7 r_v_10 r_v_12 r_v_26 (r_p2.to (by decide)) hw (lv_sub hl [4, 5, 6, 3, 2, 1, 0] rfl)
                      · have r_v_26 : RI v_26 26 26 := rc_eq1 r_v_26 rl_26 (ti_eq c_296) (by decide)
                        refine lv_aload_n hx hb dX10_holds_299 rfl (lv_at hl 4 rfl) ?_
                        refine tg_mem (ci := 10) (C := RX10) (T := TX10) (N := 49) hx hb hts inX10 hown hK hw 14 m_u_8 rfl (by decide) (hts _ tw_1151) (fun _ h9 => h9) dX10_holds_300 ?_
                        refine lv_bipush (v := 98) hx hb dX10_holds_303 (by decide) ?_
                        refine lv_iload_n hx hb dX10_holds_305 rfl (lv_at hl 6 rfl) ?_
                        refine lv_iadd hx hb dX10_holds_306 (lv_topi (fun v_27 e_v_27 => ?_))
                        obtain ⟨t_v_27, r_v_27⟩ := tq_add (lo := 98) (hi := 103) rl_98 r_p2 (by decide +kernel) e_v_27
                        have t_v_27 : v_27.toInt = 98 + p2.toInt := t_v_27
                        refine tg_iald (lo := (-2147483648)) (hi := 2147483647) hx hb hK hw h_vu_8 rfl 98 103 r_v_27 (by decide) (by decide +kernel) dX10_holds_307 (fun v_28 r_v_28 m_v_28 o_v_28 => ?_)
                        refine lv_goto (tgt := 312) hx hb dX10_holds_308 (by decide) ?_
                        exact B312 v_7 v_10 v_12 v_26 v_28 _ _ ls r_p1 r_p2 r_v_7 r_v_10 r_v_12 (r_v_26.to (by decide)) r_v_28 hw (lv_sub hl [4, 5, 6, 3, 2, 1, 0] rfl)
                    · have r_v_26 : RI v_26 25 25 := rc_eq1 r_v_26 rl_25 (ti_eq c_277) (by decide)
                      refine lv_aload_n hx hb dX10_holds_280 rfl (lv_at hl 4 rfl) ?_
                      refine tg_mem (ci := 10) (C := RX10) (T := TX10) (N := 49) hx hb hts inX10 hown hK hw 14 m_u_8 rfl (by decide) (hts _ tw_1151) (fun _ h9 => h9) dX10_holds_281 ?_
                      refine lv_bipush (v := 92) hx hb dX10_holds_284 (by decide) ?_
                      refine lv_iload_n hx hb dX10_holds_286 rfl (lv_at hl 6 rfl) ?_
                      refine lv_iadd hx hb dX10_holds_287 (lv_topi (fun v_29 e_v_29 => ?_))
                      obtain ⟨t_v_29, r_v_29⟩ := tq_add (lo := 92) (hi := 97) rl_92 r_p2 (by decide +kernel) e_v_29
                      have t_v_29 : v_29.toInt = 92 + p2.toInt := t_v_29
                      refine tg_iald (lo := (-2147483648)) (hi := 2147483647) hx hb hK hw h_vu_8 rfl 92 97 r_v_29 (by decide) (by decide +kernel) dX10_holds_288 (fun v_30 r_v_30 m_v_30 o_v_30 => ?_)
                      refine lv_goto (tgt := 312) hx hb dX10_holds_289 (by decide) ?_
                      exact B312 v_7 v_10 v_12 v_26 v_30 _ _ ls r_p1 r_p2 r_v_7 r_v_10 r_v_12 (r_v_26.to (by decide)) r_v_30 hw (lv_sub hl [4, 5, 6, 3, 2, 1, 0] rfl)
                  · have r_v_26 : RI v_26 24 24 := rc_eq1 r_v_26 rl_24 (ti_eq c_262) (by decide)
                    refine lv_aload_n hx hb dX10_holds_265 rfl (lv_at hl 4 rfl) ?_
                    refine lv_iload_n hx hb dX10_holds_266 rfl (lv_at hl 6 rfl) ?_
                    refine tk_ir (va_runV (As := [.int p2]) (rest := []) ⟨hx, hb, hml, hown, hts⟩ (c_X10_sizeOf l D cy z s.heap.size Ps w0 hw.1 p0 p2 h_p0 r_p2) (cwV 1 hts (gV tw_1453 tw_1455 ts_70 tw_15 tw_1456) rfl rfl rfl (by decide +kernel) ⟨Nat.le_of_ble_eq_true rfl, Nat.le_of_ble_eq_true rfl⟩) (tg_preV hw hK hSD hA (ci := 10) (q := (RX10, TX10, 49)) rfl h_p0 rfl) rfl rfl hl.1 rfl (lv_room (Nat.le_of_ble_eq_true rfl)) dX10_holds_267 ⟨Nat.le_of_ble_eq_true rfl, Nat.le_of_ble_eq_true rfl⟩) hw hA (fun v_31  H locs hp_v_31 hw => ?_)
                    have r_v_31 : RI v_31 (-2147483648) 2147483647 := hp_v_31.1
                    refine lv_goto (tgt := 312) hx hb dX10_holds_270 (by decide) ?_
                    exact B312 v_7 v_10 v_12 v_26 v_31 _ _ ls r_p1 r_p2 r_v_7 r_v_10 r_v_12 (r_v_26.to (by decide)) r_v_31 hw (lv_sub hl [4, 5, 6, 3, 2, 1, 0] rfl)
abbrev wr_X10_holds__9 : List (Nat × Nat) := []
abbrev wa_X10_holds__9 : List Nat := []
set_option maxHeartbeats 4000000 in
set_option maxRecDepth 100000 in
theorem c_X10_holds__9 (l : Launch) (D : va_G) (cy : Nat → ClassId) (z : Nat → Nat) (sz : Nat) (Ps : PSI) (w0 : va_W) (hT : HT cy GG Ps w0) (p0 : Nat) (p1 : Int32) (p2 : Int32) (h_p0 : (p0, 55) ∈ Ps) (r_p1 : RI p1 0 50) (r_p2 : RI p2 0 5) : Met l yX10_holds (Cond.code yX10_holds cX10_holds 8 (some .boolean) :: gT) ({ frames := 53, cells := 0, slots := 0, locals := 10600 } : Room) (va_Pc [.ref p0, .int p1, .int p2] (PRE D cy z w0 sz)) (va_Qi (fun (r : Int32) (u : Unit) => RI r 0 1 ∧ (r = 0 → True) ∧ (¬ r = 0 → True)) (BB D cy (va_A w0 sz) (fun (u : Unit) => w0)) (va_A w0 sz)) 0 0 (va_A w0 sz) := by
  refine Met.ofW (cc := cX10_holds) (maxL := 8) (ret := (some .boolean)) (by decide) rfl ?_
  intro p e s m args below meth c s₁ B hml hv
  obtain ⟨rfl, hsz, hP, hK, hD0, hSD⟩ := hv
  have hx := B.exec
  have hb := B.bytes
  have hr := B.returns
  have hlocks := B.notSynchronized
  have hts : ∀ w ∈ gT, w.before _ s = true := fun w h => atoms_spec (ws := Cond.code yX10_holds cX10_holds 8 (some .boolean) :: gT) B.pre w (List.mem_cons_of_mem _ h)
  have hown : s.vm.findClass RX10 = some m.cls := findClass_of_methodNamed B.named
  subst hsz
  have hD := hD0.self (sz := s.heap.size)
  generalize hAe : va_A w0 s.heap.size = A at hD hSD ⊢
  have hA : ∀ q : Nat, s.heap.size ≤ q → A q := fun q h => by rw [← hAe]; exact Or.inr h
  have hl := lv_entry ([.ref p0, .int p1, .int p2]) (n := 8) (Nat.le_of_ble_eq_true rfl)
  rw [lg_entry_eq]
  generalize (lg_sl ([.ref p0, .int p1, .int p2]) ++ List.replicate (8 - (lg_sl ([.ref p0, .int p1, .int p2])).length) Slot.unset).toArray = ls at hl ⊢
  have hl : lv_has ls 8 [(0, .ref p0), (1, .int p1), (2, .int p2)] := hl
  refine nameQ (fun Q hQ => ?_)
  have hw : WD D cy GG A s wr_X10_holds__9 wa_X10_holds__9 Ps w0 Ps w0 s.heap [] := ⟨hT, hP, hD, va_S.rf, FR.rf, hT.1, [], (List.append_nil _).symm⟩
  have B312 : ∀ (x3 : Int32) (x4 : Int32) (x5 : Int32) (x6 : Int32) (y0 : Int32) (H : Heap) (locs : List Loc) (ls : Array Slot), RI p1 0 50 → RI p2 0 5 → RI x3 174 374 → RI x4 (-2147483648) 2147483647 → RI x5 (-2147483648) 2147483647 → RI x6 (-2147483648) 2147483647 → RI y0 (-2147483648) 2147483647 → WD D cy GG A s wr_X10_holds__9 wa_X10_holds__9 Ps w0 Ps w0 H locs → lv_has ls 8 [(0, .ref p0), (1, .int p1), (2, .int p2), (3, .int x3), (4, .int x4), (5, .int x5), (6, .int x6)] → W p l e (headSpec (Cond.code yX10_holds cX10_holds 8 (some .boolean) :: gT) ({ frames := 53, cells := 0, slots := 0, locals := 10600 } : Room)).room s m ([.ref p0, .int p1, .int p2] : List Value).toArray below meth c H locs 0 0 Q (F0 m 312 ls [.int y0]) := by
    intro x3 x4 x5 x6 y0 H locs ls r_p1 r_p2 r_x3 r_x4 r_x5 r_x6 r_y0 hw hl
    refine lv_istore (lv' := [(7, .int y0), (0, .ref p0), (1, .int p1), (2, .int p2), (3, .int x3), (4, .int x4), (5, .int x5), (6, .int x6)]) hx hb dX10_holds_312 hl (by decide) rfl (fun ls hl => ?_)
    refine lv_aload_n hx hb dX10_holds_314 rfl (lv_at hl 1 rfl) ?_
    refine tg_get (ci := 10) (ts := ty_MODEL) (C := RX10) (T := TX10) (N := 49) hx hb hts inX10 hown hK hw h_p0 rfl rfl 14 (by decide) (hts _ tw_1151) (fun _ h9 => h9) (ft := vR 34) rfl dX10_holds_315 (fun u_1 hv_u_1 m_u_1 => ?_)
    obtain ⟨vu_1, rfl, h_vu_1⟩ := hv_u_1
    refine lv_iload_n hx hb dX10_holds_318 rfl (lv_at hl 4 rfl) ?_
    refine lv_iconst (v := 3) hx hb dX10_holds_319 (by decide) ?_
    refine lv_iadd hx hb dX10_holds_320 (lv_topi (fun v_2 e_v_2 => ?_))
    obtain ⟨t_v_2, r_v_2⟩ := tq_add (lo := 177) (hi := 377) r_x3 rl_3 (by decide +kernel) e_v_2
    have t_v_2 : v_2.toInt = x3.toInt + 3 := t_v_2
    refine tg_iald (lo := (-2147483648)) (hi := 2147483647) hx hb hK hw h_vu_1 rfl 177 377 r_v_2 (by decide) (by decide +kernel) dX10_holds_321 (fun v_3 r_v_3 m_v_3 o_v_3 => ?_)
    refine lv_bipush (v := 60) hx hb dX10_holds_322 (by decide) ?_
    refine lv_icmp_ne (tgt := 342) hx hb dX10_holds_324 (by decide) (fun c_324 => ?_) (fun c_324 => ?_)
    · refine lv_aload_n hx hb dX10_holds_342 rfl (lv_at hl 1 rfl) ?_
      refine tg_mem (ci := 10) (C := RX10) (T := TX10) (N := 49) hx hb hts inX10 hown hK hw 14 m_u_1 rfl (by decide) (hts _ tw_1151) (fun _ h9 => h9) dX10_holds_343 ?_
      refine lv_iload_n hx hb dX10_holds_346 rfl (lv_at hl 4 rfl) ?_
      refine lv_iconst (v := 3) hx hb dX10_holds_347 (by decide) ?_
      refine lv_iadd hx hb dX10_holds_348 (lv_topi (fun v_4 e_v_4 => ?_))
      obtain ⟨t_v_4, r_v_4⟩ := tq_add (lo := 177) (hi := 377) r_x3 rl_3 (by decide +kernel) e_v_4
      have t_v_4 : v_4.toInt = x3.toInt + 3 := t_v_4
      refine tg_iald (lo := (-2147483648)) (hi := 2147483647) hx hb hK hw h_vu_1 rfl 177 377 r_v_4 (by decide) (by decide +kernel) dX10_holds_349 (fun v_5 r_v_5 m_v_5 o_v_5 => ?_)
      refine lv_bipush (v := 61) hx hb dX10_holds_350 (by decide) ?_
      refine lv_icmp_ne (tgt := 370) hx hb dX10_holds_352 (by decide) (fun c_352 => ?_) (fun c_352 => ?_)
      · refine lv_iload hx hb dX10_holds_370 (lv_at hl 0 rfl) ?_
        refine lv_iload hx hb dX10_holds_372 (lv_at hl 6 rfl) ?_
        refine lv_icmp_le (tgt := 381) hx hb dX10_holds_374 (by decide) (fun c_374 => ?_) (fun c_374 => ?_)
        · refine lv_iconst (v := 0) hx hb dX10_holds_381 (by decide) ?_
          subst hQ
          exact W.zret (v := 0) hx hb hr (rfl) (fun t ht hW => ⟨⟨0, (), rfl, ⟨rl_0.to (by decide), (fun h0 => trivial), (fun _ => trivial)⟩, by rw [ht]; exact hw.2.1, va_K.moved hW.alike hK, hw.2.2.1⟩, hw.2.2.2.1.F ht⟩) hw.2.2.2.1.2.2 dX10_holds_382
        · have r_x5 : RI x5 (-2147483648) 2147483646 := rc_lt1 r_x5 r_y0 (ti_nle c_374) (by decide)
          have r_y0 : RI y0 (-2147483647) 2147483647 := rc_lt2 r_x5 r_y0 (ti_nle c_374) (by decide)
          refine lv_iconst (v := 1) hx hb dX10_holds_377 (by decide) ?_
          refine lv_goto (tgt := 382) hx hb dX10_holds_378 (by decide) ?_
          subst hQ
          exact W.zret (v := 1) hx hb hr (rfl) (fun t ht hW => ⟨⟨1, (), rfl, ⟨rl_1.to (by decide), (fun _ => trivial), (fun h0 => trivial)⟩, by rw [ht]; exact hw.2.1, va_K.moved hW.alike hK, hw.2.2.1⟩, hw.2.2.2.1.F ht⟩) hw.2.2.2.1.2.2 dX10_holds_382
      · have r_v_5 : RI v_5 61 61 := rc_eq1 r_v_5 rl_61 (ti_eq c_352) (by decide)
        refine lv_iload hx hb dX10_holds_355 (lv_at hl 0 rfl) ?_
        refine lv_iload hx hb dX10_holds_357 (lv_at hl 6 rfl) ?_
        refine lv_icmp_ne (tgt := 366) hx hb dX10_holds_359 (by decide) (fun c_359 => ?_) (fun c_359 => ?_)
        · refine lv_iconst (v := 0) hx hb dX10_holds_366 (by decide) ?_
          refine lv_goto (tgt := 382) hx hb dX10_holds_367 (by decide) ?_
          subst hQ
          exact W.zret (v := 0) hx hb hr (rfl) (fun t ht hW => ⟨⟨0, (), rfl, ⟨rl_0.to (by decide), (fun h0 => trivial), (fun _ => trivial)⟩, by rw [ht]; exact hw.2.1, va_K.moved hW.alike hK, hw.2.2.1⟩, hw.2.2.2.1.F ht⟩) hw.2.2.2.1.2.2 dX10_holds_382
        · refine lv_iconst (v := 1) hx hb dX10_holds_362 (by decide) ?_
          refine lv_goto (tgt := 382) hx hb dX10_holds_363 (by decide) ?_
          subst hQ
          exact W.zret (v := 1) hx hb hr (rfl) (fun t ht hW => ⟨⟨1, (), rfl, ⟨rl_1.to (by decide), (fun _ => trivial), (fun h0 => trivial)⟩, by rw [ht]; exact hw.2.1, va_K.moved hW.alike hK, hw.2.2.1⟩, hw.2.2.2.1.F ht⟩) hw.2.2.2.1.2.2 dX10_holds_382
    · have r_v_3 : RI v_3 60 60 := rc_eq1 r_v_3 rl_60 (ti_eq c_324) (by decide)
      refine lv_iload hx hb dX10_holds_327 (lv_at hl 0 rfl) ?_
      refine lv_iload hx hb dX10_holds_329 (lv_at hl 6 rfl) ?_
      refine lv_icmp_ge (tgt := 338) hx hb dX10_holds_331 (by decide) (fun c_331 => ?_) (fun c_331 => ?_)
      · refine lv_iconst (v := 0) hx hb dX10_holds_338 (by decide) ?_
        refine lv_goto (tgt := 382) hx hb dX10_holds_339 (by decide) ?_
        subst hQ
        exact W.zret (v := 0) hx hb hr (rfl) (fun t ht hW => ⟨⟨0, (), rfl, ⟨rl_0.to (by decide), (fun h0 => trivial), (fun _ => trivial)⟩, by rw [ht]; exact hw.2.1, va_K.moved hW.alike hK, hw.2.2.1⟩, hw.2.2.2.1.F ht⟩) hw.2.2.2.1.2.2 dX10_holds_382
      · have r_y0 : RI y0 (-2147483648) 2147483646 := rc_lt1 r_y0 r_x5 (ti_nle c_331) (by decide)
        have r_x5 : RI x5 (-2147483647) 2147483647 := rc_lt2 r_y0 r_x5 (ti_nle c_331) (by decide)
        refine lv_iconst (v := 1) hx hb dX10_holds_334 (by decide) ?_
        refine lv_goto (tgt := 382) hx hb dX10_holds_335 (by decide) ?_
        subst hQ
        exact W.zret (v := 1) hx hb hr (rfl) (fun t ht hW => ⟨⟨1, (), rfl, ⟨rl_1.to (by decide), (fun _ => trivial), (fun h0 => trivial)⟩, by rw [ht]; exact hw.2.1, va_K.moved hW.alike hK, hw.2.2.1⟩, hw.2.2.2.1.F ht⟩) hw.2.2.2.1.2.2 dX10_holds_382
  refine lv_sipush (v := 174) hx hb dX10_holds_0 (by decide) ?_
  refine lv_iconst (v := 4) hx hb dX10_holds_3 (by decide) ?_
  refine lv_iload_n hx hb dX10_holds_4 rfl (lv_at hl 1 rfl) ?_
  refine lv_imul hx hb dX10_holds_5 (lv_topi (fun v_6 e_v_6 => ?_))
  obtain ⟨t_v_6, r_v_6⟩ := tq_mul (lo := 0) (hi := 200) rl_4 r_p1 (by decide +kernel) e_v_6
  have t_v_6 : v_6.toInt = 4 * p1.toInt := t_v_6
  refine lv_iadd hx hb dX10_holds_6 (lv_topi (fun v_7 e_v_7 => ?_))
  obtain ⟨t_v_7, r_v_7⟩ := tq_add (lo := 174) (hi := 374) rl_174 r_v_6 (by decide +kernel) e_v_7
  have t_v_7 : v_7.toInt = 174 + v_6.toInt := t_v_7
  refine lv_istore_n (lv' := [(3, .int v_7), (0, .ref p0), (1, .int p1), (2, .int p2)]) hx hb dX10_holds_7 rfl hl (by decide) rfl (fun ls hl => ?_)
  refine lv_aload_n hx hb dX10_holds_8 rfl (lv_at hl 1 rfl) ?_
  refine tg_get (ci := 10) (ts := ty_MODEL) (C := RX10) (T := TX10) (N := 49) hx hb hts inX10 hown hK hw h_p0 rfl rfl 14 (by decide) (hts _ tw_1151) (fun _ h9 => h9) (ft := vR 34) rfl dX10_holds_9 (fun u_8 hv_u_8 m_u_8 => ?_)
  obtain ⟨vu_8, rfl, h_vu_8⟩ := hv_u_8
  refine lv_iload_n hx hb dX10_holds_12 rfl (lv_at hl 0 rfl) ?_
  refine lv_iconst (v := 1) hx hb dX10_holds_13 (by decide) ?_
  refine lv_iadd hx hb dX10_holds_14 (lv_topi (fun v_9 e_v_9 => ?_))
  obtain ⟨t_v_9, r_v_9⟩ := tq_add (lo := 175) (hi := 375) r_v_7 rl_1 (by decide +kernel) e_v_9
  have t_v_9 : v_9.toInt = v_7.toInt + 1 := t_v_9
  refine tg_iald (lo := (-2147483648)) (hi := 2147483647) hx hb hK hw h_vu_8 rfl 175 375 r_v_9 (by decide) (by decide +kernel) dX10_holds_15 (fun v_10 r_v_10 m_v_10 o_v_10 => ?_)
  refine lv_istore (lv' := [(4, .int v_10), (3, .int v_7), (0, .ref p0), (1, .int p1), (2, .int p2)]) hx hb dX10_holds_16 hl (by decide) rfl (fun ls hl => ?_)
  refine lv_aload_n hx hb dX10_holds_18 rfl (lv_at hl 2 rfl) ?_
  refine tg_mem (ci := 10) (C := RX10) (T := TX10) (N := 49) hx hb hts inX10 hown hK hw 14 m_u_8 rfl (by decide) (hts _ tw_1151) (fun _ h9 => h9) dX10_holds_19 ?_
  refine lv_iload_n hx hb dX10_holds_22 rfl (lv_at hl 1 rfl) ?_
  refine lv_iconst (v := 2) hx hb dX10_holds_23 (by decide) ?_
  refine lv_iadd hx hb dX10_holds_24 (lv_topi (fun v_11 e_v_11 => ?_))
  obtain ⟨t_v_11, r_v_11⟩ := tq_add (lo := 176) (hi := 376) r_v_7 rl_2 (by decide +kernel) e_v_11
  have t_v_11 : v_11.toInt = v_7.toInt + 2 := t_v_11
  refine tg_iald (lo := (-2147483648)) (hi := 2147483647) hx hb hK hw h_vu_8 rfl 176 376 r_v_11 (by decide) (by decide +kernel) dX10_holds_25 (fun v_12 r_v_12 m_v_12 o_v_12 => ?_)
  refine lv_istore (lv' := [(5, .int v_12), (4, .int v_10), (3, .int v_7), (0, .ref p0), (1, .int p1), (2, .int p2)]) hx hb dX10_holds_26 hl (by decide) rfl (fun ls hl => ?_)
  refine lv_aload_n hx hb dX10_holds_28 rfl (lv_at hl 3 rfl) ?_
  refine tg_mem (ci := 10) (C := RX10) (T := TX10) (N := 49) hx hb hts inX10 hown hK hw 14 m_u_8 rfl (by decide) (hts _ tw_1151) (fun _ h9 => h9) dX10_holds_29 ?_
  refine lv_iload_n hx hb dX10_holds_32 rfl (lv_at hl 2 rfl) ?_
  refine tg_iald (lo := (-2147483648)) (hi := 2147483647) hx hb hK hw h_vu_8 rfl 174 374 r_v_7 (by decide) (by decide +kernel) dX10_holds_33 (fun v_13 r_v_13 m_v_13 o_v_13 => ?_)
  by_cases k_34_1 : v_13 = 1
  · refine lv_lookup (tgt := 108) (off := 74) hx hb dX10_holds_34 (by decide) (by rw [k_34_1]; decide) (by decide) ?_
    have r_v_13 : RI v_13 1 1 := by rw [k_34_1]; exact rl_1
    have g_v_10 : 0 ≤ v_10.toInt ∧ v_10.toInt < p1.toInt := by obtain ⟨_, f9, e8, e7, q9, _⟩ := ax_of (k := 14) (t := 34) hw h_p0 rfl (fun _ => rfl); cases FLD.inj hw.2.2.1 e8 m_u_8; have t9 := ARR.ael hw.2.2.1 e7 m_v_13; have x9 := ARR.ael hw.2.2.1 e7 m_v_10; rw [show Int32.toNatClampNeg v_7 = 174 + 4 * Int32.toNatClampNeg p1 from (by have k1 := r_v_7.cl (by decide); have k2 := r_p1.cl (by decide); omega)] at t9; rw [show Int32.toNatClampNeg v_9 = 175 + 4 * Int32.toNatClampNeg p1 from (by have k1 := r_v_9.cl (by decide); have k2 := r_p1.cl (by decide); omega)] at x9; exact RN_child q9 (r_p1.to (by decide)) t9 x9 (r_v_13.to (by decide))
    have r_v_10 : RI v_10 0 49 := ⟨g_v_10.1, by have k1 := r_p1.2; omega⟩
    refine lv_aload_n hx hb dX10_holds_108 rfl (lv_at hl 3 rfl) ?_
    refine lv_iload hx hb dX10_holds_109 (lv_at hl 1 rfl) ?_
    refine lv_iload_n hx hb dX10_holds_111 rfl (lv_at hl 5 rfl) ?_
    refine tk_ir (va_runV (As := [.int v_10, .int p2]) (rest := []) ⟨hx, hb, hml, hown, hts⟩ (c_X10_holds__10 l D cy z s.heap.size Ps w0 hw.1 p0 v_10 p2 h_p0 r_v_10 r_p2) (cwV 2 hts (gV tw_1787 tw_1789 ts_119 tw_15 tw_1790) rfl rfl rfl (by decide +kernel) ⟨Nat.le_of_ble_eq_true rfl, Nat.le_of_ble_eq_true rfl⟩) (tg_preV hw hK hSD hA (ci := 10) (q := (RX10, TX10, 49)) rfl h_p0 rfl) rfl rfl hl.1 rfl (lv_room (Nat.le_of_ble_eq_true rfl)) dX10_holds_112 ⟨Nat.le_of_ble_eq_true rfl, Nat.le_of_ble_eq_true rfl⟩) hw hA (fun v_14  H locs hp_v_14 hw => ?_)
    have r_v_14 : RI v_14 0 1 := hp_v_14.1
    refine lv_if_ne (tgt := 122) hx hb dX10_holds_115 (by decide) (fun c_115 => ?_) (fun c_115 => ?_)
    · have r_v_14 : RI v_14 1 1 := rc_neL r_v_14 rl_0 (ti_ne c_115) (by decide)
      refine lv_iconst (v := 0) hx hb dX10_holds_122 (by decide) ?_
      subst hQ
      exact W.zret (v := 0) hx hb hr (rfl) (fun t ht hW => ⟨⟨0, (), rfl, ⟨rl_0.to (by decide), (fun h0 => trivial), (fun _ => trivial)⟩, by rw [ht]; exact hw.2.1, va_K.moved hW.alike hK, hw.2.2.1⟩, hw.2.2.2.1.F ht⟩) hw.2.2.2.1.2.2 dX10_holds_123
    · have r_v_14 : RI v_14 0 0 := rc_eq1 r_v_14 rl_0 (ti_eq c_115) (by decide)
      refine lv_iconst (v := 1) hx hb dX10_holds_118 (by decide) ?_
      refine lv_goto (tgt := 123) hx hb dX10_holds_119 (by decide) ?_
      subst hQ
      exact W.zret (v := 1) hx hb hr (rfl) (fun t ht hW => ⟨⟨1, (), rfl, ⟨rl_1.to (by decide), (fun _ => trivial), (fun h0 => trivial)⟩, by rw [ht]; exact hw.2.1, va_K.moved hW.alike hK, hw.2.2.1⟩, hw.2.2.2.1.F ht⟩) hw.2.2.2.1.2.2 dX10_holds_123
  · by_cases k_34_2 : v_13 = 2
    · refine lv_lookup (tgt := 124) (off := 90) hx hb dX10_holds_34 (by decide) (by rw [k_34_2]; decide) (by decide) ?_
      have r_v_13 : RI v_13 2 2 := by rw [k_34_2]; exact rl_2
      have g_v_10 : 0 ≤ v_10.toInt ∧ v_10.toInt < p1.toInt := by obtain ⟨_, f9, e8, e7, q9, _⟩ := ax_of (k := 14) (t := 34) hw h_p0 rfl (fun _ => rfl); cases FLD.inj hw.2.2.1 e8 m_u_8; have t9 := ARR.ael hw.2.2.1 e7 m_v_13; have x9 := ARR.ael hw.2.2.1 e7 m_v_10; rw [show Int32.toNatClampNeg v_7 = 174 + 4 * Int32.toNatClampNeg p1 from (by have k1 := r_v_7.cl (by decide); have k2 := r_p1.cl (by decide); omega)] at t9; rw [show Int32.toNatClampNeg v_9 = 175 + 4 * Int32.toNatClampNeg p1 from (by have k1 := r_v_9.cl (by decide); have k2 := r_p1.cl (by decide); omega)] at x9; exact RN_child q9 (r_p1.to (by decide)) t9 x9 (r_v_13.to (by decide))
      have r_v_10 : RI v_10 0 49 := ⟨g_v_10.1, by have k1 := r_p1.2; omega⟩
      have g_v_12 : 0 ≤ v_12.toInt ∧ v_12.toInt < p1.toInt := by obtain ⟨_, f9, e8, e7, q9, _⟩ := ax_of (k := 14) (t := 34) hw h_p0 rfl (fun _ => rfl); cases FLD.inj hw.2.2.1 e8 m_u_8; have t9 := ARR.ael hw.2.2.1 e7 m_v_13; have x9 := ARR.ael hw.2.2.1 e7 m_v_12; rw [show Int32.toNatClampNeg v_7 = 174 + 4 * Int32.toNatClampNeg p1 from (by have k1 := r_v_7.cl (by decide); have k2 := r_p1.cl (by decide); omega)] at t9; rw [show Int32.toNatClampNeg v_11 = 176 + 4 * Int32.toNatClampNeg p1 from (by have k1 := r_v_11.cl (by decide); have k2 := r_p1.cl (by decide); omega)] at x9; exact RN_child2 q9 (r_p1.to (by decide)) t9 x9 (r_v_13.to (by decide))
      have r_v_12 : RI v_12 0 49 := ⟨g_v_12.1, by have k1 := r_p1.2; omega⟩
      refine lv_aload_n hx hb dX10_holds_124 rfl (lv_at hl 3 rfl) ?_
      refine lv_iload hx hb dX10_holds_125 (lv_at hl 1 rfl) ?_
      refine lv_iload_n hx hb dX10_holds_127 rfl (lv_at hl 5 rfl) ?_
      refine tk_ir (va_runV (As := [.int v_10, .int p2]) (rest := []) ⟨hx, hb, hml, hown, hts⟩ (c_X10_holds__10 l D cy z s.heap.size Ps w0 hw.1 p0 v_10 p2 h_p0 r_v_10 r_p2) (cwV 2 hts (gV tw_1787 tw_1789 ts_119 tw_15 tw_1790) rfl rfl rfl (by decide +kernel) ⟨Nat.le_of_ble_eq_true rfl, Nat.le_of_ble_eq_true rfl⟩) (tg_preV hw hK hSD hA (ci := 10) (q := (RX10, TX10, 49)) rfl h_p0 rfl) rfl rfl hl.1 rfl (lv_room (Nat.le_of_ble_eq_true rfl)) dX10_holds_128 ⟨Nat.le_of_ble_eq_true rfl, Nat.le_of_ble_eq_true rfl⟩) hw hA (fun v_15  H locs hp_v_15 hw => ?_)
      have r_v_15 : RI v_15 0 1 := hp_v_15.1
      refine lv_if_eq (tgt := 148) hx hb dX10_holds_131 (by decide) (fun c_131 => ?_) (fun c_131 => ?_)
      · have r_v_15 : RI v_15 0 0 := rc_eq1 r_v_15 rl_0 (ti_eq c_131) (by decide)
        refine lv_iconst (v := 0) hx hb dX10_holds_148 (by decide) ?_
        subst hQ
        exact W.zret (v := 0) hx hb hr (rfl) (fun t ht hW => ⟨⟨0, (), rfl, ⟨rl_0.to (by decide), (fun h0 => trivial), (fun _ => trivial)⟩, by rw [ht]; exact hw.2.1, va_K.moved hW.alike hK, hw.2.2.1⟩, hw.2.2.2.1.F ht⟩) hw.2.2.2.1.2.2 dX10_holds_149
      · have r_v_15 : RI v_15 1 1 := rc_neL r_v_15 rl_0 (ti_ne c_131) (by decide)
        refine lv_aload_n hx hb dX10_holds_134 rfl (lv_at hl 3 rfl) ?_
        refine lv_iload hx hb dX10_holds_135 (lv_at hl 0 rfl) ?_
        refine lv_iload_n hx hb dX10_holds_137 rfl (lv_at hl 5 rfl) ?_
        refine tk_ir (va_runV (As := [.int v_12, .int p2]) (rest := []) ⟨hx, hb, hml, hown, hts⟩ (c_X10_holds__10 l D cy z H.size Ps w0 hw.1 p0 v_12 p2 h_p0 r_v_12 r_p2) (cwV 2 hts (gV tw_1787 tw_1789 ts_119 tw_15 tw_1790) rfl rfl rfl (by decide +kernel) ⟨Nat.le_of_ble_eq_true rfl, Nat.le_of_ble_eq_true rfl⟩) (tg_preV hw hK hSD hA (ci := 10) (q := (RX10, TX10, 49)) rfl h_p0 rfl) rfl rfl hl.1 rfl (lv_room (Nat.le_of_ble_eq_true rfl)) dX10_holds_138 ⟨Nat.le_of_ble_eq_true rfl, Nat.le_of_ble_eq_true rfl⟩) hw hA (fun v_16  H locs hp_v_16 hw => ?_)
        have r_v_16 : RI v_16 0 1 := hp_v_16.1
        refine lv_if_eq (tgt := 148) hx hb dX10_holds_141 (by decide) (fun c_141 => ?_) (fun c_141 => ?_)
        · have r_v_16 : RI v_16 0 0 := rc_eq1 r_v_16 rl_0 (ti_eq c_141) (by decide)
          refine lv_iconst (v := 0) hx hb dX10_holds_148 (by decide) ?_
          subst hQ
          exact W.zret (v := 0) hx hb hr (rfl) (fun t ht hW => ⟨⟨0, (), rfl, ⟨rl_0.to (by decide), (fun h0 => trivial), (fun _ => trivial)⟩, by rw [ht]; exact hw.2.1, va_K.moved hW.alike hK, hw.2.2.1⟩, hw.2.2.2.1.F ht⟩) hw.2.2.2.1.2.2 dX10_holds_149
        · have r_v_16 : RI v_16 1 1 := rc_neL r_v_16 rl_0 (ti_ne c_141) (by decide)
          refine lv_iconst (v := 1) hx hb dX10_holds_144 (by decide) ?_
          refine lv_goto (tgt := 149) hx hb dX10_holds_145 (by decide) ?_
          subst hQ
          exact W.zret (v := 1) hx hb hr (rfl) (fun t ht hW => ⟨⟨1, (), rfl, ⟨rl_1.to (by decide), (fun _ => trivial), (fun h0 => trivial)⟩, by rw [ht]; exact hw.2.1, va_K.moved hW.alike hK, hw.2.2.1⟩, hw.2.2.2.1.F ht⟩) hw.2.2.2.1.2.2 dX10_holds_149
    · by_cases k_34_3 : v_13 = 3
      · refine lv_lookup (tgt := 150) (off := 116) hx hb dX10_holds_34 (by decide) (by rw [k_34_3]; decide) (by decide) ?_
        have r_v_13 : RI v_13 3 3 := by rw [k_34_3]; exact rl_3
        have g_v_10 : 0 ≤ v_10.toInt ∧ v_10.toInt < p1.toInt := by obtain ⟨_, f9, e8, e7, q9, _⟩ := ax_of (k := 14) (t := 34) hw h_p0 rfl (fun _ => rfl); cases FLD.inj hw.2.2.1 e8 m_u_8; have t9 := ARR.ael hw.2.2.1 e7 m_v_13; have x9 := ARR.ael hw.2.2.1 e7 m_v_10; rw [show Int32.toNatClampNeg v_7 = 174 + 4 * Int32.toNatClampNeg p1 from (by have k1 := r_v_7.cl (by decide); have k2 := r_p1.cl (by decide); omega)] at t9; rw [show Int32.toNatClampNeg v_9 = 175 + 4 * Int32.toNatClampNeg p1 from (by have k1 := r_v_9.cl (by decide); have k2 := r_p1.cl (by decide); omega)] at x9; exact RN_child q9 (r_p1.to (by decide)) t9 x9 (r_v_13.to (by decide))
        have r_v_10 : RI v_10 0 49 := ⟨g_v_10.1, by have k1 := r_p1.2; omega⟩
        have g_v_12 : 0 ≤ v_12.toInt ∧ v_12.toInt < p1.toInt := by obtain ⟨_, f9, e8, e7, q9, _⟩ := ax_of (k := 14) (t := 34) hw h_p0 rfl (fun _ => rfl); cases FLD.inj hw.2.2.1 e8 m_u_8; have t9 := ARR.ael hw.2.2.1 e7 m_v_13; have x9 := ARR.ael hw.2.2.1 e7 m_v_12; rw [show Int32.toNatClampNeg v_7 = 174 + 4 * Int32.toNatClampNeg p1 from (by have k1 := r_v_7.cl (by decide); have k2 := r_p1.cl (by decide); omega)] at t9; rw [show Int32.toNatClampNeg v_11 = 176 + 4 * Int32.toNatClampNeg p1 from (by have k1 := r_v_11.cl (by decide); have k2 := r_p1.cl (by decide); omega)] at x9; exact RN_child2 q9 (r_p1.to (by decide)) t9 x9 (r_v_13.to (by decide))
        have r_v_12 : RI v_12 0 49 := ⟨g_v_12.1, by have k1 := r_p1.2; omega⟩
        refine lv_aload_n hx hb dX10_holds_150 rfl (lv_at hl 3 rfl) ?_
        refine lv_iload hx hb dX10_holds_151 (lv_at hl 1 rfl) ?_
        refine lv_iload_n hx hb dX10_holds_153 rfl (lv_at hl 5 rfl) ?_
        refine tk_ir (va_runV (As := [.int v_10, .int p2]) (rest := []) ⟨hx, hb, hml, hown, hts⟩ (c_X10_holds__10 l D cy z s.heap.size Ps w0 hw.1 p0 v_10 p2 h_p0 r_v_10 r_p2) (cwV 2 hts (gV tw_1787 tw_1789 ts_119 tw_15 tw_1790) rfl rfl rfl (by decide +kernel) ⟨Nat.le_of_ble_eq_true rfl, Nat.le_of_ble_eq_true rfl⟩) (tg_preV hw hK hSD hA (ci := 10) (q := (RX10, TX10, 49)) rfl h_p0 rfl) rfl rfl hl.1 rfl (lv_room (Nat.le_of_ble_eq_true rfl)) dX10_holds_154 ⟨Nat.le_of_ble_eq_true rfl, Nat.le_of_ble_eq_true rfl⟩) hw hA (fun v_17  H locs hp_v_17 hw => ?_)
        have r_v_17 : RI v_17 0 1 := hp_v_17.1
        refine lv_if_ne (tgt := 170) hx hb dX10_holds_157 (by decide) (fun c_157 => ?_) (fun c_157 => ?_)
        · have r_v_17 : RI v_17 1 1 := rc_neL r_v_17 rl_0 (ti_ne c_157) (by decide)
          refine lv_iconst (v := 1) hx hb dX10_holds_170 (by decide) ?_
          refine lv_goto (tgt := 175) hx hb dX10_holds_171 (by decide) ?_
          subst hQ
          exact W.zret (v := 1) hx hb hr (rfl) (fun t ht hW => ⟨⟨1, (), rfl, ⟨rl_1.to (by decide), (fun _ => trivial), (fun h0 => trivial)⟩, by rw [ht]; exact hw.2.1, va_K.moved hW.alike hK, hw.2.2.1⟩, hw.2.2.2.1.F ht⟩) hw.2.2.2.1.2.2 dX10_holds_175
        · have r_v_17 : RI v_17 0 0 := rc_eq1 r_v_17 rl_0 (ti_eq c_157) (by decide)
          refine lv_aload_n hx hb dX10_holds_160 rfl (lv_at hl 3 rfl) ?_
          refine lv_iload hx hb dX10_holds_161 (lv_at hl 0 rfl) ?_
          refine lv_iload_n hx hb dX10_holds_163 rfl (lv_at hl 5 rfl) ?_
          refine tk_ir (va_runV (As := [.int v_12, .int p2]) (rest := []) ⟨hx, hb, hml, hown, hts⟩ (c_X10_holds__10 l D cy z H.size Ps w0 hw.1 p0 v_12 p2 h_p0 r_v_12 r_p2) (cwV 2 hts (gV tw_1787 tw_1789 ts_119 tw_15 tw_1790) rfl rfl rfl (by decide +kernel) ⟨Nat.le_of_ble_eq_true rfl, Nat.le_of_ble_eq_true rfl⟩) (tg_preV hw hK hSD hA (ci := 10) (q := (RX10, TX10, 49)) rfl h_p0 rfl) rfl rfl hl.1 rfl (lv_room (Nat.le_of_ble_eq_true rfl)) dX10_holds_164 ⟨Nat.le_of_ble_eq_true rfl, Nat.le_of_ble_eq_true rfl⟩) hw hA (fun v_18  H locs hp_v_18 hw => ?_)
          have r_v_18 : RI v_18 0 1 := hp_v_18.1
          refine lv_if_eq (tgt := 174) hx hb dX10_holds_167 (by decide) (fun c_167 => ?_) (fun c_167 => ?_)
          · have r_v_18 : RI v_18 0 0 := rc_eq1 r_v_18 rl_0 (ti_eq c_167) (by decide)
            refine lv_iconst (v := 0) hx hb dX10_holds_174 (by decide) ?_
            subst hQ
            exact W.zret (v := 0) hx hb hr (rfl) (fun t ht hW => ⟨⟨0, (), rfl, ⟨rl_0.to (by decide), (fun h0 => trivial), (fun _ => trivial)⟩, by rw [ht]; exact hw.2.1, va_K.moved hW.alike hK, hw.2.2.1⟩, hw.2.2.2.1.F ht⟩) hw.2.2.2.1.2.2 dX10_holds_175
          · have r_v_18 : RI v_18 1 1 := rc_neL r_v_18 rl_0 (ti_ne c_167) (by decide)
            refine lv_iconst (v := 1) hx hb dX10_holds_170 (by decide) ?_
            refine lv_goto (tgt := 175) hx hb dX10_holds_171 (by decide) ?_
            subst hQ
            exact W.zret (v := 1) hx hb hr (rfl) (fun t ht hW => ⟨⟨1, (), rfl, ⟨rl_1.to (by decide), (fun _ => trivial), (fun h0 => trivial)⟩, by rw [ht]; exact hw.2.1, va_K.moved hW.alike hK, hw.2.2.1⟩, hw.2.2.2.1.F ht⟩) hw.2.2.2.1.2.2 dX10_holds_175
      · by_cases k_34_69 : v_13 = 69
        · refine lv_lookup (tgt := 176) (off := 142) hx hb dX10_holds_34 (by decide) (by rw [k_34_69]; decide) (by decide) ?_
          have r_v_13 : RI v_13 69 69 := by rw [k_34_69]; exact rl_69
          refine lv_aload_n hx hb dX10_holds_176 rfl (lv_at hl 3 rfl) ?_
          refine lv_iload_n hx hb dX10_holds_177 rfl (lv_at hl 5 rfl) ?_
          refine tk_ir (va_runV (As := [.int p2]) (rest := []) ⟨hx, hb, hml, hown, hts⟩ (c_X10_isOpen l D cy z s.heap.size Ps w0 hw.1 p0 p2 h_p0 (r_p2.to (by decide))) (cwV 1 hts (gV tw_1457 tw_1459 ts_71 tw_15 tw_1460) rfl rfl rfl (by decide +kernel) ⟨Nat.le_of_ble_eq_true rfl, Nat.le_of_ble_eq_true rfl⟩) (tg_preV hw hK hSD hA (ci := 10) (q := (RX10, TX10, 49)) rfl h_p0 rfl) rfl rfl hl.1 rfl (lv_room (Nat.le_of_ble_eq_true rfl)) dX10_holds_178 ⟨Nat.le_of_ble_eq_true rfl, Nat.le_of_ble_eq_true rfl⟩) hw hA (fun v_19  H locs hp_v_19 hw => ?_)
          have r_v_19 : RI v_19 0 1 := hp_v_19.1
          subst hQ
          exact W.zret (v := v_19) hx hb hr (tq_nz (r_v_19.to (by decide))) (fun t ht hW => ⟨⟨v_19, (), rfl, ⟨r_v_19.to (by decide), (fun h0 => trivial), (fun h0 => trivial)⟩, by rw [ht]; exact hw.2.1, va_K.moved hW.alike hK, hw.2.2.1⟩, hw.2.2.2.1.F ht⟩) hw.2.2.2.1.2.2 dX10_holds_181
        · by_cases k_34_70 : v_13 = 70
          · refine lv_lookup (tgt := 182) (off := 148) hx hb dX10_holds_34 (by decide) (by rw [k_34_70]; decide) (by decide) ?_
            have r_v_13 : RI v_13 70 70 := by rw [k_34_70]; exact rl_70
            refine lv_aload_n hx hb dX10_holds_182 rfl (lv_at hl 3 rfl) ?_
            refine lv_iload_n hx hb dX10_holds_183 rfl (lv_at hl 5 rfl) ?_
            refine tk_ir (va_runV (As := [.int p2]) (rest := []) ⟨hx, hb, hml, hown, hts⟩ (c_X10_whatIs l D cy z s.heap.size Ps w0 hw.1 p0 p2 h_p0 r_p2) (cwV 1 hts (gV tw_1449 tw_1451 ts_69 tw_15 tw_1452) rfl rfl rfl (by decide +kernel) ⟨Nat.le_of_ble_eq_true rfl, Nat.le_of_ble_eq_true rfl⟩) (tg_preV hw hK hSD hA (ci := 10) (q := (RX10, TX10, 49)) rfl h_p0 rfl) rfl rfl hl.1 rfl (lv_room (Nat.le_of_ble_eq_true rfl)) dX10_holds_184 ⟨Nat.le_of_ble_eq_true rfl, Nat.le_of_ble_eq_true rfl⟩) hw hA (fun v_20  H locs hp_v_20 hw => ?_)
            have r_v_20 : RI v_20 (-1) 5 := hp_v_20.1
            by_cases c9_v_20 : v_20.toInt < 0
            · have r_v_20 : RI v_20 (-1) (-1) := by unfold RI at r_v_20 ⊢; omega
              have x_NB_p0_p2 := (hp_v_20.2.2.2.2.1 (by omega)).1
              refine lv_iconst (v := (-1)) hx hb dX10_holds_187 (by decide) ?_
              refine lv_icmp_ne (tgt := 195) hx hb dX10_holds_188 (by decide) (fun c_188 => ?_) (fun c_188 => ?_)
              · exact absurd (r_v_20.eq.trans rl_m1.eq.symm) ((ti_ne c_188))
              · refine lv_iconst (v := 1) hx hb dX10_holds_191 (by decide) ?_
                refine lv_goto (tgt := 196) hx hb dX10_holds_192 (by decide) ?_
                subst hQ
                exact W.zret (v := 1) hx hb hr (rfl) (fun t ht hW => ⟨⟨1, (), rfl, ⟨rl_1.to (by decide), (fun _ => trivial), (fun h0 => trivial)⟩, by rw [ht]; exact hw.2.1, va_K.moved hW.alike hK, hw.2.2.1⟩, hw.2.2.2.1.F ht⟩) hw.2.2.2.1.2.2 dX10_holds_196
            · have r_v_20 : RI v_20 0 5 := by unfold RI at r_v_20 ⊢; omega
              have x_WB_p0_p2_v_20 := (hp_v_20.2.2.2.2.2 (by omega)).1
              refine lv_iconst (v := (-1)) hx hb dX10_holds_187 (by decide) ?_
              refine lv_icmp_ne (tgt := 195) hx hb dX10_holds_188 (by decide) (fun c_188 => ?_) (fun c_188 => ?_)
              · refine lv_iconst (v := 0) hx hb dX10_holds_195 (by decide) ?_
                subst hQ
                exact W.zret (v := 0) hx hb hr (rfl) (fun t ht hW => ⟨⟨0, (), rfl, ⟨rl_0.to (by decide), (fun h0 => trivial), (fun _ => trivial)⟩, by rw [ht]; exact hw.2.1, va_K.moved hW.alike hK, hw.2.2.1⟩, hw.2.2.2.1.F ht⟩) hw.2.2.2.1.2.2 dX10_holds_196
              · have r_v_20 : RI v_20 0 (-1) := rc_eq1 r_v_20 rl_m1 (ti_eq c_188) (by decide)
                exact (r_v_20.no (by decide)).elim
          · by_cases k_34_71 : v_13 = 71
            · refine lv_lookup (tgt := 197) (off := 163) hx hb dX10_holds_34 (by decide) (by rw [k_34_71]; decide) (by decide) ?_
              have r_v_13 : RI v_13 71 71 := by rw [k_34_71]; exact rl_71
              refine lv_aload_n hx hb dX10_holds_197 rfl (lv_at hl 3 rfl) ?_
              refine lv_iload_n hx hb dX10_holds_198 rfl (lv_at hl 5 rfl) ?_
              refine tk_ir (va_runV (As := [.int p2]) (rest := []) ⟨hx, hb, hml, hown, hts⟩ (c_X10_sittersOf l D cy z s.heap.size Ps w0 hw.1 p0 p2 h_p0 (r_p2.to (by decide))) (cwV 1 hts (gV tw_1461 tw_1463 ts_72 tw_15 tw_1464) rfl rfl rfl (by decide +kernel) ⟨Nat.le_of_ble_eq_true rfl, Nat.le_of_ble_eq_true rfl⟩) (tg_preV hw hK hSD hA (ci := 10) (q := (RX10, TX10, 49)) rfl h_p0 rfl) rfl rfl hl.1 rfl (lv_room (Nat.le_of_ble_eq_true rfl)) dX10_holds_199 ⟨Nat.le_of_ble_eq_true rfl, Nat.le_of_ble_eq_true rfl⟩) hw hA (fun v_21  H locs hp_v_21 hw => ?_)
              have r_v_21 : RI v_21 (-2147483648) 2147483647 := hp_v_21.1
              refine lv_if_eq (tgt := 209) hx hb dX10_holds_202 (by decide) (fun c_202 => ?_) (fun c_202 => ?_)
              · have r_v_21 : RI v_21 0 0 := rc_eq1 r_v_21 rl_0 (ti_eq c_202) (by decide)
                refine lv_iconst (v := 0) hx hb dX10_holds_209 (by decide) ?_
                subst hQ
                exact W.zret (v := 0) hx hb hr (rfl) (fun t ht hW => ⟨⟨0, (), rfl, ⟨rl_0.to (by decide), (fun h0 => trivial), (fun _ => trivial)⟩, by rw [ht]; exact hw.2.1, va_K.moved hW.alike hK, hw.2.2.1⟩, hw.2.2.2.1.F ht⟩) hw.2.2.2.1.2.2 dX10_holds_210
              · refine lv_iconst (v := 1) hx hb dX10_holds_205 (by decide) ?_
                refine lv_goto (tgt := 210) hx hb dX10_holds_206 (by decide) ?_
                subst hQ
                exact W.zret (v := 1) hx hb hr (rfl) (fun t ht hW => ⟨⟨1, (), rfl, ⟨rl_1.to (by decide), (fun _ => trivial), (fun h0 => trivial)⟩, by rw [ht]; exact hw.2.1, va_K.moved hW.alike hK, hw.2.2.1⟩, hw.2.2.2.1.F ht⟩) hw.2.2.2.1.2.2 dX10_holds_210
            · by_cases k_34_72 : v_13 = 72
              · refine lv_lookup (tgt := 211) (off := 177) hx hb dX10_holds_34 (by decide) (by rw [k_34_72]; decide) (by decide) ?_
                have r_v_13 : RI v_13 72 72 := by rw [k_34_72]; exact rl_72
                refine lv_aload_n hx hb dX10_holds_211 rfl (lv_at hl 3 rfl) ?_
                refine lv_iload_n hx hb dX10_holds_212 rfl (lv_at hl 5 rfl) ?_
                refine tk_ir (va_runV (As := [.int p2]) (rest := []) ⟨hx, hb, hml, hown, hts⟩ (c_X10_whatIs l D cy z s.heap.size Ps w0 hw.1 p0 p2 h_p0 r_p2) (cwV 1 hts (gV tw_1449 tw_1451 ts_69 tw_15 tw_1452) rfl rfl rfl (by decide +kernel) ⟨Nat.le_of_ble_eq_true rfl, Nat.le_of_ble_eq_true rfl⟩) (tg_preV hw hK hSD hA (ci := 10) (q := (RX10, TX10, 49)) rfl h_p0 rfl) rfl rfl hl.1 rfl (lv_room (Nat.le_of_ble_eq_true rfl)) dX10_holds_213 ⟨Nat.le_of_ble_eq_true rfl, Nat.le_of_ble_eq_true rfl⟩) hw hA (fun v_22  H locs hp_v_22 hw => ?_)
                have r_v_22 : RI v_22 (-1) 5 := hp_v_22.1
                by_cases c9_v_22 : v_22.toInt < 0
                · have r_v_22 : RI v_22 (-1) (-1) := by unfold RI at r_v_22 ⊢; omega
                  have x_NB_p0_p2 := (hp_v_22.2.2.2.2.1 (by omega)).1
                  refine lv_iload hx hb dX10_holds_216 (lv_at hl 1 rfl) ?_
                  refine lv_icmp_ne (tgt := 225) hx hb dX10_holds_218 (by decide) (fun c_218 => ?_) (fun c_218 => ?_)
                  · refine lv_iconst (v := 0) hx hb dX10_holds_225 (by decide) ?_
                    subst hQ
                    exact W.zret (v := 0) hx hb hr (rfl) (fun t ht hW => ⟨⟨0, (), rfl, ⟨rl_0.to (by decide), (fun h0 => trivial), (fun _ => trivial)⟩, by rw [ht]; exact hw.2.1, va_K.moved hW.alike hK, hw.2.2.1⟩, hw.2.2.2.1.F ht⟩) hw.2.2.2.1.2.2 dX10_holds_226
                  · have r_v_10 : RI v_10 (-1) (-1) := rc_eq2 r_v_22 r_v_10 (ti_eq c_218) (by decide)
                    refine lv_iconst (v := 1) hx hb dX10_holds_221 (by decide) ?_
                    refine lv_goto (tgt := 226) hx hb dX10_holds_222 (by decide) ?_
                    subst hQ
                    exact W.zret (v := 1) hx hb hr (rfl) (fun t ht hW => ⟨⟨1, (), rfl, ⟨rl_1.to (by decide), (fun _ => trivial), (fun h0 => trivial)⟩, by rw [ht]; exact hw.2.1, va_K.moved hW.alike hK, hw.2.2.1⟩, hw.2.2.2.1.F ht⟩) hw.2.2.2.1.2.2 dX10_holds_226
                · have r_v_22 : RI v_22 0 5 := by unfold RI at r_v_22 ⊢; omega
                  have x_WB_p0_p2_v_22 := (hp_v_22.2.2.2.2.2 (by omega)).1
                  refine lv_iload hx hb dX10_holds_216 (lv_at hl 1 rfl) ?_
                  refine lv_icmp_ne (tgt := 225) hx hb dX10_holds_218 (by decide) (fun c_218 => ?_) (fun c_218 => ?_)
                  · refine lv_iconst (v := 0) hx hb dX10_holds_225 (by decide) ?_
                    subst hQ
                    exact W.zret (v := 0) hx hb hr (rfl) (fun t ht hW => ⟨⟨0, (), rfl, ⟨rl_0.to (by decide), (fun h0 => trivial), (fun _ => trivial)⟩, by rw [ht]; exact hw.2.1, va_K.moved hW.alike hK, hw.2.2.1⟩, hw.2.2.2.1.F ht⟩) hw.2.2.2.1.2.2 dX10_holds_226
                  · have r_v_10 : RI v_10 0 5 := rc_eq2 r_v_22 r_v_10 (ti_eq c_218) (by decide)
                    refine lv_iconst (v := 1) hx hb dX10_holds_221 (by decide) ?_
                    refine lv_goto (tgt := 226) hx hb dX10_holds_222 (by decide) ?_
                    subst hQ
                    exact W.zret (v := 1) hx hb hr (rfl) (fun t ht hW => ⟨⟨1, (), rfl, ⟨rl_1.to (by decide), (fun _ => trivial), (fun h0 => trivial)⟩, by rw [ht]; exact hw.2.1, va_K.moved hW.alike hK, hw.2.2.1⟩, hw.2.2.2.1.F ht⟩) hw.2.2.2.1.2.2 dX10_holds_226
              · by_cases k_34_73 : v_13 = 73
                · refine lv_lookup (tgt := 227) (off := 193) hx hb dX10_holds_34 (by decide) (by rw [k_34_73]; decide) (by decide) ?_
                  have r_v_13 : RI v_13 73 73 := by rw [k_34_73]; exact rl_73
                  refine lv_aload_n hx hb dX10_holds_227 rfl (lv_at hl 3 rfl) ?_
                  refine tg_mem (ci := 10) (C := RX10) (T := TX10) (N := 49) hx hb hts inX10 hown hK hw 14 m_u_8 rfl (by decide) (hts _ tw_1151) (fun _ h9 => h9) dX10_holds_228 ?_
                  refine lv_bipush (v := 86) hx hb dX10_holds_231 (by decide) ?_
                  refine lv_iload_n hx hb dX10_holds_233 rfl (lv_at hl 5 rfl) ?_
                  refine lv_iadd hx hb dX10_holds_234 (lv_topi (fun v_23 e_v_23 => ?_))
                  obtain ⟨t_v_23, r_v_23⟩ := tq_add (lo := 86) (hi := 91) rl_86 r_p2 (by decide +kernel) e_v_23
                  have t_v_23 : v_23.toInt = 86 + p2.toInt := t_v_23
                  refine tg_iald (lo := (-2147483648)) (hi := 2147483647) hx hb hK hw h_vu_8 rfl 86 91 r_v_23 (by decide) (by decide +kernel) dX10_holds_235 (fun v_24 r_v_24 m_v_24 o_v_24 => ?_)
                  refine lv_iload hx hb dX10_holds_236 (lv_at hl 1 rfl) ?_
                  refine lv_icmp_ne (tgt := 245) hx hb dX10_holds_238 (by decide) (fun c_238 => ?_) (fun c_238 => ?_)
                  · refine lv_iconst (v := 0) hx hb dX10_holds_245 (by decide) ?_
                    subst hQ
                    exact W.zret (v := 0) hx hb hr (rfl) (fun t ht hW => ⟨⟨0, (), rfl, ⟨rl_0.to (by decide), (fun h0 => trivial), (fun _ => trivial)⟩, by rw [ht]; exact hw.2.1, va_K.moved hW.alike hK, hw.2.2.1⟩, hw.2.2.2.1.F ht⟩) hw.2.2.2.1.2.2 dX10_holds_246
                  · refine lv_iconst (v := 1) hx hb dX10_holds_241 (by decide) ?_
                    refine lv_goto (tgt := 246) hx hb dX10_holds_242 (by decide) ?_
                    subst hQ
                    exact W.zret (v := 1) hx hb hr (rfl) (fun t ht hW => ⟨⟨1, (), rfl, ⟨rl_1.to (by decide), (fun _ => trivial), (fun h0 => trivial)⟩, by rw [ht]; exact hw.2.1, va_K.moved hW.alike hK, hw.2.2.1⟩, hw.2.2.2.1.F ht⟩) hw.2.2.2.1.2.2 dX10_holds_246
                · refine lv_lookup (tgt := 247) (off := 213) hx hb dX10_holds_34 (by decide) ((lv_osw k_34_1 (by decide)).trans ((lv_osw k_34_2 (by decide)).trans ((lv_osw k_34_3 (by decide)).trans ((lv_osw k_34_69 (by decide)).trans ((lv_osw k_34_70 (by decide)).trans ((lv_osw k_34_71 (by decide)).trans ((lv_osw k_34_72 (by decide)).trans ((lv_osw k_34_73 (by decide)).trans (rfl))))))))) (by decide) ?_
                  refine lv_aload_n hx hb dX10_holds_247 rfl (lv_at hl 3 rfl) ?_
                  refine tg_mem (ci := 10) (C := RX10) (T := TX10) (N := 49) hx hb hts inX10 hown hK hw 14 m_u_8 rfl (by decide) (hts _ tw_1151) (fun _ h9 => h9) dX10_holds_248 ?_
                  refine lv_iload_n hx hb dX10_holds_251 rfl (lv_at hl 2 rfl) ?_
                  refine tg_imem hx hb hK hw h_vu_8 rfl r_v_7 (by decide) m_v_13 dX10_holds_252 ?_
                  refine lv_bipush (v := 50) hx hb dX10_holds_253 (by decide) ?_
                  refine lv_isub hx hb dX10_holds_255 (lv_topi (fun v_26 e_v_26 => ?_))
                  have r_v_26 := ri_any v_26
                  refine lv_istore (lv' := [(6, .int v_26), (5, .int v_12), (4, .int v_10), (3, .int v_7), (0, .ref p0), (1, .int p1), (2, .int p2)]) hx hb dX10_holds_256 hl (by decide) rfl (fun ls hl => ?_)
                  refine lv_iload hx hb dX10_holds_258 (lv_at hl 0 rfl) ?_
                  refine lv_bipush (v := 24) hx hb dX10_holds_260 (by decide) ?_
                  refine lv_icmp_ne (tgt := 273) hx hb dX10_holds_262 (by decide) (fun c_262 => ?_) (fun c_262 => ?_)
                  · refine lv_iload hx hb dX10_holds_273 (lv_at hl 0 rfl) ?_
                    refine lv_bipush (v := 25) hx hb dX10_holds_275 (by decide) ?_
                    refine lv_icmp_ne (tgt := 292) hx hb dX10_holds_277 (by decide) (fun c_277 => ?_) (fun c_277 => ?_)
                    · refine lv_iload hx hb dX10_holds_292 (lv_at hl 0 rfl) ?_
                      refine lv_bipush (v := 26) hx hb dX10_holds_294 (by decide) ?_
                      refine lv_icmp_ne (tgt := 311) hx hb dX10_holds_296 (by decide) (fun c_296 => ?_) (fun c_296 => ?_)
                      · refine lv_iload_n hx hb dX10_holds_311 rfl (lv_at hl 6 rfl) ?_
                        exact B312 v_7 v_10 v_12 v_26 p2 _ _ ls r_p1 r_p2 r_v_7 r_v_10 r_v_12 r_v_26 (r_p2.to (by decide)) hw (lv_sub hl [4, 5, 6, 3, 2, 1, 0] rfl)
                      · have r_v_26 : RI v_26 26 26 := rc_eq1 r_v_26 rl_26 (ti_eq c_296) (by decide)
                        refine lv_aload_n hx hb dX10_holds_299 rfl (lv_at hl 4 rfl) ?_
                        refine tg_mem (ci := 10) (C := RX10) (T := TX10) (N := 49) hx hb hts inX10 hown hK hw 14 m_u_8 rfl (by decide) (hts _ tw_1151) (fun _ h9 => h9) dX10_holds_300 ?_
                        refine lv_bipush (v := 98) hx hb dX10_holds_303 (by decide) ?_
                        refine lv_iload_n hx hb dX10_holds_305 rfl (lv_at hl 6 rfl) ?_
                        refine lv_iadd hx hb dX10_holds_306 (lv_topi (fun v_27 e_v_27 => ?_))
                        obtain ⟨t_v_27, r_v_27⟩ := tq_add (lo := 98) (hi := 103) rl_98 r_p2 (by decide +kernel) e_v_27
                        have t_v_27 : v_27.toInt = 98 + p2.toInt := t_v_27
                        refine tg_iald (lo := (-2147483648)) (hi := 2147483647) hx hb hK hw h_vu_8 rfl 98 103 r_v_27 (by decide) (by decide +kernel) dX10_holds_307 (fun v_28 r_v_28 m_v_28 o_v_28 => ?_)
                        refine lv_goto (tgt := 312) hx hb dX10_holds_308 (by decide) ?_
                        exact B312 v_7 v_10 v_12 v_26 v_28 _ _ ls r_p1 r_p2 r_v_7 r_v_10 r_v_12 (r_v_26.to (by decide)) r_v_28 hw (lv_sub hl [4, 5, 6, 3, 2, 1, 0] rfl)
                    · have r_v_26 : RI v_26 25 25 := rc_eq1 r_v_26 rl_25 (ti_eq c_277) (by decide)
                      refine lv_aload_n hx hb dX10_holds_280 rfl (lv_at hl 4 rfl) ?_
                      refine tg_mem (ci := 10) (C := RX10) (T := TX10) (N := 49) hx hb hts inX10 hown hK hw 14 m_u_8 rfl (by decide) (hts _ tw_1151) (fun _ h9 => h9) dX10_holds_281 ?_
                      refine lv_bipush (v := 92) hx hb dX10_holds_284 (by decide) ?_
                      refine lv_iload_n hx hb dX10_holds_286 rfl (lv_at hl 6 rfl) ?_
                      refine lv_iadd hx hb dX10_holds_287 (lv_topi (fun v_29 e_v_29 => ?_))
                      obtain ⟨t_v_29, r_v_29⟩ := tq_add (lo := 92) (hi := 97) rl_92 r_p2 (by decide +kernel) e_v_29
                      have t_v_29 : v_29.toInt = 92 + p2.toInt := t_v_29
                      refine tg_iald (lo := (-2147483648)) (hi := 2147483647) hx hb hK hw h_vu_8 rfl 92 97 r_v_29 (by decide) (by decide +kernel) dX10_holds_288 (fun v_30 r_v_30 m_v_30 o_v_30 => ?_)
                      refine lv_goto (tgt := 312) hx hb dX10_holds_289 (by decide) ?_
                      exact B312 v_7 v_10 v_12 v_26 v_30 _ _ ls r_p1 r_p2 r_v_7 r_v_10 r_v_12 (r_v_26.to (by decide)) r_v_30 hw (lv_sub hl [4, 5, 6, 3, 2, 1, 0] rfl)
                  · have r_v_26 : RI v_26 24 24 := rc_eq1 r_v_26 rl_24 (ti_eq c_262) (by decide)
                    refine lv_aload_n hx hb dX10_holds_265 rfl (lv_at hl 4 rfl) ?_
                    refine lv_iload_n hx hb dX10_holds_266 rfl (lv_at hl 6 rfl) ?_
                    refine tk_ir (va_runV (As := [.int p2]) (rest := []) ⟨hx, hb, hml, hown, hts⟩ (c_X10_sizeOf l D cy z s.heap.size Ps w0 hw.1 p0 p2 h_p0 r_p2) (cwV 1 hts (gV tw_1453 tw_1455 ts_70 tw_15 tw_1456) rfl rfl rfl (by decide +kernel) ⟨Nat.le_of_ble_eq_true rfl, Nat.le_of_ble_eq_true rfl⟩) (tg_preV hw hK hSD hA (ci := 10) (q := (RX10, TX10, 49)) rfl h_p0 rfl) rfl rfl hl.1 rfl (lv_room (Nat.le_of_ble_eq_true rfl)) dX10_holds_267 ⟨Nat.le_of_ble_eq_true rfl, Nat.le_of_ble_eq_true rfl⟩) hw hA (fun v_31  H locs hp_v_31 hw => ?_)
                    have r_v_31 : RI v_31 (-2147483648) 2147483647 := hp_v_31.1
                    refine lv_goto (tgt := 312) hx hb dX10_holds_270 (by decide) ?_
                    exact B312 v_7 v_10 v_12 v_26 v_31 _ _ ls r_p1 r_p2 r_v_7 r_v_10 r_v_12 (r_v_26.to (by decide)) r_v_31 hw (lv_sub hl [4, 5, 6, 3, 2, 1, 0] rfl)
abbrev wr_X10_holds__8 : List (Nat × Nat) := []
abbrev wa_X10_holds__8 : List Nat := []
set_option maxHeartbeats 4000000 in
set_option maxRecDepth 100000 in
theorem c_X10_holds__8 (l : Launch) (D : va_G) (cy : Nat → ClassId) (z : Nat → Nat) (sz : Nat) (Ps : PSI) (w0 : va_W) (hT : HT cy GG Ps w0) (p0 : Nat) (p1 : Int32) (p2 : Int32) (h_p0 : (p0, 55) ∈ Ps) (r_p1 : RI p1 0 51) (r_p2 : RI p2 0 5) : Met l yX10_holds (Cond.code yX10_holds cX10_holds 8 (some .boolean) :: gT) ({ frames := 54, cells := 0, slots := 0, locals := 10800 } : Room) (va_Pc [.ref p0, .int p1, .int p2] (PRE D cy z w0 sz)) (va_Qi (fun (r : Int32) (u : Unit) => RI r 0 1 ∧ (r = 0 → True) ∧ (¬ r = 0 → True)) (BB D cy (va_A w0 sz) (fun (u : Unit) => w0)) (va_A w0 sz)) 0 0 (va_A w0 sz) := by
  refine Met.ofW (cc := cX10_holds) (maxL := 8) (ret := (some .boolean)) (by decide) rfl ?_
  intro p e s m args below meth c s₁ B hml hv
  obtain ⟨rfl, hsz, hP, hK, hD0, hSD⟩ := hv
  have hx := B.exec
  have hb := B.bytes
  have hr := B.returns
  have hlocks := B.notSynchronized
  have hts : ∀ w ∈ gT, w.before _ s = true := fun w h => atoms_spec (ws := Cond.code yX10_holds cX10_holds 8 (some .boolean) :: gT) B.pre w (List.mem_cons_of_mem _ h)
  have hown : s.vm.findClass RX10 = some m.cls := findClass_of_methodNamed B.named
  subst hsz
  have hD := hD0.self (sz := s.heap.size)
  generalize hAe : va_A w0 s.heap.size = A at hD hSD ⊢
  have hA : ∀ q : Nat, s.heap.size ≤ q → A q := fun q h => by rw [← hAe]; exact Or.inr h
  have hl := lv_entry ([.ref p0, .int p1, .int p2]) (n := 8) (Nat.le_of_ble_eq_true rfl)
  rw [lg_entry_eq]
  generalize (lg_sl ([.ref p0, .int p1, .int p2]) ++ List.replicate (8 - (lg_sl ([.ref p0, .int p1, .int p2])).length) Slot.unset).toArray = ls at hl ⊢
  have hl : lv_has ls 8 [(0, .ref p0), (1, .int p1), (2, .int p2)] := hl
  refine nameQ (fun Q hQ => ?_)
  have hw : WD D cy GG A s wr_X10_holds__8 wa_X10_holds__8 Ps w0 Ps w0 s.heap [] := ⟨hT, hP, hD, va_S.rf, FR.rf, hT.1, [], (List.append_nil _).symm⟩
  have B312 : ∀ (x3 : Int32) (x4 : Int32) (x5 : Int32) (x6 : Int32) (y0 : Int32) (H : Heap) (locs : List Loc) (ls : Array Slot), RI p1 0 51 → RI p2 0 5 → RI x3 174 378 → RI x4 (-2147483648) 2147483647 → RI x5 (-2147483648) 2147483647 → RI x6 (-2147483648) 2147483647 → RI y0 (-2147483648) 2147483647 → WD D cy GG A s wr_X10_holds__8 wa_X10_holds__8 Ps w0 Ps w0 H locs → lv_has ls 8 [(0, .ref p0), (1, .int p1), (2, .int p2), (3, .int x3), (4, .int x4), (5, .int x5), (6, .int x6)] → W p l e (headSpec (Cond.code yX10_holds cX10_holds 8 (some .boolean) :: gT) ({ frames := 54, cells := 0, slots := 0, locals := 10800 } : Room)).room s m ([.ref p0, .int p1, .int p2] : List Value).toArray below meth c H locs 0 0 Q (F0 m 312 ls [.int y0]) := by
    intro x3 x4 x5 x6 y0 H locs ls r_p1 r_p2 r_x3 r_x4 r_x5 r_x6 r_y0 hw hl
    refine lv_istore (lv' := [(7, .int y0), (0, .ref p0), (1, .int p1), (2, .int p2), (3, .int x3), (4, .int x4), (5, .int x5), (6, .int x6)]) hx hb dX10_holds_312 hl (by decide) rfl (fun ls hl => ?_)
    refine lv_aload_n hx hb dX10_holds_314 rfl (lv_at hl 1 rfl) ?_
    refine tg_get (ci := 10) (ts := ty_MODEL) (C := RX10) (T := TX10) (N := 49) hx hb hts inX10 hown hK hw h_p0 rfl rfl 14 (by decide) (hts _ tw_1151) (fun _ h9 => h9) (ft := vR 34) rfl dX10_holds_315 (fun u_1 hv_u_1 m_u_1 => ?_)
    obtain ⟨vu_1, rfl, h_vu_1⟩ := hv_u_1
    refine lv_iload_n hx hb dX10_holds_318 rfl (lv_at hl 4 rfl) ?_
    refine lv_iconst (v := 3) hx hb dX10_holds_319 (by decide) ?_
    refine lv_iadd hx hb dX10_holds_320 (lv_topi (fun v_2 e_v_2 => ?_))
    obtain ⟨t_v_2, r_v_2⟩ := tq_add (lo := 177) (hi := 381) r_x3 rl_3 (by decide +kernel) e_v_2
    have t_v_2 : v_2.toInt = x3.toInt + 3 := t_v_2
    refine tg_iald (lo := (-2147483648)) (hi := 2147483647) hx hb hK hw h_vu_1 rfl 177 381 r_v_2 (by decide) (by decide +kernel) dX10_holds_321 (fun v_3 r_v_3 m_v_3 o_v_3 => ?_)
    refine lv_bipush (v := 60) hx hb dX10_holds_322 (by decide) ?_
    refine lv_icmp_ne (tgt := 342) hx hb dX10_holds_324 (by decide) (fun c_324 => ?_) (fun c_324 => ?_)
    · refine lv_aload_n hx hb dX10_holds_342 rfl (lv_at hl 1 rfl) ?_
      refine tg_mem (ci := 10) (C := RX10) (T := TX10) (N := 49) hx hb hts inX10 hown hK hw 14 m_u_1 rfl (by decide) (hts _ tw_1151) (fun _ h9 => h9) dX10_holds_343 ?_
      refine lv_iload_n hx hb dX10_holds_346 rfl (lv_at hl 4 rfl) ?_
      refine lv_iconst (v := 3) hx hb dX10_holds_347 (by decide) ?_
      refine lv_iadd hx hb dX10_holds_348 (lv_topi (fun v_4 e_v_4 => ?_))
      obtain ⟨t_v_4, r_v_4⟩ := tq_add (lo := 177) (hi := 381) r_x3 rl_3 (by decide +kernel) e_v_4
      have t_v_4 : v_4.toInt = x3.toInt + 3 := t_v_4
      refine tg_iald (lo := (-2147483648)) (hi := 2147483647) hx hb hK hw h_vu_1 rfl 177 381 r_v_4 (by decide) (by decide +kernel) dX10_holds_349 (fun v_5 r_v_5 m_v_5 o_v_5 => ?_)
      refine lv_bipush (v := 61) hx hb dX10_holds_350 (by decide) ?_
      refine lv_icmp_ne (tgt := 370) hx hb dX10_holds_352 (by decide) (fun c_352 => ?_) (fun c_352 => ?_)
      · refine lv_iload hx hb dX10_holds_370 (lv_at hl 0 rfl) ?_
        refine lv_iload hx hb dX10_holds_372 (lv_at hl 6 rfl) ?_
        refine lv_icmp_le (tgt := 381) hx hb dX10_holds_374 (by decide) (fun c_374 => ?_) (fun c_374 => ?_)
        · refine lv_iconst (v := 0) hx hb dX10_holds_381 (by decide) ?_
          subst hQ
          exact W.zret (v := 0) hx hb hr (rfl) (fun t ht hW => ⟨⟨0, (), rfl, ⟨rl_0.to (by decide), (fun h0 => trivial), (fun _ => trivial)⟩, by rw [ht]; exact hw.2.1, va_K.moved hW.alike hK, hw.2.2.1⟩, hw.2.2.2.1.F ht⟩) hw.2.2.2.1.2.2 dX10_holds_382
        · have r_x5 : RI x5 (-2147483648) 2147483646 := rc_lt1 r_x5 r_y0 (ti_nle c_374) (by decide)
          have r_y0 : RI y0 (-2147483647) 2147483647 := rc_lt2 r_x5 r_y0 (ti_nle c_374) (by decide)
          refine lv_iconst (v := 1) hx hb dX10_holds_377 (by decide) ?_
          refine lv_goto (tgt := 382) hx hb dX10_holds_378 (by decide) ?_
          subst hQ
          exact W.zret (v := 1) hx hb hr (rfl) (fun t ht hW => ⟨⟨1, (), rfl, ⟨rl_1.to (by decide), (fun _ => trivial), (fun h0 => trivial)⟩, by rw [ht]; exact hw.2.1, va_K.moved hW.alike hK, hw.2.2.1⟩, hw.2.2.2.1.F ht⟩) hw.2.2.2.1.2.2 dX10_holds_382
      · have r_v_5 : RI v_5 61 61 := rc_eq1 r_v_5 rl_61 (ti_eq c_352) (by decide)
        refine lv_iload hx hb dX10_holds_355 (lv_at hl 0 rfl) ?_
        refine lv_iload hx hb dX10_holds_357 (lv_at hl 6 rfl) ?_
        refine lv_icmp_ne (tgt := 366) hx hb dX10_holds_359 (by decide) (fun c_359 => ?_) (fun c_359 => ?_)
        · refine lv_iconst (v := 0) hx hb dX10_holds_366 (by decide) ?_
          refine lv_goto (tgt := 382) hx hb dX10_holds_367 (by decide) ?_
          subst hQ
          exact W.zret (v := 0) hx hb hr (rfl) (fun t ht hW => ⟨⟨0, (), rfl, ⟨rl_0.to (by decide), (fun h0 => trivial), (fun _ => trivial)⟩, by rw [ht]; exact hw.2.1, va_K.moved hW.alike hK, hw.2.2.1⟩, hw.2.2.2.1.F ht⟩) hw.2.2.2.1.2.2 dX10_holds_382
        · refine lv_iconst (v := 1) hx hb dX10_holds_362 (by decide) ?_
          refine lv_goto (tgt := 382) hx hb dX10_holds_363 (by decide) ?_
          subst hQ
          exact W.zret (v := 1) hx hb hr (rfl) (fun t ht hW => ⟨⟨1, (), rfl, ⟨rl_1.to (by decide), (fun _ => trivial), (fun h0 => trivial)⟩, by rw [ht]; exact hw.2.1, va_K.moved hW.alike hK, hw.2.2.1⟩, hw.2.2.2.1.F ht⟩) hw.2.2.2.1.2.2 dX10_holds_382
    · have r_v_3 : RI v_3 60 60 := rc_eq1 r_v_3 rl_60 (ti_eq c_324) (by decide)
      refine lv_iload hx hb dX10_holds_327 (lv_at hl 0 rfl) ?_
      refine lv_iload hx hb dX10_holds_329 (lv_at hl 6 rfl) ?_
      refine lv_icmp_ge (tgt := 338) hx hb dX10_holds_331 (by decide) (fun c_331 => ?_) (fun c_331 => ?_)
      · refine lv_iconst (v := 0) hx hb dX10_holds_338 (by decide) ?_
        refine lv_goto (tgt := 382) hx hb dX10_holds_339 (by decide) ?_
        subst hQ
        exact W.zret (v := 0) hx hb hr (rfl) (fun t ht hW => ⟨⟨0, (), rfl, ⟨rl_0.to (by decide), (fun h0 => trivial), (fun _ => trivial)⟩, by rw [ht]; exact hw.2.1, va_K.moved hW.alike hK, hw.2.2.1⟩, hw.2.2.2.1.F ht⟩) hw.2.2.2.1.2.2 dX10_holds_382
      · have r_y0 : RI y0 (-2147483648) 2147483646 := rc_lt1 r_y0 r_x5 (ti_nle c_331) (by decide)
        have r_x5 : RI x5 (-2147483647) 2147483647 := rc_lt2 r_y0 r_x5 (ti_nle c_331) (by decide)
        refine lv_iconst (v := 1) hx hb dX10_holds_334 (by decide) ?_
        refine lv_goto (tgt := 382) hx hb dX10_holds_335 (by decide) ?_
        subst hQ
        exact W.zret (v := 1) hx hb hr (rfl) (fun t ht hW => ⟨⟨1, (), rfl, ⟨rl_1.to (by decide), (fun _ => trivial), (fun h0 => trivial)⟩, by rw [ht]; exact hw.2.1, va_K.moved hW.alike hK, hw.2.2.1⟩, hw.2.2.2.1.F ht⟩) hw.2.2.2.1.2.2 dX10_holds_382
  refine lv_sipush (v := 174) hx hb dX10_holds_0 (by decide) ?_
  refine lv_iconst (v := 4) hx hb dX10_holds_3 (by decide) ?_
  refine lv_iload_n hx hb dX10_holds_4 rfl (lv_at hl 1 rfl) ?_
  refine lv_imul hx hb dX10_holds_5 (lv_topi (fun v_6 e_v_6 => ?_))
  obtain ⟨t_v_6, r_v_6⟩ := tq_mul (lo := 0) (hi := 204) rl_4 r_p1 (by decide +kernel) e_v_6
  have t_v_6 : v_6.toInt = 4 * p1.toInt := t_v_6
  refine lv_iadd hx hb dX10_holds_6 (lv_topi (fun v_7 e_v_7 => ?_))
  obtain ⟨t_v_7, r_v_7⟩ := tq_add (lo := 174) (hi := 378) rl_174 r_v_6 (by decide +kernel) e_v_7
  have t_v_7 : v_7.toInt = 174 + v_6.toInt := t_v_7
  refine lv_istore_n (lv' := [(3, .int v_7), (0, .ref p0), (1, .int p1), (2, .int p2)]) hx hb dX10_holds_7 rfl hl (by decide) rfl (fun ls hl => ?_)
  refine lv_aload_n hx hb dX10_holds_8 rfl (lv_at hl 1 rfl) ?_
  refine tg_get (ci := 10) (ts := ty_MODEL) (C := RX10) (T := TX10) (N := 49) hx hb hts inX10 hown hK hw h_p0 rfl rfl 14 (by decide) (hts _ tw_1151) (fun _ h9 => h9) (ft := vR 34) rfl dX10_holds_9 (fun u_8 hv_u_8 m_u_8 => ?_)
  obtain ⟨vu_8, rfl, h_vu_8⟩ := hv_u_8
  refine lv_iload_n hx hb dX10_holds_12 rfl (lv_at hl 0 rfl) ?_
  refine lv_iconst (v := 1) hx hb dX10_holds_13 (by decide) ?_
  refine lv_iadd hx hb dX10_holds_14 (lv_topi (fun v_9 e_v_9 => ?_))
  obtain ⟨t_v_9, r_v_9⟩ := tq_add (lo := 175) (hi := 379) r_v_7 rl_1 (by decide +kernel) e_v_9
  have t_v_9 : v_9.toInt = v_7.toInt + 1 := t_v_9
  refine tg_iald (lo := (-2147483648)) (hi := 2147483647) hx hb hK hw h_vu_8 rfl 175 379 r_v_9 (by decide) (by decide +kernel) dX10_holds_15 (fun v_10 r_v_10 m_v_10 o_v_10 => ?_)
  refine lv_istore (lv' := [(4, .int v_10), (3, .int v_7), (0, .ref p0), (1, .int p1), (2, .int p2)]) hx hb dX10_holds_16 hl (by decide) rfl (fun ls hl => ?_)
  refine lv_aload_n hx hb dX10_holds_18 rfl (lv_at hl 2 rfl) ?_
  refine tg_mem (ci := 10) (C := RX10) (T := TX10) (N := 49) hx hb hts inX10 hown hK hw 14 m_u_8 rfl (by decide) (hts _ tw_1151) (fun _ h9 => h9) dX10_holds_19 ?_
  refine lv_iload_n hx hb dX10_holds_22 rfl (lv_at hl 1 rfl) ?_
  refine lv_iconst (v := 2) hx hb dX10_holds_23 (by decide) ?_
  refine lv_iadd hx hb dX10_holds_24 (lv_topi (fun v_11 e_v_11 => ?_))
  obtain ⟨t_v_11, r_v_11⟩ := tq_add (lo := 176) (hi := 380) r_v_7 rl_2 (by decide +kernel) e_v_11
  have t_v_11 : v_11.toInt = v_7.toInt + 2 := t_v_11
  refine tg_iald (lo := (-2147483648)) (hi := 2147483647) hx hb hK hw h_vu_8 rfl 176 380 r_v_11 (by decide) (by decide +kernel) dX10_holds_25 (fun v_12 r_v_12 m_v_12 o_v_12 => ?_)
  refine lv_istore (lv' := [(5, .int v_12), (4, .int v_10), (3, .int v_7), (0, .ref p0), (1, .int p1), (2, .int p2)]) hx hb dX10_holds_26 hl (by decide) rfl (fun ls hl => ?_)
  refine lv_aload_n hx hb dX10_holds_28 rfl (lv_at hl 3 rfl) ?_
  refine tg_mem (ci := 10) (C := RX10) (T := TX10) (N := 49) hx hb hts inX10 hown hK hw 14 m_u_8 rfl (by decide) (hts _ tw_1151) (fun _ h9 => h9) dX10_holds_29 ?_
  refine lv_iload_n hx hb dX10_holds_32 rfl (lv_at hl 2 rfl) ?_
  refine tg_iald (lo := (-2147483648)) (hi := 2147483647) hx hb hK hw h_vu_8 rfl 174 378 r_v_7 (by decide) (by decide +kernel) dX10_holds_33 (fun v_13 r_v_13 m_v_13 o_v_13 => ?_)
  by_cases k_34_1 : v_13 = 1
  · refine lv_lookup (tgt := 108) (off := 74) hx hb dX10_holds_34 (by decide) (by rw [k_34_1]; decide) (by decide) ?_
    have r_v_13 : RI v_13 1 1 := by rw [k_34_1]; exact rl_1
    have g_v_10 : 0 ≤ v_10.toInt ∧ v_10.toInt < p1.toInt := by obtain ⟨_, f9, e8, e7, q9, _⟩ := ax_of (k := 14) (t := 34) hw h_p0 rfl (fun _ => rfl); cases FLD.inj hw.2.2.1 e8 m_u_8; have t9 := ARR.ael hw.2.2.1 e7 m_v_13; have x9 := ARR.ael hw.2.2.1 e7 m_v_10; rw [show Int32.toNatClampNeg v_7 = 174 + 4 * Int32.toNatClampNeg p1 from (by have k1 := r_v_7.cl (by decide); have k2 := r_p1.cl (by decide); omega)] at t9; rw [show Int32.toNatClampNeg v_9 = 175 + 4 * Int32.toNatClampNeg p1 from (by have k1 := r_v_9.cl (by decide); have k2 := r_p1.cl (by decide); omega)] at x9; exact RN_child q9 (r_p1.to (by decide)) t9 x9 (r_v_13.to (by decide))
    have r_v_10 : RI v_10 0 50 := ⟨g_v_10.1, by have k1 := r_p1.2; omega⟩
    refine lv_aload_n hx hb dX10_holds_108 rfl (lv_at hl 3 rfl) ?_
    refine lv_iload hx hb dX10_holds_109 (lv_at hl 1 rfl) ?_
    refine lv_iload_n hx hb dX10_holds_111 rfl (lv_at hl 5 rfl) ?_
    refine tk_ir (va_runV (As := [.int v_10, .int p2]) (rest := []) ⟨hx, hb, hml, hown, hts⟩ (c_X10_holds__9 l D cy z s.heap.size Ps w0 hw.1 p0 v_10 p2 h_p0 r_v_10 r_p2) (cwV 2 hts (gV tw_1787 tw_1789 ts_119 tw_15 tw_1790) rfl rfl rfl (by decide +kernel) ⟨Nat.le_of_ble_eq_true rfl, Nat.le_of_ble_eq_true rfl⟩) (tg_preV hw hK hSD hA (ci := 10) (q := (RX10, TX10, 49)) rfl h_p0 rfl) rfl rfl hl.1 rfl (lv_room (Nat.le_of_ble_eq_true rfl)) dX10_holds_112 ⟨Nat.le_of_ble_eq_true rfl, Nat.le_of_ble_eq_true rfl⟩) hw hA (fun v_14  H locs hp_v_14 hw => ?_)
    have r_v_14 : RI v_14 0 1 := hp_v_14.1
    refine lv_if_ne (tgt := 122) hx hb dX10_holds_115 (by decide) (fun c_115 => ?_) (fun c_115 => ?_)
    · have r_v_14 : RI v_14 1 1 := rc_neL r_v_14 rl_0 (ti_ne c_115) (by decide)
      refine lv_iconst (v := 0) hx hb dX10_holds_122 (by decide) ?_
      subst hQ
      exact W.zret (v := 0) hx hb hr (rfl) (fun t ht hW => ⟨⟨0, (), rfl, ⟨rl_0.to (by decide), (fun h0 => trivial), (fun _ => trivial)⟩, by rw [ht]; exact hw.2.1, va_K.moved hW.alike hK, hw.2.2.1⟩, hw.2.2.2.1.F ht⟩) hw.2.2.2.1.2.2 dX10_holds_123
    · have r_v_14 : RI v_14 0 0 := rc_eq1 r_v_14 rl_0 (ti_eq c_115) (by decide)
      refine lv_iconst (v := 1) hx hb dX10_holds_118 (by decide) ?_
      refine lv_goto (tgt := 123) hx hb dX10_holds_119 (by decide) ?_
      subst hQ
      exact W.zret (v := 1) hx hb hr (rfl) (fun t ht hW => ⟨⟨1, (), rfl, ⟨rl_1.to (by decide), (fun _ => trivial), (fun h0 => trivial)⟩, by rw [ht]; exact hw.2.1, va_K.moved hW.alike hK, hw.2.2.1⟩, hw.2.2.2.1.F ht⟩) hw.2.2.2.1.2.2 dX10_holds_123
  · by_cases k_34_2 : v_13 = 2
    · refine lv_lookup (tgt := 124) (off := 90) hx hb dX10_holds_34 (by decide) (by rw [k_34_2]; decide) (by decide) ?_
      have r_v_13 : RI v_13 2 2 := by rw [k_34_2]; exact rl_2
      have g_v_10 : 0 ≤ v_10.toInt ∧ v_10.toInt < p1.toInt := by obtain ⟨_, f9, e8, e7, q9, _⟩ := ax_of (k := 14) (t := 34) hw h_p0 rfl (fun _ => rfl); cases FLD.inj hw.2.2.1 e8 m_u_8; have t9 := ARR.ael hw.2.2.1 e7 m_v_13; have x9 := ARR.ael hw.2.2.1 e7 m_v_10; rw [show Int32.toNatClampNeg v_7 = 174 + 4 * Int32.toNatClampNeg p1 from (by have k1 := r_v_7.cl (by decide); have k2 := r_p1.cl (by decide); omega)] at t9; rw [show Int32.toNatClampNeg v_9 = 175 + 4 * Int32.toNatClampNeg p1 from (by have k1 := r_v_9.cl (by decide); have k2 := r_p1.cl (by decide); omega)] at x9; exact RN_child q9 (r_p1.to (by decide)) t9 x9 (r_v_13.to (by decide))
      have r_v_10 : RI v_10 0 50 := ⟨g_v_10.1, by have k1 := r_p1.2; omega⟩
      have g_v_12 : 0 ≤ v_12.toInt ∧ v_12.toInt < p1.toInt := by obtain ⟨_, f9, e8, e7, q9, _⟩ := ax_of (k := 14) (t := 34) hw h_p0 rfl (fun _ => rfl); cases FLD.inj hw.2.2.1 e8 m_u_8; have t9 := ARR.ael hw.2.2.1 e7 m_v_13; have x9 := ARR.ael hw.2.2.1 e7 m_v_12; rw [show Int32.toNatClampNeg v_7 = 174 + 4 * Int32.toNatClampNeg p1 from (by have k1 := r_v_7.cl (by decide); have k2 := r_p1.cl (by decide); omega)] at t9; rw [show Int32.toNatClampNeg v_11 = 176 + 4 * Int32.toNatClampNeg p1 from (by have k1 := r_v_11.cl (by decide); have k2 := r_p1.cl (by decide); omega)] at x9; exact RN_child2 q9 (r_p1.to (by decide)) t9 x9 (r_v_13.to (by decide))
      have r_v_12 : RI v_12 0 50 := ⟨g_v_12.1, by have k1 := r_p1.2; omega⟩
      refine lv_aload_n hx hb dX10_holds_124 rfl (lv_at hl 3 rfl) ?_
      refine lv_iload hx hb dX10_holds_125 (lv_at hl 1 rfl) ?_
      refine lv_iload_n hx hb dX10_holds_127 rfl (lv_at hl 5 rfl) ?_
      refine tk_ir (va_runV (As := [.int v_10, .int p2]) (rest := []) ⟨hx, hb, hml, hown, hts⟩ (c_X10_holds__9 l D cy z s.heap.size Ps w0 hw.1 p0 v_10 p2 h_p0 r_v_10 r_p2) (cwV 2 hts (gV tw_1787 tw_1789 ts_119 tw_15 tw_1790) rfl rfl rfl (by decide +kernel) ⟨Nat.le_of_ble_eq_true rfl, Nat.le_of_ble_eq_true rfl⟩) (tg_preV hw hK hSD hA (ci := 10) (q := (RX10, TX10, 49)) rfl h_p0 rfl) rfl rfl hl.1 rfl (lv_room (Nat.le_of_ble_eq_true rfl)) dX10_holds_128 ⟨Nat.le_of_ble_eq_true rfl, Nat.le_of_ble_eq_true rfl⟩) hw hA (fun v_15  H locs hp_v_15 hw => ?_)
      have r_v_15 : RI v_15 0 1 := hp_v_15.1
      refine lv_if_eq (tgt := 148) hx hb dX10_holds_131 (by decide) (fun c_131 => ?_) (fun c_131 => ?_)
      · have r_v_15 : RI v_15 0 0 := rc_eq1 r_v_15 rl_0 (ti_eq c_131) (by decide)
        refine lv_iconst (v := 0) hx hb dX10_holds_148 (by decide) ?_
        subst hQ
        exact W.zret (v := 0) hx hb hr (rfl) (fun t ht hW => ⟨⟨0, (), rfl, ⟨rl_0.to (by decide), (fun h0 => trivial), (fun _ => trivial)⟩, by rw [ht]; exact hw.2.1, va_K.moved hW.alike hK, hw.2.2.1⟩, hw.2.2.2.1.F ht⟩) hw.2.2.2.1.2.2 dX10_holds_149
      · have r_v_15 : RI v_15 1 1 := rc_neL r_v_15 rl_0 (ti_ne c_131) (by decide)
        refine lv_aload_n hx hb dX10_holds_134 rfl (lv_at hl 3 rfl) ?_
        refine lv_iload hx hb dX10_holds_135 (lv_at hl 0 rfl) ?_
        refine lv_iload_n hx hb dX10_holds_137 rfl (lv_at hl 5 rfl) ?_
        refine tk_ir (va_runV (As := [.int v_12, .int p2]) (rest := []) ⟨hx, hb, hml, hown, hts⟩ (c_X10_holds__9 l D cy z H.size Ps w0 hw.1 p0 v_12 p2 h_p0 r_v_12 r_p2) (cwV 2 hts (gV tw_1787 tw_1789 ts_119 tw_15 tw_1790) rfl rfl rfl (by decide +kernel) ⟨Nat.le_of_ble_eq_true rfl, Nat.le_of_ble_eq_true rfl⟩) (tg_preV hw hK hSD hA (ci := 10) (q := (RX10, TX10, 49)) rfl h_p0 rfl) rfl rfl hl.1 rfl (lv_room (Nat.le_of_ble_eq_true rfl)) dX10_holds_138 ⟨Nat.le_of_ble_eq_true rfl, Nat.le_of_ble_eq_true rfl⟩) hw hA (fun v_16  H locs hp_v_16 hw => ?_)
        have r_v_16 : RI v_16 0 1 := hp_v_16.1
        refine lv_if_eq (tgt := 148) hx hb dX10_holds_141 (by decide) (fun c_141 => ?_) (fun c_141 => ?_)
        · have r_v_16 : RI v_16 0 0 := rc_eq1 r_v_16 rl_0 (ti_eq c_141) (by decide)
          refine lv_iconst (v := 0) hx hb dX10_holds_148 (by decide) ?_
          subst hQ
          exact W.zret (v := 0) hx hb hr (rfl) (fun t ht hW => ⟨⟨0, (), rfl, ⟨rl_0.to (by decide), (fun h0 => trivial), (fun _ => trivial)⟩, by rw [ht]; exact hw.2.1, va_K.moved hW.alike hK, hw.2.2.1⟩, hw.2.2.2.1.F ht⟩) hw.2.2.2.1.2.2 dX10_holds_149
        · have r_v_16 : RI v_16 1 1 := rc_neL r_v_16 rl_0 (ti_ne c_141) (by decide)
          refine lv_iconst (v := 1) hx hb dX10_holds_144 (by decide) ?_
          refine lv_goto (tgt := 149) hx hb dX10_holds_145 (by decide) ?_
          subst hQ
          exact W.zret (v := 1) hx hb hr (rfl) (fun t ht hW => ⟨⟨1, (), rfl, ⟨rl_1.to (by decide), (fun _ => trivial), (fun h0 => trivial)⟩, by rw [ht]; exact hw.2.1, va_K.moved hW.alike hK, hw.2.2.1⟩, hw.2.2.2.1.F ht⟩) hw.2.2.2.1.2.2 dX10_holds_149
    · by_cases k_34_3 : v_13 = 3
      · refine lv_lookup (tgt := 150) (off := 116) hx hb dX10_holds_34 (by decide) (by rw [k_34_3]; decide) (by decide) ?_
        have r_v_13 : RI v_13 3 3 := by rw [k_34_3]; exact rl_3
        have g_v_10 : 0 ≤ v_10.toInt ∧ v_10.toInt < p1.toInt := by obtain ⟨_, f9, e8, e7, q9, _⟩ := ax_of (k := 14) (t := 34) hw h_p0 rfl (fun _ => rfl); cases FLD.inj hw.2.2.1 e8 m_u_8; have t9 := ARR.ael hw.2.2.1 e7 m_v_13; have x9 := ARR.ael hw.2.2.1 e7 m_v_10; rw [show Int32.toNatClampNeg v_7 = 174 + 4 * Int32.toNatClampNeg p1 from (by have k1 := r_v_7.cl (by decide); have k2 := r_p1.cl (by decide); omega)] at t9; rw [show Int32.toNatClampNeg v_9 = 175 + 4 * Int32.toNatClampNeg p1 from (by have k1 := r_v_9.cl (by decide); have k2 := r_p1.cl (by decide); omega)] at x9; exact RN_child q9 (r_p1.to (by decide)) t9 x9 (r_v_13.to (by decide))
        have r_v_10 : RI v_10 0 50 := ⟨g_v_10.1, by have k1 := r_p1.2; omega⟩
        have g_v_12 : 0 ≤ v_12.toInt ∧ v_12.toInt < p1.toInt := by obtain ⟨_, f9, e8, e7, q9, _⟩ := ax_of (k := 14) (t := 34) hw h_p0 rfl (fun _ => rfl); cases FLD.inj hw.2.2.1 e8 m_u_8; have t9 := ARR.ael hw.2.2.1 e7 m_v_13; have x9 := ARR.ael hw.2.2.1 e7 m_v_12; rw [show Int32.toNatClampNeg v_7 = 174 + 4 * Int32.toNatClampNeg p1 from (by have k1 := r_v_7.cl (by decide); have k2 := r_p1.cl (by decide); omega)] at t9; rw [show Int32.toNatClampNeg v_11 = 176 + 4 * Int32.toNatClampNeg p1 from (by have k1 := r_v_11.cl (by decide); have k2 := r_p1.cl (by decide); omega)] at x9; exact RN_child2 q9 (r_p1.to (by decide)) t9 x9 (r_v_13.to (by decide))
        have r_v_12 : RI v_12 0 50 := ⟨g_v_12.1, by have k1 := r_p1.2; omega⟩
        refine lv_aload_n hx hb dX10_holds_150 rfl (lv_at hl 3 rfl) ?_
        refine lv_iload hx hb dX10_holds_151 (lv_at hl 1 rfl) ?_
        refine lv_iload_n hx hb dX10_holds_153 rfl (lv_at hl 5 rfl) ?_
        refine tk_ir (va_runV (As := [.int v_10, .int p2]) (rest := []) ⟨hx, hb, hml, hown, hts⟩ (c_X10_holds__9 l D cy z s.heap.size Ps w0 hw.1 p0 v_10 p2 h_p0 r_v_10 r_p2) (cwV 2 hts (gV tw_1787 tw_1789 ts_119 tw_15 tw_1790) rfl rfl rfl (by decide +kernel) ⟨Nat.le_of_ble_eq_true rfl, Nat.le_of_ble_eq_true rfl⟩) (tg_preV hw hK hSD hA (ci := 10) (q := (RX10, TX10, 49)) rfl h_p0 rfl) rfl rfl hl.1 rfl (lv_room (Nat.le_of_ble_eq_true rfl)) dX10_holds_154 ⟨Nat.le_of_ble_eq_true rfl, Nat.le_of_ble_eq_true rfl⟩) hw hA (fun v_17  H locs hp_v_17 hw => ?_)
        have r_v_17 : RI v_17 0 1 := hp_v_17.1
        refine lv_if_ne (tgt := 170) hx hb dX10_holds_157 (by decide) (fun c_157 => ?_) (fun c_157 => ?_)
        · have r_v_17 : RI v_17 1 1 := rc_neL r_v_17 rl_0 (ti_ne c_157) (by decide)
          refine lv_iconst (v := 1) hx hb dX10_holds_170 (by decide) ?_
          refine lv_goto (tgt := 175) hx hb dX10_holds_171 (by decide) ?_
          subst hQ
          exact W.zret (v := 1) hx hb hr (rfl) (fun t ht hW => ⟨⟨1, (), rfl, ⟨rl_1.to (by decide), (fun _ => trivial), (fun h0 => trivial)⟩, by rw [ht]; exact hw.2.1, va_K.moved hW.alike hK, hw.2.2.1⟩, hw.2.2.2.1.F ht⟩) hw.2.2.2.1.2.2 dX10_holds_175
        · have r_v_17 : RI v_17 0 0 := rc_eq1 r_v_17 rl_0 (ti_eq c_157) (by decide)
          refine lv_aload_n hx hb dX10_holds_160 rfl (lv_at hl 3 rfl) ?_
          refine lv_iload hx hb dX10_holds_161 (lv_at hl 0 rfl) ?_
          refine lv_iload_n hx hb dX10_holds_163 rfl (lv_at hl 5 rfl) ?_
          refine tk_ir (va_runV (As := [.int v_12, .int p2]) (rest := []) ⟨hx, hb, hml, hown, hts⟩ (c_X10_holds__9 l D cy z H.size Ps w0 hw.1 p0 v_12 p2 h_p0 r_v_12 r_p2) (cwV 2 hts (gV tw_1787 tw_1789 ts_119 tw_15 tw_1790) rfl rfl rfl (by decide +kernel) ⟨Nat.le_of_ble_eq_true rfl, Nat.le_of_ble_eq_true rfl⟩) (tg_preV hw hK hSD hA (ci := 10) (q := (RX10, TX10, 49)) rfl h_p0 rfl) rfl rfl hl.1 rfl (lv_room (Nat.le_of_ble_eq_true rfl)) dX10_holds_164 ⟨Nat.le_of_ble_eq_true rfl, Nat.le_of_ble_eq_true rfl⟩) hw hA (fun v_18  H locs hp_v_18 hw => ?_)
          have r_v_18 : RI v_18 0 1 := hp_v_18.1
          refine lv_if_eq (tgt := 174) hx hb dX10_holds_167 (by decide) (fun c_167 => ?_) (fun c_167 => ?_)
          · have r_v_18 : RI v_18 0 0 := rc_eq1 r_v_18 rl_0 (ti_eq c_167) (by decide)
            refine lv_iconst (v := 0) hx hb dX10_holds_174 (by decide) ?_
            subst hQ
            exact W.zret (v := 0) hx hb hr (rfl) (fun t ht hW => ⟨⟨0, (), rfl, ⟨rl_0.to (by decide), (fun h0 => trivial), (fun _ => trivial)⟩, by rw [ht]; exact hw.2.1, va_K.moved hW.alike hK, hw.2.2.1⟩, hw.2.2.2.1.F ht⟩) hw.2.2.2.1.2.2 dX10_holds_175
          · have r_v_18 : RI v_18 1 1 := rc_neL r_v_18 rl_0 (ti_ne c_167) (by decide)
            refine lv_iconst (v := 1) hx hb dX10_holds_170 (by decide) ?_
            refine lv_goto (tgt := 175) hx hb dX10_holds_171 (by decide) ?_
            subst hQ
            exact W.zret (v := 1) hx hb hr (rfl) (fun t ht hW => ⟨⟨1, (), rfl, ⟨rl_1.to (by decide), (fun _ => trivial), (fun h0 => trivial)⟩, by rw [ht]; exact hw.2.1, va_K.moved hW.alike hK, hw.2.2.1⟩, hw.2.2.2.1.F ht⟩) hw.2.2.2.1.2.2 dX10_holds_175
      · by_cases k_34_69 : v_13 = 69
        · refine lv_lookup (tgt := 176) (off := 142) hx hb dX10_holds_34 (by decide) (by rw [k_34_69]; decide) (by decide) ?_
          have r_v_13 : RI v_13 69 69 := by rw [k_34_69]; exact rl_69
          refine lv_aload_n hx hb dX10_holds_176 rfl (lv_at hl 3 rfl) ?_
          refine lv_iload_n hx hb dX10_holds_177 rfl (lv_at hl 5 rfl) ?_
          refine tk_ir (va_runV (As := [.int p2]) (rest := []) ⟨hx, hb, hml, hown, hts⟩ (c_X10_isOpen l D cy z s.heap.size Ps w0 hw.1 p0 p2 h_p0 (r_p2.to (by decide))) (cwV 1 hts (gV tw_1457 tw_1459 ts_71 tw_15 tw_1460) rfl rfl rfl (by decide +kernel) ⟨Nat.le_of_ble_eq_true rfl, Nat.le_of_ble_eq_true rfl⟩) (tg_preV hw hK hSD hA (ci := 10) (q := (RX10, TX10, 49)) rfl h_p0 rfl) rfl rfl hl.1 rfl (lv_room (Nat.le_of_ble_eq_true rfl)) dX10_holds_178 ⟨Nat.le_of_ble_eq_true rfl, Nat.le_of_ble_eq_true rfl⟩) hw hA (fun v_19  H locs hp_v_19 hw => ?_)
          have r_v_19 : RI v_19 0 1 := hp_v_19.1
          subst hQ
          exact W.zret (v := v_19) hx hb hr (tq_nz (r_v_19.to (by decide))) (fun t ht hW => ⟨⟨v_19, (), rfl, ⟨r_v_19.to (by decide), (fun h0 => trivial), (fun h0 => trivial)⟩, by rw [ht]; exact hw.2.1, va_K.moved hW.alike hK, hw.2.2.1⟩, hw.2.2.2.1.F ht⟩) hw.2.2.2.1.2.2 dX10_holds_181
        · by_cases k_34_70 : v_13 = 70
          · refine lv_lookup (tgt := 182) (off := 148) hx hb dX10_holds_34 (by decide) (by rw [k_34_70]; decide) (by decide) ?_
            have r_v_13 : RI v_13 70 70 := by rw [k_34_70]; exact rl_70
            refine lv_aload_n hx hb dX10_holds_182 rfl (lv_at hl 3 rfl) ?_
            refine lv_iload_n hx hb dX10_holds_183 rfl (lv_at hl 5 rfl) ?_
            refine tk_ir (va_runV (As := [.int p2]) (rest := []) ⟨hx, hb, hml, hown, hts⟩ (c_X10_whatIs l D cy z s.heap.size Ps w0 hw.1 p0 p2 h_p0 r_p2) (cwV 1 hts (gV tw_1449 tw_1451 ts_69 tw_15 tw_1452) rfl rfl rfl (by decide +kernel) ⟨Nat.le_of_ble_eq_true rfl, Nat.le_of_ble_eq_true rfl⟩) (tg_preV hw hK hSD hA (ci := 10) (q := (RX10, TX10, 49)) rfl h_p0 rfl) rfl rfl hl.1 rfl (lv_room (Nat.le_of_ble_eq_true rfl)) dX10_holds_184 ⟨Nat.le_of_ble_eq_true rfl, Nat.le_of_ble_eq_true rfl⟩) hw hA (fun v_20  H locs hp_v_20 hw => ?_)
            have r_v_20 : RI v_20 (-1) 5 := hp_v_20.1
            by_cases c9_v_20 : v_20.toInt < 0
            · have r_v_20 : RI v_20 (-1) (-1) := by unfold RI at r_v_20 ⊢; omega
              have x_NB_p0_p2 := (hp_v_20.2.2.2.2.1 (by omega)).1
              refine lv_iconst (v := (-1)) hx hb dX10_holds_187 (by decide) ?_
              refine lv_icmp_ne (tgt := 195) hx hb dX10_holds_188 (by decide) (fun c_188 => ?_) (fun c_188 => ?_)
              · exact absurd (r_v_20.eq.trans rl_m1.eq.symm) ((ti_ne c_188))
              · refine lv_iconst (v := 1) hx hb dX10_holds_191 (by decide) ?_
                refine lv_goto (tgt := 196) hx hb dX10_holds_192 (by decide) ?_
                subst hQ
                exact W.zret (v := 1) hx hb hr (rfl) (fun t ht hW => ⟨⟨1, (), rfl, ⟨rl_1.to (by decide), (fun _ => trivial), (fun h0 => trivial)⟩, by rw [ht]; exact hw.2.1, va_K.moved hW.alike hK, hw.2.2.1⟩, hw.2.2.2.1.F ht⟩) hw.2.2.2.1.2.2 dX10_holds_196
            · have r_v_20 : RI v_20 0 5 := by unfold RI at r_v_20 ⊢; omega
              have x_WB_p0_p2_v_20 := (hp_v_20.2.2.2.2.2 (by omega)).1
              refine lv_iconst (v := (-1)) hx hb dX10_holds_187 (by decide) ?_
              refine lv_icmp_ne (tgt := 195) hx hb dX10_holds_188 (by decide) (fun c_188 => ?_) (fun c_188 => ?_)
              · refine lv_iconst (v := 0) hx hb dX10_holds_195 (by decide) ?_
                subst hQ
                exact W.zret (v := 0) hx hb hr (rfl) (fun t ht hW => ⟨⟨0, (), rfl, ⟨rl_0.to (by decide), (fun h0 => trivial), (fun _ => trivial)⟩, by rw [ht]; exact hw.2.1, va_K.moved hW.alike hK, hw.2.2.1⟩, hw.2.2.2.1.F ht⟩) hw.2.2.2.1.2.2 dX10_holds_196
              · have r_v_20 : RI v_20 0 (-1) := rc_eq1 r_v_20 rl_m1 (ti_eq c_188) (by decide)
                exact (r_v_20.no (by decide)).elim
          · by_cases k_34_71 : v_13 = 71
            · refine lv_lookup (tgt := 197) (off := 163) hx hb dX10_holds_34 (by decide) (by rw [k_34_71]; decide) (by decide) ?_
              have r_v_13 : RI v_13 71 71 := by rw [k_34_71]; exact rl_71
              refine lv_aload_n hx hb dX10_holds_197 rfl (lv_at hl 3 rfl) ?_
              refine lv_iload_n hx hb dX10_holds_198 rfl (lv_at hl 5 rfl) ?_
              refine tk_ir (va_runV (As := [.int p2]) (rest := []) ⟨hx, hb, hml, hown, hts⟩ (c_X10_sittersOf l D cy z s.heap.size Ps w0 hw.1 p0 p2 h_p0 (r_p2.to (by decide))) (cwV 1 hts (gV tw_1461 tw_1463 ts_72 tw_15 tw_1464) rfl rfl rfl (by decide +kernel) ⟨Nat.le_of_ble_eq_true rfl, Nat.le_of_ble_eq_true rfl⟩) (tg_preV hw hK hSD hA (ci := 10) (q := (RX10, TX10, 49)) rfl h_p0 rfl) rfl rfl hl.1 rfl (lv_room (Nat.le_of_ble_eq_true rfl)) dX10_holds_199 ⟨Nat.le_of_ble_eq_true rfl, Nat.le_of_ble_eq_true rfl⟩) hw hA (fun v_21  H locs hp_v_21 hw => ?_)
              have r_v_21 : RI v_21 (-2147483648) 2147483647 := hp_v_21.1
              refine lv_if_eq (tgt := 209) hx hb dX10_holds_202 (by decide) (fun c_202 => ?_) (fun c_202 => ?_)
              · have r_v_21 : RI v_21 0 0 := rc_eq1 r_v_21 rl_0 (ti_eq c_202) (by decide)
                refine lv_iconst (v := 0) hx hb dX10_holds_209 (by decide) ?_
                subst hQ
                exact W.zret (v := 0) hx hb hr (rfl) (fun t ht hW => ⟨⟨0, (), rfl, ⟨rl_0.to (by decide), (fun h0 => trivial), (fun _ => trivial)⟩, by rw [ht]; exact hw.2.1, va_K.moved hW.alike hK, hw.2.2.1⟩, hw.2.2.2.1.F ht⟩) hw.2.2.2.1.2.2 dX10_holds_210
              · refine lv_iconst (v := 1) hx hb dX10_holds_205 (by decide) ?_
                refine lv_goto (tgt := 210) hx hb dX10_holds_206 (by decide) ?_
                subst hQ
                exact W.zret (v := 1) hx hb hr (rfl) (fun t ht hW => ⟨⟨1, (), rfl, ⟨rl_1.to (by decide), (fun _ => trivial), (fun h0 => trivial)⟩, by rw [ht]; exact hw.2.1, va_K.moved hW.alike hK, hw.2.2.1⟩, hw.2.2.2.1.F ht⟩) hw.2.2.2.1.2.2 dX10_holds_210
            · by_cases k_34_72 : v_13 = 72
              · refine lv_lookup (tgt := 211) (off := 177) hx hb dX10_holds_34 (by decide) (by rw [k_34_72]; decide) (by decide) ?_
                have r_v_13 : RI v_13 72 72 := by rw [k_34_72]; exact rl_72
                refine lv_aload_n hx hb dX10_holds_211 rfl (lv_at hl 3 rfl) ?_
                refine lv_iload_n hx hb dX10_holds_212 rfl (lv_at hl 5 rfl) ?_
                refine tk_ir (va_runV (As := [.int p2]) (rest := []) ⟨hx, hb, hml, hown, hts⟩ (c_X10_whatIs l D cy z s.heap.size Ps w0 hw.1 p0 p2 h_p0 r_p2) (cwV 1 hts (gV tw_1449 tw_1451 ts_69 tw_15 tw_1452) rfl rfl rfl (by decide +kernel) ⟨Nat.le_of_ble_eq_true rfl, Nat.le_of_ble_eq_true rfl⟩) (tg_preV hw hK hSD hA (ci := 10) (q := (RX10, TX10, 49)) rfl h_p0 rfl) rfl rfl hl.1 rfl (lv_room (Nat.le_of_ble_eq_true rfl)) dX10_holds_213 ⟨Nat.le_of_ble_eq_true rfl, Nat.le_of_ble_eq_true rfl⟩) hw hA (fun v_22  H locs hp_v_22 hw => ?_)
                have r_v_22 : RI v_22 (-1) 5 := hp_v_22.1
                by_cases c9_v_22 : v_22.toInt < 0
                · have r_v_22 : RI v_22 (-1) (-1) := by unfold RI at r_v_22 ⊢; omega
                  have x_NB_p0_p2 := (hp_v_22.2.2.2.2.1 (by omega)).1
                  refine lv_iload hx hb dX10_holds_216 (lv_at hl 1 rfl) ?_
                  refine lv_icmp_ne (tgt := 225) hx hb dX10_holds_218 (by decide) (fun c_218 => ?_) (fun c_218 => ?_)
                  · refine lv_iconst (v := 0) hx hb dX10_holds_225 (by decide) ?_
                    subst hQ
                    exact W.zret (v := 0) hx hb hr (rfl) (fun t ht hW => ⟨⟨0, (), rfl, ⟨rl_0.to (by decide), (fun h0 => trivial), (fun _ => trivial)⟩, by rw [ht]; exact hw.2.1, va_K.moved hW.alike hK, hw.2.2.1⟩, hw.2.2.2.1.F ht⟩) hw.2.2.2.1.2.2 dX10_holds_226
                  · have r_v_10 : RI v_10 (-1) (-1) := rc_eq2 r_v_22 r_v_10 (ti_eq c_218) (by decide)
                    refine lv_iconst (v := 1) hx hb dX10_holds_221 (by decide) ?_
                    refine lv_goto (tgt := 226) hx hb dX10_holds_222 (by decide) ?_
                    subst hQ
                    exact W.zret (v := 1) hx hb hr (rfl) (fun t ht hW => ⟨⟨1, (), rfl, ⟨rl_1.to (by decide), (fun _ => trivial), (fun h0 => trivial)⟩, by rw [ht]; exact hw.2.1, va_K.moved hW.alike hK, hw.2.2.1⟩, hw.2.2.2.1.F ht⟩) hw.2.2.2.1.2.2 dX10_holds_226
                · have r_v_22 : RI v_22 0 5 := by unfold RI at r_v_22 ⊢; omega
                  have x_WB_p0_p2_v_22 := (hp_v_22.2.2.2.2.2 (by omega)).1
                  refine lv_iload hx hb dX10_holds_216 (lv_at hl 1 rfl) ?_
                  refine lv_icmp_ne (tgt := 225) hx hb dX10_holds_218 (by decide) (fun c_218 => ?_) (fun c_218 => ?_)
                  · refine lv_iconst (v := 0) hx hb dX10_holds_225 (by decide) ?_
                    subst hQ
                    exact W.zret (v := 0) hx hb hr (rfl) (fun t ht hW => ⟨⟨0, (), rfl, ⟨rl_0.to (by decide), (fun h0 => trivial), (fun _ => trivial)⟩, by rw [ht]; exact hw.2.1, va_K.moved hW.alike hK, hw.2.2.1⟩, hw.2.2.2.1.F ht⟩) hw.2.2.2.1.2.2 dX10_holds_226
                  · have r_v_10 : RI v_10 0 5 := rc_eq2 r_v_22 r_v_10 (ti_eq c_218) (by decide)
                    refine lv_iconst (v := 1) hx hb dX10_holds_221 (by decide) ?_
                    refine lv_goto (tgt := 226) hx hb dX10_holds_222 (by decide) ?_
                    subst hQ
                    exact W.zret (v := 1) hx hb hr (rfl) (fun t ht hW => ⟨⟨1, (), rfl, ⟨rl_1.to (by decide), (fun _ => trivial), (fun h0 => trivial)⟩, by rw [ht]; exact hw.2.1, va_K.moved hW.alike hK, hw.2.2.1⟩, hw.2.2.2.1.F ht⟩) hw.2.2.2.1.2.2 dX10_holds_226
              · by_cases k_34_73 : v_13 = 73
                · refine lv_lookup (tgt := 227) (off := 193) hx hb dX10_holds_34 (by decide) (by rw [k_34_73]; decide) (by decide) ?_
                  have r_v_13 : RI v_13 73 73 := by rw [k_34_73]; exact rl_73
                  refine lv_aload_n hx hb dX10_holds_227 rfl (lv_at hl 3 rfl) ?_
                  refine tg_mem (ci := 10) (C := RX10) (T := TX10) (N := 49) hx hb hts inX10 hown hK hw 14 m_u_8 rfl (by decide) (hts _ tw_1151) (fun _ h9 => h9) dX10_holds_228 ?_
                  refine lv_bipush (v := 86) hx hb dX10_holds_231 (by decide) ?_
                  refine lv_iload_n hx hb dX10_holds_233 rfl (lv_at hl 5 rfl) ?_
                  refine lv_iadd hx hb dX10_holds_234 (lv_topi (fun v_23 e_v_23 => ?_))
                  obtain ⟨t_v_23, r_v_23⟩ := tq_add (lo := 86) (hi := 91) rl_86 r_p2 (by decide +kernel) e_v_23
                  have t_v_23 : v_23.toInt = 86 + p2.toInt := t_v_23
                  refine tg_iald (lo := (-2147483648)) (hi := 2147483647) hx hb hK hw h_vu_8 rfl 86 91 r_v_23 (by decide) (by decide +kernel) dX10_holds_235 (fun v_24 r_v_24 m_v_24 o_v_24 => ?_)
                  refine lv_iload hx hb dX10_holds_236 (lv_at hl 1 rfl) ?_
                  refine lv_icmp_ne (tgt := 245) hx hb dX10_holds_238 (by decide) (fun c_238 => ?_) (fun c_238 => ?_)
                  · refine lv_iconst (v := 0) hx hb dX10_holds_245 (by decide) ?_
                    subst hQ
                    exact W.zret (v := 0) hx hb hr (rfl) (fun t ht hW => ⟨⟨0, (), rfl, ⟨rl_0.to (by decide), (fun h0 => trivial), (fun _ => trivial)⟩, by rw [ht]; exact hw.2.1, va_K.moved hW.alike hK, hw.2.2.1⟩, hw.2.2.2.1.F ht⟩) hw.2.2.2.1.2.2 dX10_holds_246
                  · refine lv_iconst (v := 1) hx hb dX10_holds_241 (by decide) ?_
                    refine lv_goto (tgt := 246) hx hb dX10_holds_242 (by decide) ?_
                    subst hQ
                    exact W.zret (v := 1) hx hb hr (rfl) (fun t ht hW => ⟨⟨1, (), rfl, ⟨rl_1.to (by decide), (fun _ => trivial), (fun h0 => trivial)⟩, by rw [ht]; exact hw.2.1, va_K.moved hW.alike hK, hw.2.2.1⟩, hw.2.2.2.1.F ht⟩) hw.2.2.2.1.2.2 dX10_holds_246
                · refine lv_lookup (tgt := 247) (off := 213) hx hb dX10_holds_34 (by decide) ((lv_osw k_34_1 (by decide)).trans ((lv_osw k_34_2 (by decide)).trans ((lv_osw k_34_3 (by decide)).trans ((lv_osw k_34_69 (by decide)).trans ((lv_osw k_34_70 (by decide)).trans ((lv_osw k_34_71 (by decide)).trans ((lv_osw k_34_72 (by decide)).trans ((lv_osw k_34_73 (by decide)).trans (rfl))))))))) (by decide) ?_
                  refine lv_aload_n hx hb dX10_holds_247 rfl (lv_at hl 3 rfl) ?_
                  refine tg_mem (ci := 10) (C := RX10) (T := TX10) (N := 49) hx hb hts inX10 hown hK hw 14 m_u_8 rfl (by decide) (hts _ tw_1151) (fun _ h9 => h9) dX10_holds_248 ?_
                  refine lv_iload_n hx hb dX10_holds_251 rfl (lv_at hl 2 rfl) ?_
                  refine tg_imem hx hb hK hw h_vu_8 rfl r_v_7 (by decide) m_v_13 dX10_holds_252 ?_
                  refine lv_bipush (v := 50) hx hb dX10_holds_253 (by decide) ?_
                  refine lv_isub hx hb dX10_holds_255 (lv_topi (fun v_26 e_v_26 => ?_))
                  have r_v_26 := ri_any v_26
                  refine lv_istore (lv' := [(6, .int v_26), (5, .int v_12), (4, .int v_10), (3, .int v_7), (0, .ref p0), (1, .int p1), (2, .int p2)]) hx hb dX10_holds_256 hl (by decide) rfl (fun ls hl => ?_)
                  refine lv_iload hx hb dX10_holds_258 (lv_at hl 0 rfl) ?_
                  refine lv_bipush (v := 24) hx hb dX10_holds_260 (by decide) ?_
                  refine lv_icmp_ne (tgt := 273) hx hb dX10_holds_262 (by decide) (fun c_262 => ?_) (fun c_262 => ?_)
                  · refine lv_iload hx hb dX10_holds_273 (lv_at hl 0 rfl) ?_
                    refine lv_bipush (v := 25) hx hb dX10_holds_275 (by decide) ?_
                    refine lv_icmp_ne (tgt := 292) hx hb dX10_holds_277 (by decide) (fun c_277 => ?_) (fun c_277 => ?_)
                    · refine lv_iload hx hb dX10_holds_292 (lv_at hl 0 rfl) ?_
                      refine lv_bipush (v := 26) hx hb dX10_holds_294 (by decide) ?_
                      refine lv_icmp_ne (tgt := 311) hx hb dX10_holds_296 (by decide) (fun c_296 => ?_) (fun c_296 => ?_)
                      · refine lv_iload_n hx hb dX10_holds_311 rfl (lv_at hl 6 rfl) ?_
                        exact B312 v_7 v_10 v_12 v_26 p2 _ _ ls r_p1 r_p2 r_v_7 r_v_10 r_v_12 r_v_26 (r_p2.to (by decide)) hw (lv_sub hl [4, 5, 6, 3, 2, 1, 0] rfl)
                      · have r_v_26 : RI v_26 26 26 := rc_eq1 r_v_26 rl_26 (ti_eq c_296) (by decide)
                        refine lv_aload_n hx hb dX10_holds_299 rfl (lv_at hl 4 rfl) ?_
                        refine tg_mem (ci := 10) (C := RX10) (T := TX10) (N := 49) hx hb hts inX10 hown hK hw 14 m_u_8 rfl (by decide) (hts _ tw_1151) (fun _ h9 => h9) dX10_holds_300 ?_
                        refine lv_bipush (v := 98) hx hb dX10_holds_303 (by decide) ?_
                        refine lv_iload_n hx hb dX10_holds_305 rfl (lv_at hl 6 rfl) ?_
                        refine lv_iadd hx hb dX10_holds_306 (lv_topi (fun v_27 e_v_27 => ?_))
                        obtain ⟨t_v_27, r_v_27⟩ := tq_add (lo := 98) (hi := 103) rl_98 r_p2 (by decide +kernel) e_v_27
                        have t_v_27 : v_27.toInt = 98 + p2.toInt := t_v_27
                        refine tg_iald (lo := (-2147483648)) (hi := 2147483647) hx hb hK hw h_vu_8 rfl 98 103 r_v_27 (by decide) (by decide +kernel) dX10_holds_307 (fun v_28 r_v_28 m_v_28 o_v_28 => ?_)
                        refine lv_goto (tgt := 312) hx hb dX10_holds_308 (by decide) ?_
                        exact B312 v_7 v_10 v_12 v_26 v_28 _ _ ls r_p1 r_p2 r_v_7 r_v_10 r_v_12 (r_v_26.to (by decide)) r_v_28 hw (lv_sub hl [4, 5, 6, 3, 2, 1, 0] rfl)
                    · have r_v_26 : RI v_26 25 25 := rc_eq1 r_v_26 rl_25 (ti_eq c_277) (by decide)
                      refine lv_aload_n hx hb dX10_holds_280 rfl (lv_at hl 4 rfl) ?_
                      refine tg_mem (ci := 10) (C := RX10) (T := TX10) (N := 49) hx hb hts inX10 hown hK hw 14 m_u_8 rfl (by decide) (hts _ tw_1151) (fun _ h9 => h9) dX10_holds_281 ?_
                      refine lv_bipush (v := 92) hx hb dX10_holds_284 (by decide) ?_
                      refine lv_iload_n hx hb dX10_holds_286 rfl (lv_at hl 6 rfl) ?_
                      refine lv_iadd hx hb dX10_holds_287 (lv_topi (fun v_29 e_v_29 => ?_))
                      obtain ⟨t_v_29, r_v_29⟩ := tq_add (lo := 92) (hi := 97) rl_92 r_p2 (by decide +kernel) e_v_29
                      have t_v_29 : v_29.toInt = 92 + p2.toInt := t_v_29
                      refine tg_iald (lo := (-2147483648)) (hi := 2147483647) hx hb hK hw h_vu_8 rfl 92 97 r_v_29 (by decide) (by decide +kernel) dX10_holds_288 (fun v_30 r_v_30 m_v_30 o_v_30 => ?_)
                      refine lv_goto (tgt := 312) hx hb dX10_holds_289 (by decide) ?_
                      exact B312 v_7 v_10 v_12 v_26 v_30 _ _ ls r_p1 r_p2 r_v_7 r_v_10 r_v_12 (r_v_26.to (by decide)) r_v_30 hw (lv_sub hl [4, 5, 6, 3, 2, 1, 0] rfl)
                  · have r_v_26 : RI v_26 24 24 := rc_eq1 r_v_26 rl_24 (ti_eq c_262) (by decide)
                    refine lv_aload_n hx hb dX10_holds_265 rfl (lv_at hl 4 rfl) ?_
                    refine lv_iload_n hx hb dX10_holds_266 rfl (lv_at hl 6 rfl) ?_
                    refine tk_ir (va_runV (As := [.int p2]) (rest := []) ⟨hx, hb, hml, hown, hts⟩ (c_X10_sizeOf l D cy z s.heap.size Ps w0 hw.1 p0 p2 h_p0 r_p2) (cwV 1 hts (gV tw_1453 tw_1455 ts_70 tw_15 tw_1456) rfl rfl rfl (by decide +kernel) ⟨Nat.le_of_ble_eq_true rfl, Nat.le_of_ble_eq_true rfl⟩) (tg_preV hw hK hSD hA (ci := 10) (q := (RX10, TX10, 49)) rfl h_p0 rfl) rfl rfl hl.1 rfl (lv_room (Nat.le_of_ble_eq_true rfl)) dX10_holds_267 ⟨Nat.le_of_ble_eq_true rfl, Nat.le_of_ble_eq_true rfl⟩) hw hA (fun v_31  H locs hp_v_31 hw => ?_)
                    have r_v_31 : RI v_31 (-2147483648) 2147483647 := hp_v_31.1
                    refine lv_goto (tgt := 312) hx hb dX10_holds_270 (by decide) ?_
                    exact B312 v_7 v_10 v_12 v_26 v_31 _ _ ls r_p1 r_p2 r_v_7 r_v_10 r_v_12 (r_v_26.to (by decide)) r_v_31 hw (lv_sub hl [4, 5, 6, 3, 2, 1, 0] rfl)
abbrev wr_X10_holds__7 : List (Nat × Nat) := []
abbrev wa_X10_holds__7 : List Nat := []
set_option maxHeartbeats 4000000 in
set_option maxRecDepth 100000 in
theorem c_X10_holds__7 (l : Launch) (D : va_G) (cy : Nat → ClassId) (z : Nat → Nat) (sz : Nat) (Ps : PSI) (w0 : va_W) (hT : HT cy GG Ps w0) (p0 : Nat) (p1 : Int32) (p2 : Int32) (h_p0 : (p0, 55) ∈ Ps) (r_p1 : RI p1 0 52) (r_p2 : RI p2 0 5) : Met l yX10_holds (Cond.code yX10_holds cX10_holds 8 (some .boolean) :: gT) ({ frames := 55, cells := 0, slots := 0, locals := 11000 } : Room) (va_Pc [.ref p0, .int p1, .int p2] (PRE D cy z w0 sz)) (va_Qi (fun (r : Int32) (u : Unit) => RI r 0 1 ∧ (r = 0 → True) ∧ (¬ r = 0 → True)) (BB D cy (va_A w0 sz) (fun (u : Unit) => w0)) (va_A w0 sz)) 0 0 (va_A w0 sz) := by
  refine Met.ofW (cc := cX10_holds) (maxL := 8) (ret := (some .boolean)) (by decide) rfl ?_
  intro p e s m args below meth c s₁ B hml hv
  obtain ⟨rfl, hsz, hP, hK, hD0, hSD⟩ := hv
  have hx := B.exec
  have hb := B.bytes
  have hr := B.returns
  have hlocks := B.notSynchronized
  have hts : ∀ w ∈ gT, w.before _ s = true := fun w h => atoms_spec (ws := Cond.code yX10_holds cX10_holds 8 (some .boolean) :: gT) B.pre w (List.mem_cons_of_mem _ h)
  have hown : s.vm.findClass RX10 = some m.cls := findClass_of_methodNamed B.named
  subst hsz
  have hD := hD0.self (sz := s.heap.size)
  generalize hAe : va_A w0 s.heap.size = A at hD hSD ⊢
  have hA : ∀ q : Nat, s.heap.size ≤ q → A q := fun q h => by rw [← hAe]; exact Or.inr h
  have hl := lv_entry ([.ref p0, .int p1, .int p2]) (n := 8) (Nat.le_of_ble_eq_true rfl)
  rw [lg_entry_eq]
  generalize (lg_sl ([.ref p0, .int p1, .int p2]) ++ List.replicate (8 - (lg_sl ([.ref p0, .int p1, .int p2])).length) Slot.unset).toArray = ls at hl ⊢
  have hl : lv_has ls 8 [(0, .ref p0), (1, .int p1), (2, .int p2)] := hl
  refine nameQ (fun Q hQ => ?_)
  have hw : WD D cy GG A s wr_X10_holds__7 wa_X10_holds__7 Ps w0 Ps w0 s.heap [] := ⟨hT, hP, hD, va_S.rf, FR.rf, hT.1, [], (List.append_nil _).symm⟩
  have B312 : ∀ (x3 : Int32) (x4 : Int32) (x5 : Int32) (x6 : Int32) (y0 : Int32) (H : Heap) (locs : List Loc) (ls : Array Slot), RI p1 0 52 → RI p2 0 5 → RI x3 174 382 → RI x4 (-2147483648) 2147483647 → RI x5 (-2147483648) 2147483647 → RI x6 (-2147483648) 2147483647 → RI y0 (-2147483648) 2147483647 → WD D cy GG A s wr_X10_holds__7 wa_X10_holds__7 Ps w0 Ps w0 H locs → lv_has ls 8 [(0, .ref p0), (1, .int p1), (2, .int p2), (3, .int x3), (4, .int x4), (5, .int x5), (6, .int x6)] → W p l e (headSpec (Cond.code yX10_holds cX10_holds 8 (some .boolean) :: gT) ({ frames := 55, cells := 0, slots := 0, locals := 11000 } : Room)).room s m ([.ref p0, .int p1, .int p2] : List Value).toArray below meth c H locs 0 0 Q (F0 m 312 ls [.int y0]) := by
    intro x3 x4 x5 x6 y0 H locs ls r_p1 r_p2 r_x3 r_x4 r_x5 r_x6 r_y0 hw hl
    refine lv_istore (lv' := [(7, .int y0), (0, .ref p0), (1, .int p1), (2, .int p2), (3, .int x3), (4, .int x4), (5, .int x5), (6, .int x6)]) hx hb dX10_holds_312 hl (by decide) rfl (fun ls hl => ?_)
    refine lv_aload_n hx hb dX10_holds_314 rfl (lv_at hl 1 rfl) ?_
    refine tg_get (ci := 10) (ts := ty_MODEL) (C := RX10) (T := TX10) (N := 49) hx hb hts inX10 hown hK hw h_p0 rfl rfl 14 (by decide) (hts _ tw_1151) (fun _ h9 => h9) (ft := vR 34) rfl dX10_holds_315 (fun u_1 hv_u_1 m_u_1 => ?_)
    obtain ⟨vu_1, rfl, h_vu_1⟩ := hv_u_1
    refine lv_iload_n hx hb dX10_holds_318 rfl (lv_at hl 4 rfl) ?_
    refine lv_iconst (v := 3) hx hb dX10_holds_319 (by decide) ?_
    refine lv_iadd hx hb dX10_holds_320 (lv_topi (fun v_2 e_v_2 => ?_))
    obtain ⟨t_v_2, r_v_2⟩ := tq_add (lo := 177) (hi := 385) r_x3 rl_3 (by decide +kernel) e_v_2
    have t_v_2 : v_2.toInt = x3.toInt + 3 := t_v_2
    refine tg_iald (lo := (-2147483648)) (hi := 2147483647) hx hb hK hw h_vu_1 rfl 177 385 r_v_2 (by decide) (by decide +kernel) dX10_holds_321 (fun v_3 r_v_3 m_v_3 o_v_3 => ?_)
    refine lv_bipush (v := 60) hx hb dX10_holds_322 (by decide) ?_
    refine lv_icmp_ne (tgt := 342) hx hb dX10_holds_324 (by decide) (fun c_324 => ?_) (fun c_324 => ?_)
    · refine lv_aload_n hx hb dX10_holds_342 rfl (lv_at hl 1 rfl) ?_
      refine tg_mem (ci := 10) (C := RX10) (T := TX10) (N := 49) hx hb hts inX10 hown hK hw 14 m_u_1 rfl (by decide) (hts _ tw_1151) (fun _ h9 => h9) dX10_holds_343 ?_
      refine lv_iload_n hx hb dX10_holds_346 rfl (lv_at hl 4 rfl) ?_
      refine lv_iconst (v := 3) hx hb dX10_holds_347 (by decide) ?_
      refine lv_iadd hx hb dX10_holds_348 (lv_topi (fun v_4 e_v_4 => ?_))
      obtain ⟨t_v_4, r_v_4⟩ := tq_add (lo := 177) (hi := 385) r_x3 rl_3 (by decide +kernel) e_v_4
      have t_v_4 : v_4.toInt = x3.toInt + 3 := t_v_4
      refine tg_iald (lo := (-2147483648)) (hi := 2147483647) hx hb hK hw h_vu_1 rfl 177 385 r_v_4 (by decide) (by decide +kernel) dX10_holds_349 (fun v_5 r_v_5 m_v_5 o_v_5 => ?_)
      refine lv_bipush (v := 61) hx hb dX10_holds_350 (by decide) ?_
      refine lv_icmp_ne (tgt := 370) hx hb dX10_holds_352 (by decide) (fun c_352 => ?_) (fun c_352 => ?_)
      · refine lv_iload hx hb dX10_holds_370 (lv_at hl 0 rfl) ?_
        refine lv_iload hx hb dX10_holds_372 (lv_at hl 6 rfl) ?_
        refine lv_icmp_le (tgt := 381) hx hb dX10_holds_374 (by decide) (fun c_374 => ?_) (fun c_374 => ?_)
        · refine lv_iconst (v := 0) hx hb dX10_holds_381 (by decide) ?_
          subst hQ
          exact W.zret (v := 0) hx hb hr (rfl) (fun t ht hW => ⟨⟨0, (), rfl, ⟨rl_0.to (by decide), (fun h0 => trivial), (fun _ => trivial)⟩, by rw [ht]; exact hw.2.1, va_K.moved hW.alike hK, hw.2.2.1⟩, hw.2.2.2.1.F ht⟩) hw.2.2.2.1.2.2 dX10_holds_382
        · have r_x5 : RI x5 (-2147483648) 2147483646 := rc_lt1 r_x5 r_y0 (ti_nle c_374) (by decide)
          have r_y0 : RI y0 (-2147483647) 2147483647 := rc_lt2 r_x5 r_y0 (ti_nle c_374) (by decide)
          refine lv_iconst (v := 1) hx hb dX10_holds_377 (by decide) ?_
          refine lv_goto (tgt := 382) hx hb dX10_holds_378 (by decide) ?_
          subst hQ
          exact W.zret (v := 1) hx hb hr (rfl) (fun t ht hW => ⟨⟨1, (), rfl, ⟨rl_1.to (by decide), (fun _ => trivial), (fun h0 => trivial)⟩, by rw [ht]; exact hw.2.1, va_K.moved hW.alike hK, hw.2.2.1⟩, hw.2.2.2.1.F ht⟩) hw.2.2.2.1.2.2 dX10_holds_382
      · have r_v_5 : RI v_5 61 61 := rc_eq1 r_v_5 rl_61 (ti_eq c_352) (by decide)
        refine lv_iload hx hb dX10_holds_355 (lv_at hl 0 rfl) ?_
        refine lv_iload hx hb dX10_holds_357 (lv_at hl 6 rfl) ?_
        refine lv_icmp_ne (tgt := 366) hx hb dX10_holds_359 (by decide) (fun c_359 => ?_) (fun c_359 => ?_)
        · refine lv_iconst (v := 0) hx hb dX10_holds_366 (by decide) ?_
          refine lv_goto (tgt := 382) hx hb dX10_holds_367 (by decide) ?_
          subst hQ
          exact W.zret (v := 0) hx hb hr (rfl) (fun t ht hW => ⟨⟨0, (), rfl, ⟨rl_0.to (by decide), (fun h0 => trivial), (fun _ => trivial)⟩, by rw [ht]; exact hw.2.1, va_K.moved hW.alike hK, hw.2.2.1⟩, hw.2.2.2.1.F ht⟩) hw.2.2.2.1.2.2 dX10_holds_382
        · refine lv_iconst (v := 1) hx hb dX10_holds_362 (by decide) ?_
          refine lv_goto (tgt := 382) hx hb dX10_holds_363 (by decide) ?_
          subst hQ
          exact W.zret (v := 1) hx hb hr (rfl) (fun t ht hW => ⟨⟨1, (), rfl, ⟨rl_1.to (by decide), (fun _ => trivial), (fun h0 => trivial)⟩, by rw [ht]; exact hw.2.1, va_K.moved hW.alike hK, hw.2.2.1⟩, hw.2.2.2.1.F ht⟩) hw.2.2.2.1.2.2 dX10_holds_382
    · have r_v_3 : RI v_3 60 60 := rc_eq1 r_v_3 rl_60 (ti_eq c_324) (by decide)
      refine lv_iload hx hb dX10_holds_327 (lv_at hl 0 rfl) ?_
      refine lv_iload hx hb dX10_holds_329 (lv_at hl 6 rfl) ?_
      refine lv_icmp_ge (tgt := 338) hx hb dX10_holds_331 (by decide) (fun c_331 => ?_) (fun c_331 => ?_)
      · refine lv_iconst (v := 0) hx hb dX10_holds_338 (by decide) ?_
        refine lv_goto (tgt := 382) hx hb dX10_holds_339 (by decide) ?_
        subst hQ
        exact W.zret (v := 0) hx hb hr (rfl) (fun t ht hW => ⟨⟨0, (), rfl, ⟨rl_0.to (by decide), (fun h0 => trivial), (fun _ => trivial)⟩, by rw [ht]; exact hw.2.1, va_K.moved hW.alike hK, hw.2.2.1⟩, hw.2.2.2.1.F ht⟩) hw.2.2.2.1.2.2 dX10_holds_382
      · have r_y0 : RI y0 (-2147483648) 2147483646 := rc_lt1 r_y0 r_x5 (ti_nle c_331) (by decide)
        have r_x5 : RI x5 (-2147483647) 2147483647 := rc_lt2 r_y0 r_x5 (ti_nle c_331) (by decide)
        refine lv_iconst (v := 1) hx hb dX10_holds_334 (by decide) ?_
        refine lv_goto (tgt := 382) hx hb dX10_holds_335 (by decide) ?_
        subst hQ
        exact W.zret (v := 1) hx hb hr (rfl) (fun t ht hW => ⟨⟨1, (), rfl, ⟨rl_1.to (by decide), (fun _ => trivial), (fun h0 => trivial)⟩, by rw [ht]; exact hw.2.1, va_K.moved hW.alike hK, hw.2.2.1⟩, hw.2.2.2.1.F ht⟩) hw.2.2.2.1.2.2 dX10_holds_382
  refine lv_sipush (v := 174) hx hb dX10_holds_0 (by decide) ?_
  refine lv_iconst (v := 4) hx hb dX10_holds_3 (by decide) ?_
  refine lv_iload_n hx hb dX10_holds_4 rfl (lv_at hl 1 rfl) ?_
  refine lv_imul hx hb dX10_holds_5 (lv_topi (fun v_6 e_v_6 => ?_))
  obtain ⟨t_v_6, r_v_6⟩ := tq_mul (lo := 0) (hi := 208) rl_4 r_p1 (by decide +kernel) e_v_6
  have t_v_6 : v_6.toInt = 4 * p1.toInt := t_v_6
  refine lv_iadd hx hb dX10_holds_6 (lv_topi (fun v_7 e_v_7 => ?_))
  obtain ⟨t_v_7, r_v_7⟩ := tq_add (lo := 174) (hi := 382) rl_174 r_v_6 (by decide +kernel) e_v_7
  have t_v_7 : v_7.toInt = 174 + v_6.toInt := t_v_7
  refine lv_istore_n (lv' := [(3, .int v_7), (0, .ref p0), (1, .int p1), (2, .int p2)]) hx hb dX10_holds_7 rfl hl (by decide) rfl (fun ls hl => ?_)
  refine lv_aload_n hx hb dX10_holds_8 rfl (lv_at hl 1 rfl) ?_
  refine tg_get (ci := 10) (ts := ty_MODEL) (C := RX10) (T := TX10) (N := 49) hx hb hts inX10 hown hK hw h_p0 rfl rfl 14 (by decide) (hts _ tw_1151) (fun _ h9 => h9) (ft := vR 34) rfl dX10_holds_9 (fun u_8 hv_u_8 m_u_8 => ?_)
  obtain ⟨vu_8, rfl, h_vu_8⟩ := hv_u_8
  refine lv_iload_n hx hb dX10_holds_12 rfl (lv_at hl 0 rfl) ?_
  refine lv_iconst (v := 1) hx hb dX10_holds_13 (by decide) ?_
  refine lv_iadd hx hb dX10_holds_14 (lv_topi (fun v_9 e_v_9 => ?_))
  obtain ⟨t_v_9, r_v_9⟩ := tq_add (lo := 175) (hi := 383) r_v_7 rl_1 (by decide +kernel) e_v_9
  have t_v_9 : v_9.toInt = v_7.toInt + 1 := t_v_9
  refine tg_iald (lo := (-2147483648)) (hi := 2147483647) hx hb hK hw h_vu_8 rfl 175 383 r_v_9 (by decide) (by decide +kernel) dX10_holds_15 (fun v_10 r_v_10 m_v_10 o_v_10 => ?_)
  refine lv_istore (lv' := [(4, .int v_10), (3, .int v_7), (0, .ref p0), (1, .int p1), (2, .int p2)]) hx hb dX10_holds_16 hl (by decide) rfl (fun ls hl => ?_)
  refine lv_aload_n hx hb dX10_holds_18 rfl (lv_at hl 2 rfl) ?_
  refine tg_mem (ci := 10) (C := RX10) (T := TX10) (N := 49) hx hb hts inX10 hown hK hw 14 m_u_8 rfl (by decide) (hts _ tw_1151) (fun _ h9 => h9) dX10_holds_19 ?_
  refine lv_iload_n hx hb dX10_holds_22 rfl (lv_at hl 1 rfl) ?_
  refine lv_iconst (v := 2) hx hb dX10_holds_23 (by decide) ?_
  refine lv_iadd hx hb dX10_holds_24 (lv_topi (fun v_11 e_v_11 => ?_))
  obtain ⟨t_v_11, r_v_11⟩ := tq_add (lo := 176) (hi := 384) r_v_7 rl_2 (by decide +kernel) e_v_11
  have t_v_11 : v_11.toInt = v_7.toInt + 2 := t_v_11
  refine tg_iald (lo := (-2147483648)) (hi := 2147483647) hx hb hK hw h_vu_8 rfl 176 384 r_v_11 (by decide) (by decide +kernel) dX10_holds_25 (fun v_12 r_v_12 m_v_12 o_v_12 => ?_)
  refine lv_istore (lv' := [(5, .int v_12), (4, .int v_10), (3, .int v_7), (0, .ref p0), (1, .int p1), (2, .int p2)]) hx hb dX10_holds_26 hl (by decide) rfl (fun ls hl => ?_)
  refine lv_aload_n hx hb dX10_holds_28 rfl (lv_at hl 3 rfl) ?_
  refine tg_mem (ci := 10) (C := RX10) (T := TX10) (N := 49) hx hb hts inX10 hown hK hw 14 m_u_8 rfl (by decide) (hts _ tw_1151) (fun _ h9 => h9) dX10_holds_29 ?_
  refine lv_iload_n hx hb dX10_holds_32 rfl (lv_at hl 2 rfl) ?_
  refine tg_iald (lo := (-2147483648)) (hi := 2147483647) hx hb hK hw h_vu_8 rfl 174 382 r_v_7 (by decide) (by decide +kernel) dX10_holds_33 (fun v_13 r_v_13 m_v_13 o_v_13 => ?_)
  by_cases k_34_1 : v_13 = 1
  · refine lv_lookup (tgt := 108) (off := 74) hx hb dX10_holds_34 (by decide) (by rw [k_34_1]; decide) (by decide) ?_
    have r_v_13 : RI v_13 1 1 := by rw [k_34_1]; exact rl_1
    have g_v_10 : 0 ≤ v_10.toInt ∧ v_10.toInt < p1.toInt := by obtain ⟨_, f9, e8, e7, q9, _⟩ := ax_of (k := 14) (t := 34) hw h_p0 rfl (fun _ => rfl); cases FLD.inj hw.2.2.1 e8 m_u_8; have t9 := ARR.ael hw.2.2.1 e7 m_v_13; have x9 := ARR.ael hw.2.2.1 e7 m_v_10; rw [show Int32.toNatClampNeg v_7 = 174 + 4 * Int32.toNatClampNeg p1 from (by have k1 := r_v_7.cl (by decide); have k2 := r_p1.cl (by decide); omega)] at t9; rw [show Int32.toNatClampNeg v_9 = 175 + 4 * Int32.toNatClampNeg p1 from (by have k1 := r_v_9.cl (by decide); have k2 := r_p1.cl (by decide); omega)] at x9; exact RN_child q9 (r_p1.to (by decide)) t9 x9 (r_v_13.to (by decide))
    have r_v_10 : RI v_10 0 51 := ⟨g_v_10.1, by have k1 := r_p1.2; omega⟩
    refine lv_aload_n hx hb dX10_holds_108 rfl (lv_at hl 3 rfl) ?_
    refine lv_iload hx hb dX10_holds_109 (lv_at hl 1 rfl) ?_
    refine lv_iload_n hx hb dX10_holds_111 rfl (lv_at hl 5 rfl) ?_
    refine tk_ir (va_runV (As := [.int v_10, .int p2]) (rest := []) ⟨hx, hb, hml, hown, hts⟩ (c_X10_holds__8 l D cy z s.heap.size Ps w0 hw.1 p0 v_10 p2 h_p0 r_v_10 r_p2) (cwV 2 hts (gV tw_1787 tw_1789 ts_119 tw_15 tw_1790) rfl rfl rfl (by decide +kernel) ⟨Nat.le_of_ble_eq_true rfl, Nat.le_of_ble_eq_true rfl⟩) (tg_preV hw hK hSD hA (ci := 10) (q := (RX10, TX10, 49)) rfl h_p0 rfl) rfl rfl hl.1 rfl (lv_room (Nat.le_of_ble_eq_true rfl)) dX10_holds_112 ⟨Nat.le_of_ble_eq_true rfl, Nat.le_of_ble_eq_true rfl⟩) hw hA (fun v_14  H locs hp_v_14 hw => ?_)
    have r_v_14 : RI v_14 0 1 := hp_v_14.1
    refine lv_if_ne (tgt := 122) hx hb dX10_holds_115 (by decide) (fun c_115 => ?_) (fun c_115 => ?_)
    · have r_v_14 : RI v_14 1 1 := rc_neL r_v_14 rl_0 (ti_ne c_115) (by decide)
      refine lv_iconst (v := 0) hx hb dX10_holds_122 (by decide) ?_
      subst hQ
      exact W.zret (v := 0) hx hb hr (rfl) (fun t ht hW => ⟨⟨0, (), rfl, ⟨rl_0.to (by decide), (fun h0 => trivial), (fun _ => trivial)⟩, by rw [ht]; exact hw.2.1, va_K.moved hW.alike hK, hw.2.2.1⟩, hw.2.2.2.1.F ht⟩) hw.2.2.2.1.2.2 dX10_holds_123
    · have r_v_14 : RI v_14 0 0 := rc_eq1 r_v_14 rl_0 (ti_eq c_115) (by decide)
      refine lv_iconst (v := 1) hx hb dX10_holds_118 (by decide) ?_
      refine lv_goto (tgt := 123) hx hb dX10_holds_119 (by decide) ?_
      subst hQ
      exact W.zret (v := 1) hx hb hr (rfl) (fun t ht hW => ⟨⟨1, (), rfl, ⟨rl_1.to (by decide), (fun _ => trivial), (fun h0 => trivial)⟩, by rw [ht]; exact hw.2.1, va_K.moved hW.alike hK, hw.2.2.1⟩, hw.2.2.2.1.F ht⟩) hw.2.2.2.1.2.2 dX10_holds_123
  · by_cases k_34_2 : v_13 = 2
    · refine lv_lookup (tgt := 124) (off := 90) hx hb dX10_holds_34 (by decide) (by rw [k_34_2]; decide) (by decide) ?_
      have r_v_13 : RI v_13 2 2 := by rw [k_34_2]; exact rl_2
      have g_v_10 : 0 ≤ v_10.toInt ∧ v_10.toInt < p1.toInt := by obtain ⟨_, f9, e8, e7, q9, _⟩ := ax_of (k := 14) (t := 34) hw h_p0 rfl (fun _ => rfl); cases FLD.inj hw.2.2.1 e8 m_u_8; have t9 := ARR.ael hw.2.2.1 e7 m_v_13; have x9 := ARR.ael hw.2.2.1 e7 m_v_10; rw [show Int32.toNatClampNeg v_7 = 174 + 4 * Int32.toNatClampNeg p1 from (by have k1 := r_v_7.cl (by decide); have k2 := r_p1.cl (by decide); omega)] at t9; rw [show Int32.toNatClampNeg v_9 = 175 + 4 * Int32.toNatClampNeg p1 from (by have k1 := r_v_9.cl (by decide); have k2 := r_p1.cl (by decide); omega)] at x9; exact RN_child q9 (r_p1.to (by decide)) t9 x9 (r_v_13.to (by decide))
      have r_v_10 : RI v_10 0 51 := ⟨g_v_10.1, by have k1 := r_p1.2; omega⟩
      have g_v_12 : 0 ≤ v_12.toInt ∧ v_12.toInt < p1.toInt := by obtain ⟨_, f9, e8, e7, q9, _⟩ := ax_of (k := 14) (t := 34) hw h_p0 rfl (fun _ => rfl); cases FLD.inj hw.2.2.1 e8 m_u_8; have t9 := ARR.ael hw.2.2.1 e7 m_v_13; have x9 := ARR.ael hw.2.2.1 e7 m_v_12; rw [show Int32.toNatClampNeg v_7 = 174 + 4 * Int32.toNatClampNeg p1 from (by have k1 := r_v_7.cl (by decide); have k2 := r_p1.cl (by decide); omega)] at t9; rw [show Int32.toNatClampNeg v_11 = 176 + 4 * Int32.toNatClampNeg p1 from (by have k1 := r_v_11.cl (by decide); have k2 := r_p1.cl (by decide); omega)] at x9; exact RN_child2 q9 (r_p1.to (by decide)) t9 x9 (r_v_13.to (by decide))
      have r_v_12 : RI v_12 0 51 := ⟨g_v_12.1, by have k1 := r_p1.2; omega⟩
      refine lv_aload_n hx hb dX10_holds_124 rfl (lv_at hl 3 rfl) ?_
      refine lv_iload hx hb dX10_holds_125 (lv_at hl 1 rfl) ?_
      refine lv_iload_n hx hb dX10_holds_127 rfl (lv_at hl 5 rfl) ?_
      refine tk_ir (va_runV (As := [.int v_10, .int p2]) (rest := []) ⟨hx, hb, hml, hown, hts⟩ (c_X10_holds__8 l D cy z s.heap.size Ps w0 hw.1 p0 v_10 p2 h_p0 r_v_10 r_p2) (cwV 2 hts (gV tw_1787 tw_1789 ts_119 tw_15 tw_1790) rfl rfl rfl (by decide +kernel) ⟨Nat.le_of_ble_eq_true rfl, Nat.le_of_ble_eq_true rfl⟩) (tg_preV hw hK hSD hA (ci := 10) (q := (RX10, TX10, 49)) rfl h_p0 rfl) rfl rfl hl.1 rfl (lv_room (Nat.le_of_ble_eq_true rfl)) dX10_holds_128 ⟨Nat.le_of_ble_eq_true rfl, Nat.le_of_ble_eq_true rfl⟩) hw hA (fun v_15  H locs hp_v_15 hw => ?_)
      have r_v_15 : RI v_15 0 1 := hp_v_15.1
      refine lv_if_eq (tgt := 148) hx hb dX10_holds_131 (by decide) (fun c_131 => ?_) (fun c_131 => ?_)
      · have r_v_15 : RI v_15 0 0 := rc_eq1 r_v_15 rl_0 (ti_eq c_131) (by decide)
        refine lv_iconst (v := 0) hx hb dX10_holds_148 (by decide) ?_
        subst hQ
        exact W.zret (v := 0) hx hb hr (rfl) (fun t ht hW => ⟨⟨0, (), rfl, ⟨rl_0.to (by decide), (fun h0 => trivial), (fun _ => trivial)⟩, by rw [ht]; exact hw.2.1, va_K.moved hW.alike hK, hw.2.2.1⟩, hw.2.2.2.1.F ht⟩) hw.2.2.2.1.2.2 dX10_holds_149
      · have r_v_15 : RI v_15 1 1 := rc_neL r_v_15 rl_0 (ti_ne c_131) (by decide)
        refine lv_aload_n hx hb dX10_holds_134 rfl (lv_at hl 3 rfl) ?_
        refine lv_iload hx hb dX10_holds_135 (lv_at hl 0 rfl) ?_
        refine lv_iload_n hx hb dX10_holds_137 rfl (lv_at hl 5 rfl) ?_
        refine tk_ir (va_runV (As := [.int v_12, .int p2]) (rest := []) ⟨hx, hb, hml, hown, hts⟩ (c_X10_holds__8 l D cy z H.size Ps w0 hw.1 p0 v_12 p2 h_p0 r_v_12 r_p2) (cwV 2 hts (gV tw_1787 tw_1789 ts_119 tw_15 tw_1790) rfl rfl rfl (by decide +kernel) ⟨Nat.le_of_ble_eq_true rfl, Nat.le_of_ble_eq_true rfl⟩) (tg_preV hw hK hSD hA (ci := 10) (q := (RX10, TX10, 49)) rfl h_p0 rfl) rfl rfl hl.1 rfl (lv_room (Nat.le_of_ble_eq_true rfl)) dX10_holds_138 ⟨Nat.le_of_ble_eq_true rfl, Nat.le_of_ble_eq_true rfl⟩) hw hA (fun v_16  H locs hp_v_16 hw => ?_)
        have r_v_16 : RI v_16 0 1 := hp_v_16.1
        refine lv_if_eq (tgt := 148) hx hb dX10_holds_141 (by decide) (fun c_141 => ?_) (fun c_141 => ?_)
        · have r_v_16 : RI v_16 0 0 := rc_eq1 r_v_16 rl_0 (ti_eq c_141) (by decide)
          refine lv_iconst (v := 0) hx hb dX10_holds_148 (by decide) ?_
          subst hQ
          exact W.zret (v := 0) hx hb hr (rfl) (fun t ht hW => ⟨⟨0, (), rfl, ⟨rl_0.to (by decide), (fun h0 => trivial), (fun _ => trivial)⟩, by rw [ht]; exact hw.2.1, va_K.moved hW.alike hK, hw.2.2.1⟩, hw.2.2.2.1.F ht⟩) hw.2.2.2.1.2.2 dX10_holds_149
        · have r_v_16 : RI v_16 1 1 := rc_neL r_v_16 rl_0 (ti_ne c_141) (by decide)
          refine lv_iconst (v := 1) hx hb dX10_holds_144 (by decide) ?_
          refine lv_goto (tgt := 149) hx hb dX10_holds_145 (by decide) ?_
          subst hQ
          exact W.zret (v := 1) hx hb hr (rfl) (fun t ht hW => ⟨⟨1, (), rfl, ⟨rl_1.to (by decide), (fun _ => trivial), (fun h0 => trivial)⟩, by rw [ht]; exact hw.2.1, va_K.moved hW.alike hK, hw.2.2.1⟩, hw.2.2.2.1.F ht⟩) hw.2.2.2.1.2.2 dX10_holds_149
    · by_cases k_34_3 : v_13 = 3
      · refine lv_lookup (tgt := 150) (off := 116) hx hb dX10_holds_34 (by decide) (by rw [k_34_3]; decide) (by decide) ?_
        have r_v_13 : RI v_13 3 3 := by rw [k_34_3]; exact rl_3
        have g_v_10 : 0 ≤ v_10.toInt ∧ v_10.toInt < p1.toInt := by obtain ⟨_, f9, e8, e7, q9, _⟩ := ax_of (k := 14) (t := 34) hw h_p0 rfl (fun _ => rfl); cases FLD.inj hw.2.2.1 e8 m_u_8; have t9 := ARR.ael hw.2.2.1 e7 m_v_13; have x9 := ARR.ael hw.2.2.1 e7 m_v_10; rw [show Int32.toNatClampNeg v_7 = 174 + 4 * Int32.toNatClampNeg p1 from (by have k1 := r_v_7.cl (by decide); have k2 := r_p1.cl (by decide); omega)] at t9; rw [show Int32.toNatClampNeg v_9 = 175 + 4 * Int32.toNatClampNeg p1 from (by have k1 := r_v_9.cl (by decide); have k2 := r_p1.cl (by decide); omega)] at x9; exact RN_child q9 (r_p1.to (by decide)) t9 x9 (r_v_13.to (by decide))
        have r_v_10 : RI v_10 0 51 := ⟨g_v_10.1, by have k1 := r_p1.2; omega⟩
        have g_v_12 : 0 ≤ v_12.toInt ∧ v_12.toInt < p1.toInt := by obtain ⟨_, f9, e8, e7, q9, _⟩ := ax_of (k := 14) (t := 34) hw h_p0 rfl (fun _ => rfl); cases FLD.inj hw.2.2.1 e8 m_u_8; have t9 := ARR.ael hw.2.2.1 e7 m_v_13; have x9 := ARR.ael hw.2.2.1 e7 m_v_12; rw [show Int32.toNatClampNeg v_7 = 174 + 4 * Int32.toNatClampNeg p1 from (by have k1 := r_v_7.cl (by decide); have k2 := r_p1.cl (by decide); omega)] at t9; rw [show Int32.toNatClampNeg v_11 = 176 + 4 * Int32.toNatClampNeg p1 from (by have k1 := r_v_11.cl (by decide); have k2 := r_p1.cl (by decide); omega)] at x9; exact RN_child2 q9 (r_p1.to (by decide)) t9 x9 (r_v_13.to (by decide))
        have r_v_12 : RI v_12 0 51 := ⟨g_v_12.1, by have k1 := r_p1.2; omega⟩
        refine lv_aload_n hx hb dX10_holds_150 rfl (lv_at hl 3 rfl) ?_
        refine lv_iload hx hb dX10_holds_151 (lv_at hl 1 rfl) ?_
        refine lv_iload_n hx hb dX10_holds_153 rfl (lv_at hl 5 rfl) ?_
        refine tk_ir (va_runV (As := [.int v_10, .int p2]) (rest := []) ⟨hx, hb, hml, hown, hts⟩ (c_X10_holds__8 l D cy z s.heap.size Ps w0 hw.1 p0 v_10 p2 h_p0 r_v_10 r_p2) (cwV 2 hts (gV tw_1787 tw_1789 ts_119 tw_15 tw_1790) rfl rfl rfl (by decide +kernel) ⟨Nat.le_of_ble_eq_true rfl, Nat.le_of_ble_eq_true rfl⟩) (tg_preV hw hK hSD hA (ci := 10) (q := (RX10, TX10, 49)) rfl h_p0 rfl) rfl rfl hl.1 rfl (lv_room (Nat.le_of_ble_eq_true rfl)) dX10_holds_154 ⟨Nat.le_of_ble_eq_true rfl, Nat.le_of_ble_eq_true rfl⟩) hw hA (fun v_17  H locs hp_v_17 hw => ?_)
        have r_v_17 : RI v_17 0 1 := hp_v_17.1
        refine lv_if_ne (tgt := 170) hx hb dX10_holds_157 (by decide) (fun c_157 => ?_) (fun c_157 => ?_)
        · have r_v_17 : RI v_17 1 1 := rc_neL r_v_17 rl_0 (ti_ne c_157) (by decide)
          refine lv_iconst (v := 1) hx hb dX10_holds_170 (by decide) ?_
          refine lv_goto (tgt := 175) hx hb dX10_holds_171 (by decide) ?_
          subst hQ
          exact W.zret (v := 1) hx hb hr (rfl) (fun t ht hW => ⟨⟨1, (), rfl, ⟨rl_1.to (by decide), (fun _ => trivial), (fun h0 => trivial)⟩, by rw [ht]; exact hw.2.1, va_K.moved hW.alike hK, hw.2.2.1⟩, hw.2.2.2.1.F ht⟩) hw.2.2.2.1.2.2 dX10_holds_175
        · have r_v_17 : RI v_17 0 0 := rc_eq1 r_v_17 rl_0 (ti_eq c_157) (by decide)
          refine lv_aload_n hx hb dX10_holds_160 rfl (lv_at hl 3 rfl) ?_
          refine lv_iload hx hb dX10_holds_161 (lv_at hl 0 rfl) ?_
          refine lv_iload_n hx hb dX10_holds_163 rfl (lv_at hl 5 rfl) ?_
          refine tk_ir (va_runV (As := [.int v_12, .int p2]) (rest := []) ⟨hx, hb, hml, hown, hts⟩ (c_X10_holds__8 l D cy z H.size Ps w0 hw.1 p0 v_12 p2 h_p0 r_v_12 r_p2) (cwV 2 hts (gV tw_1787 tw_1789 ts_119 tw_15 tw_1790) rfl rfl rfl (by decide +kernel) ⟨Nat.le_of_ble_eq_true rfl, Nat.le_of_ble_eq_true rfl⟩) (tg_preV hw hK hSD hA (ci := 10) (q := (RX10, TX10, 49)) rfl h_p0 rfl) rfl rfl hl.1 rfl (lv_room (Nat.le_of_ble_eq_true rfl)) dX10_holds_164 ⟨Nat.le_of_ble_eq_true rfl, Nat.le_of_ble_eq_true rfl⟩) hw hA (fun v_18  H locs hp_v_18 hw => ?_)
          have r_v_18 : RI v_18 0 1 := hp_v_18.1
          refine lv_if_eq (tgt := 174) hx hb dX10_holds_167 (by decide) (fun c_167 => ?_) (fun c_167 => ?_)
          · have r_v_18 : RI v_18 0 0 := rc_eq1 r_v_18 rl_0 (ti_eq c_167) (by decide)
            refine lv_iconst (v := 0) hx hb dX10_holds_174 (by decide) ?_
            subst hQ
            exact W.zret (v := 0) hx hb hr (rfl) (fun t ht hW => ⟨⟨0, (), rfl, ⟨rl_0.to (by decide), (fun h0 => trivial), (fun _ => trivial)⟩, by rw [ht]; exact hw.2.1, va_K.moved hW.alike hK, hw.2.2.1⟩, hw.2.2.2.1.F ht⟩) hw.2.2.2.1.2.2 dX10_holds_175
          · have r_v_18 : RI v_18 1 1 := rc_neL r_v_18 rl_0 (ti_ne c_167) (by decide)
            refine lv_iconst (v := 1) hx hb dX10_holds_170 (by decide) ?_
            refine lv_goto (tgt := 175) hx hb dX10_holds_171 (by decide) ?_
            subst hQ
            exact W.zret (v := 1) hx hb hr (rfl) (fun t ht hW => ⟨⟨1, (), rfl, ⟨rl_1.to (by decide), (fun _ => trivial), (fun h0 => trivial)⟩, by rw [ht]; exact hw.2.1, va_K.moved hW.alike hK, hw.2.2.1⟩, hw.2.2.2.1.F ht⟩) hw.2.2.2.1.2.2 dX10_holds_175
      · by_cases k_34_69 : v_13 = 69
        · refine lv_lookup (tgt := 176) (off := 142) hx hb dX10_holds_34 (by decide) (by rw [k_34_69]; decide) (by decide) ?_
          have r_v_13 : RI v_13 69 69 := by rw [k_34_69]; exact rl_69
          refine lv_aload_n hx hb dX10_holds_176 rfl (lv_at hl 3 rfl) ?_
          refine lv_iload_n hx hb dX10_holds_177 rfl (lv_at hl 5 rfl) ?_
          refine tk_ir (va_runV (As := [.int p2]) (rest := []) ⟨hx, hb, hml, hown, hts⟩ (c_X10_isOpen l D cy z s.heap.size Ps w0 hw.1 p0 p2 h_p0 (r_p2.to (by decide))) (cwV 1 hts (gV tw_1457 tw_1459 ts_71 tw_15 tw_1460) rfl rfl rfl (by decide +kernel) ⟨Nat.le_of_ble_eq_true rfl, Nat.le_of_ble_eq_true rfl⟩) (tg_preV hw hK hSD hA (ci := 10) (q := (RX10, TX10, 49)) rfl h_p0 rfl) rfl rfl hl.1 rfl (lv_room (Nat.le_of_ble_eq_true rfl)) dX10_holds_178 ⟨Nat.le_of_ble_eq_true rfl, Nat.le_of_ble_eq_true rfl⟩) hw hA (fun v_19  H locs hp_v_19 hw => ?_)
          have r_v_19 : RI v_19 0 1 := hp_v_19.1
          subst hQ
          exact W.zret (v := v_19) hx hb hr (tq_nz (r_v_19.to (by decide))) (fun t ht hW => ⟨⟨v_19, (), rfl, ⟨r_v_19.to (by decide), (fun h0 => trivial), (fun h0 => trivial)⟩, by rw [ht]; exact hw.2.1, va_K.moved hW.alike hK, hw.2.2.1⟩, hw.2.2.2.1.F ht⟩) hw.2.2.2.1.2.2 dX10_holds_181
        · by_cases k_34_70 : v_13 = 70
          · refine lv_lookup (tgt := 182) (off := 148) hx hb dX10_holds_34 (by decide) (by rw [k_34_70]; decide) (by decide) ?_
            have r_v_13 : RI v_13 70 70 := by rw [k_34_70]; exact rl_70
            refine lv_aload_n hx hb dX10_holds_182 rfl (lv_at hl 3 rfl) ?_
            refine lv_iload_n hx hb dX10_holds_183 rfl (lv_at hl 5 rfl) ?_
            refine tk_ir (va_runV (As := [.int p2]) (rest := []) ⟨hx, hb, hml, hown, hts⟩ (c_X10_whatIs l D cy z s.heap.size Ps w0 hw.1 p0 p2 h_p0 r_p2) (cwV 1 hts (gV tw_1449 tw_1451 ts_69 tw_15 tw_1452) rfl rfl rfl (by decide +kernel) ⟨Nat.le_of_ble_eq_true rfl, Nat.le_of_ble_eq_true rfl⟩) (tg_preV hw hK hSD hA (ci := 10) (q := (RX10, TX10, 49)) rfl h_p0 rfl) rfl rfl hl.1 rfl (lv_room (Nat.le_of_ble_eq_true rfl)) dX10_holds_184 ⟨Nat.le_of_ble_eq_true rfl, Nat.le_of_ble_eq_true rfl⟩) hw hA (fun v_20  H locs hp_v_20 hw => ?_)
            have r_v_20 : RI v_20 (-1) 5 := hp_v_20.1
            by_cases c9_v_20 : v_20.toInt < 0
            · have r_v_20 : RI v_20 (-1) (-1) := by unfold RI at r_v_20 ⊢; omega
              have x_NB_p0_p2 := (hp_v_20.2.2.2.2.1 (by omega)).1
              refine lv_iconst (v := (-1)) hx hb dX10_holds_187 (by decide) ?_
              refine lv_icmp_ne (tgt := 195) hx hb dX10_holds_188 (by decide) (fun c_188 => ?_) (fun c_188 => ?_)
              · exact absurd (r_v_20.eq.trans rl_m1.eq.symm) ((ti_ne c_188))
              · refine lv_iconst (v := 1) hx hb dX10_holds_191 (by decide) ?_
                refine lv_goto (tgt := 196) hx hb dX10_holds_192 (by decide) ?_
                subst hQ
                exact W.zret (v := 1) hx hb hr (rfl) (fun t ht hW => ⟨⟨1, (), rfl, ⟨rl_1.to (by decide), (fun _ => trivial), (fun h0 => trivial)⟩, by rw [ht]; exact hw.2.1, va_K.moved hW.alike hK, hw.2.2.1⟩, hw.2.2.2.1.F ht⟩) hw.2.2.2.1.2.2 dX10_holds_196
            · have r_v_20 : RI v_20 0 5 := by unfold RI at r_v_20 ⊢; omega
              have x_WB_p0_p2_v_20 := (hp_v_20.2.2.2.2.2 (by omega)).1
              refine lv_iconst (v := (-1)) hx hb dX10_holds_187 (by decide) ?_
              refine lv_icmp_ne (tgt := 195) hx hb dX10_holds_188 (by decide) (fun c_188 => ?_) (fun c_188 => ?_)
              · refine lv_iconst (v := 0) hx hb dX10_holds_195 (by decide) ?_
                subst hQ
                exact W.zret (v := 0) hx hb hr (rfl) (fun t ht hW => ⟨⟨0, (), rfl, ⟨rl_0.to (by decide), (fun h0 => trivial), (fun _ => trivial)⟩, by rw [ht]; exact hw.2.1, va_K.moved hW.alike hK, hw.2.2.1⟩, hw.2.2.2.1.F ht⟩) hw.2.2.2.1.2.2 dX10_holds_196
              · have r_v_20 : RI v_20 0 (-1) := rc_eq1 r_v_20 rl_m1 (ti_eq c_188) (by decide)
                exact (r_v_20.no (by decide)).elim
          · by_cases k_34_71 : v_13 = 71
            · refine lv_lookup (tgt := 197) (off := 163) hx hb dX10_holds_34 (by decide) (by rw [k_34_71]; decide) (by decide) ?_
              have r_v_13 : RI v_13 71 71 := by rw [k_34_71]; exact rl_71
              refine lv_aload_n hx hb dX10_holds_197 rfl (lv_at hl 3 rfl) ?_
              refine lv_iload_n hx hb dX10_holds_198 rfl (lv_at hl 5 rfl) ?_
              refine tk_ir (va_runV (As := [.int p2]) (rest := []) ⟨hx, hb, hml, hown, hts⟩ (c_X10_sittersOf l D cy z s.heap.size Ps w0 hw.1 p0 p2 h_p0 (r_p2.to (by decide))) (cwV 1 hts (gV tw_1461 tw_1463 ts_72 tw_15 tw_1464) rfl rfl rfl (by decide +kernel) ⟨Nat.le_of_ble_eq_true rfl, Nat.le_of_ble_eq_true rfl⟩) (tg_preV hw hK hSD hA (ci := 10) (q := (RX10, TX10, 49)) rfl h_p0 rfl) rfl rfl hl.1 rfl (lv_room (Nat.le_of_ble_eq_true rfl)) dX10_holds_199 ⟨Nat.le_of_ble_eq_true rfl, Nat.le_of_ble_eq_true rfl⟩) hw hA (fun v_21  H locs hp_v_21 hw => ?_)
              have r_v_21 : RI v_21 (-2147483648) 2147483647 := hp_v_21.1
              refine lv_if_eq (tgt := 209) hx hb dX10_holds_202 (by decide) (fun c_202 => ?_) (fun c_202 => ?_)
              · have r_v_21 : RI v_21 0 0 := rc_eq1 r_v_21 rl_0 (ti_eq c_202) (by decide)
                refine lv_iconst (v := 0) hx hb dX10_holds_209 (by decide) ?_
                subst hQ
                exact W.zret (v := 0) hx hb hr (rfl) (fun t ht hW => ⟨⟨0, (), rfl, ⟨rl_0.to (by decide), (fun h0 => trivial), (fun _ => trivial)⟩, by rw [ht]; exact hw.2.1, va_K.moved hW.alike hK, hw.2.2.1⟩, hw.2.2.2.1.F ht⟩) hw.2.2.2.1.2.2 dX10_holds_210
              · refine lv_iconst (v := 1) hx hb dX10_holds_205 (by decide) ?_
                refine lv_goto (tgt := 210) hx hb dX10_holds_206 (by decide) ?_
                subst hQ
                exact W.zret (v := 1) hx hb hr (rfl) (fun t ht hW => ⟨⟨1, (), rfl, ⟨rl_1.to (by decide), (fun _ => trivial), (fun h0 => trivial)⟩, by rw [ht]; exact hw.2.1, va_K.moved hW.alike hK, hw.2.2.1⟩, hw.2.2.2.1.F ht⟩) hw.2.2.2.1.2.2 dX10_holds_210
            · by_cases k_34_72 : v_13 = 72
              · refine lv_lookup (tgt := 211) (off := 177) hx hb dX10_holds_34 (by decide) (by rw [k_34_72]; decide) (by decide) ?_
                have r_v_13 : RI v_13 72 72 := by rw [k_34_72]; exact rl_72
                refine lv_aload_n hx hb dX10_holds_211 rfl (lv_at hl 3 rfl) ?_
                refine lv_iload_n hx hb dX10_holds_212 rfl (lv_at hl 5 rfl) ?_
                refine tk_ir (va_runV (As := [.int p2]) (rest := []) ⟨hx, hb, hml, hown, hts⟩ (c_X10_whatIs l D cy z s.heap.size Ps w0 hw.1 p0 p2 h_p0 r_p2) (cwV 1 hts (gV tw_1449 tw_1451 ts_69 tw_15 tw_1452) rfl rfl rfl (by decide +kernel) ⟨Nat.le_of_ble_eq_true rfl, Nat.le_of_ble_eq_true rfl⟩) (tg_preV hw hK hSD hA (ci := 10) (q := (RX10, TX10, 49)) rfl h_p0 rfl) rfl rfl hl.1 rfl (lv_room (Nat.le_of_ble_eq_true rfl)) dX10_holds_213 ⟨Nat.le_of_ble_eq_true rfl, Nat.le_of_ble_eq_true rfl⟩) hw hA (fun v_22  H locs hp_v_22 hw => ?_)
                have r_v_22 : RI v_22 (-1) 5 := hp_v_22.1
                by_cases c9_v_22 : v_22.toInt < 0
                · have r_v_22 : RI v_22 (-1) (-1) := by unfold RI at r_v_22 ⊢; omega
                  have x_NB_p0_p2 := (hp_v_22.2.2.2.2.1 (by omega)).1
                  refine lv_iload hx hb dX10_holds_216 (lv_at hl 1 rfl) ?_
                  refine lv_icmp_ne (tgt := 225) hx hb dX10_holds_218 (by decide) (fun c_218 => ?_) (fun c_218 => ?_)
                  · refine lv_iconst (v := 0) hx hb dX10_holds_225 (by decide) ?_
                    subst hQ
                    exact W.zret (v := 0) hx hb hr (rfl) (fun t ht hW => ⟨⟨0, (), rfl, ⟨rl_0.to (by decide), (fun h0 => trivial), (fun _ => trivial)⟩, by rw [ht]; exact hw.2.1, va_K.moved hW.alike hK, hw.2.2.1⟩, hw.2.2.2.1.F ht⟩) hw.2.2.2.1.2.2 dX10_holds_226
                  · have r_v_10 : RI v_10 (-1) (-1) := rc_eq2 r_v_22 r_v_10 (ti_eq c_218) (by decide)
                    refine lv_iconst (v := 1) hx hb dX10_holds_221 (by decide) ?_
                    refine lv_goto (tgt := 226) hx hb dX10_holds_222 (by decide) ?_
                    subst hQ
                    exact W.zret (v := 1) hx hb hr (rfl) (fun t ht hW => ⟨⟨1, (), rfl, ⟨rl_1.to (by decide), (fun _ => trivial), (fun h0 => trivial)⟩, by rw [ht]; exact hw.2.1, va_K.moved hW.alike hK, hw.2.2.1⟩, hw.2.2.2.1.F ht⟩) hw.2.2.2.1.2.2 dX10_holds_226
                · have r_v_22 : RI v_22 0 5 := by unfold RI at r_v_22 ⊢; omega
                  have x_WB_p0_p2_v_22 := (hp_v_22.2.2.2.2.2 (by omega)).1
                  refine lv_iload hx hb dX10_holds_216 (lv_at hl 1 rfl) ?_
                  refine lv_icmp_ne (tgt := 225) hx hb dX10_holds_218 (by decide) (fun c_218 => ?_) (fun c_218 => ?_)
                  · refine lv_iconst (v := 0) hx hb dX10_holds_225 (by decide) ?_
                    subst hQ
                    exact W.zret (v := 0) hx hb hr (rfl) (fun t ht hW => ⟨⟨0, (), rfl, ⟨rl_0.to (by decide), (fun h0 => trivial), (fun _ => trivial)⟩, by rw [ht]; exact hw.2.1, va_K.moved hW.alike hK, hw.2.2.1⟩, hw.2.2.2.1.F ht⟩) hw.2.2.2.1.2.2 dX10_holds_226
                  · have r_v_10 : RI v_10 0 5 := rc_eq2 r_v_22 r_v_10 (ti_eq c_218) (by decide)
                    refine lv_iconst (v := 1) hx hb dX10_holds_221 (by decide) ?_
                    refine lv_goto (tgt := 226) hx hb dX10_holds_222 (by decide) ?_
                    subst hQ
                    exact W.zret (v := 1) hx hb hr (rfl) (fun t ht hW => ⟨⟨1, (), rfl, ⟨rl_1.to (by decide), (fun _ => trivial), (fun h0 => trivial)⟩, by rw [ht]; exact hw.2.1, va_K.moved hW.alike hK, hw.2.2.1⟩, hw.2.2.2.1.F ht⟩) hw.2.2.2.1.2.2 dX10_holds_226
              · by_cases k_34_73 : v_13 = 73
                · refine lv_lookup (tgt := 227) (off := 193) hx hb dX10_holds_34 (by decide) (by rw [k_34_73]; decide) (by decide) ?_
                  have r_v_13 : RI v_13 73 73 := by rw [k_34_73]; exact rl_73
                  refine lv_aload_n hx hb dX10_holds_227 rfl (lv_at hl 3 rfl) ?_
                  refine tg_mem (ci := 10) (C := RX10) (T := TX10) (N := 49) hx hb hts inX10 hown hK hw 14 m_u_8 rfl (by decide) (hts _ tw_1151) (fun _ h9 => h9) dX10_holds_228 ?_
                  refine lv_bipush (v := 86) hx hb dX10_holds_231 (by decide) ?_
                  refine lv_iload_n hx hb dX10_holds_233 rfl (lv_at hl 5 rfl) ?_
                  refine lv_iadd hx hb dX10_holds_234 (lv_topi (fun v_23 e_v_23 => ?_))
                  obtain ⟨t_v_23, r_v_23⟩ := tq_add (lo := 86) (hi := 91) rl_86 r_p2 (by decide +kernel) e_v_23
                  have t_v_23 : v_23.toInt = 86 + p2.toInt := t_v_23
                  refine tg_iald (lo := (-2147483648)) (hi := 2147483647) hx hb hK hw h_vu_8 rfl 86 91 r_v_23 (by decide) (by decide +kernel) dX10_holds_235 (fun v_24 r_v_24 m_v_24 o_v_24 => ?_)
                  refine lv_iload hx hb dX10_holds_236 (lv_at hl 1 rfl) ?_
                  refine lv_icmp_ne (tgt := 245) hx hb dX10_holds_238 (by decide) (fun c_238 => ?_) (fun c_238 => ?_)
                  · refine lv_iconst (v := 0) hx hb dX10_holds_245 (by decide) ?_
                    subst hQ
                    exact W.zret (v := 0) hx hb hr (rfl) (fun t ht hW => ⟨⟨0, (), rfl, ⟨rl_0.to (by decide), (fun h0 => trivial), (fun _ => trivial)⟩, by rw [ht]; exact hw.2.1, va_K.moved hW.alike hK, hw.2.2.1⟩, hw.2.2.2.1.F ht⟩) hw.2.2.2.1.2.2 dX10_holds_246
                  · refine lv_iconst (v := 1) hx hb dX10_holds_241 (by decide) ?_
                    refine lv_goto (tgt := 246) hx hb dX10_holds_242 (by decide) ?_
                    subst hQ
                    exact W.zret (v := 1) hx hb hr (rfl) (fun t ht hW => ⟨⟨1, (), rfl, ⟨rl_1.to (by decide), (fun _ => trivial), (fun h0 => trivial)⟩, by rw [ht]; exact hw.2.1, va_K.moved hW.alike hK, hw.2.2.1⟩, hw.2.2.2.1.F ht⟩) hw.2.2.2.1.2.2 dX10_holds_246
                · refine lv_lookup (tgt := 247) (off := 213) hx hb dX10_holds_34 (by decide) ((lv_osw k_34_1 (by decide)).trans ((lv_osw k_34_2 (by decide)).trans ((lv_osw k_34_3 (by decide)).trans ((lv_osw k_34_69 (by decide)).trans ((lv_osw k_34_70 (by decide)).trans ((lv_osw k_34_71 (by decide)).trans ((lv_osw k_34_72 (by decide)).trans ((lv_osw k_34_73 (by decide)).trans (rfl))))))))) (by decide) ?_
                  refine lv_aload_n hx hb dX10_holds_247 rfl (lv_at hl 3 rfl) ?_
                  refine tg_mem (ci := 10) (C := RX10) (T := TX10) (N := 49) hx hb hts inX10 hown hK hw 14 m_u_8 rfl (by decide) (hts _ tw_1151) (fun _ h9 => h9) dX10_holds_248 ?_
                  refine lv_iload_n hx hb dX10_holds_251 rfl (lv_at hl 2 rfl) ?_
                  refine tg_imem hx hb hK hw h_vu_8 rfl r_v_7 (by decide) m_v_13 dX10_holds_252 ?_
                  refine lv_bipush (v := 50) hx hb dX10_holds_253 (by decide) ?_
                  refine lv_isub hx hb dX10_holds_255 (lv_topi (fun v_26 e_v_26 => ?_))
                  have r_v_26 := ri_any v_26
                  refine lv_istore (lv' := [(6, .int v_26), (5, .int v_12), (4, .int v_10), (3, .int v_7), (0, .ref p0), (1, .int p1), (2, .int p2)]) hx hb dX10_holds_256 hl (by decide) rfl (fun ls hl => ?_)
                  refine lv_iload hx hb dX10_holds_258 (lv_at hl 0 rfl) ?_
                  refine lv_bipush (v := 24) hx hb dX10_holds_260 (by decide) ?_
                  refine lv_icmp_ne (tgt := 273) hx hb dX10_holds_262 (by decide) (fun c_262 => ?_) (fun c_262 => ?_)
                  · refine lv_iload hx hb dX10_holds_273 (lv_at hl 0 rfl) ?_
                    refine lv_bipush (v := 25) hx hb dX10_holds_275 (by decide) ?_
                    refine lv_icmp_ne (tgt := 292) hx hb dX10_holds_277 (by decide) (fun c_277 => ?_) (fun c_277 => ?_)
                    · refine lv_iload hx hb dX10_holds_292 (lv_at hl 0 rfl) ?_
                      refine lv_bipush (v := 26) hx hb dX10_holds_294 (by decide) ?_
                      refine lv_icmp_ne (tgt := 311) hx hb dX10_holds_296 (by decide) (fun c_296 => ?_) (fun c_296 => ?_)
                      · refine lv_iload_n hx hb dX10_holds_311 rfl (lv_at hl 6 rfl) ?_
                        exact B312 v_7 v_10 v_12 v_26 p2 _ _ ls r_p1 r_p2 r_v_7 r_v_10 r_v_12 r_v_26 (r_p2.to (by decide)) hw (lv_sub hl [4, 5, 6, 3, 2, 1, 0] rfl)
                      · have r_v_26 : RI v_26 26 26 := rc_eq1 r_v_26 rl_26 (ti_eq c_296) (by decide)
                        refine lv_aload_n hx hb dX10_holds_299 rfl (lv_at hl 4 rfl) ?_
                        refine tg_mem (ci := 10) (C := RX10) (T := TX10) (N := 49) hx hb hts inX10 hown hK hw 14 m_u_8 rfl (by decide) (hts _ tw_1151) (fun _ h9 => h9) dX10_holds_300 ?_
                        refine lv_bipush (v := 98) hx hb dX10_holds_303 (by decide) ?_
                        refine lv_iload_n hx hb dX10_holds_305 rfl (lv_at hl 6 rfl) ?_
                        refine lv_iadd hx hb dX10_holds_306 (lv_topi (fun v_27 e_v_27 => ?_))
                        obtain ⟨t_v_27, r_v_27⟩ := tq_add (lo := 98) (hi := 103) rl_98 r_p2 (by decide +kernel) e_v_27
                        have t_v_27 : v_27.toInt = 98 + p2.toInt := t_v_27
                        refine tg_iald (lo := (-2147483648)) (hi := 2147483647) hx hb hK hw h_vu_8 rfl 98 103 r_v_27 (by decide) (by decide +kernel) dX10_holds_307 (fun v_28 r_v_28 m_v_28 o_v_28 => ?_)
                        refine lv_goto (tgt := 312) hx hb dX10_holds_308 (by decide) ?_
                        exact B312 v_7 v_10 v_12 v_26 v_28 _ _ ls r_p1 r_p2 r_v_7 r_v_10 r_v_12 (r_v_26.to (by decide)) r_v_28 hw (lv_sub hl [4, 5, 6, 3, 2, 1, 0] rfl)
                    · have r_v_26 : RI v_26 25 25 := rc_eq1 r_v_26 rl_25 (ti_eq c_277) (by decide)
                      refine lv_aload_n hx hb dX10_holds_280 rfl (lv_at hl 4 rfl) ?_
                      refine tg_mem (ci := 10) (C := RX10) (T := TX10) (N := 49) hx hb hts inX10 hown hK hw 14 m_u_8 rfl (by decide) (hts _ tw_1151) (fun _ h9 => h9) dX10_holds_281 ?_
                      refine lv_bipush (v := 92) hx hb dX10_holds_284 (by decide) ?_
                      refine lv_iload_n hx hb dX10_holds_286 rfl (lv_at hl 6 rfl) ?_
                      refine lv_iadd hx hb dX10_holds_287 (lv_topi (fun v_29 e_v_29 => ?_))
                      obtain ⟨t_v_29, r_v_29⟩ := tq_add (lo := 92) (hi := 97) rl_92 r_p2 (by decide +kernel) e_v_29
                      have t_v_29 : v_29.toInt = 92 + p2.toInt := t_v_29
                      refine tg_iald (lo := (-2147483648)) (hi := 2147483647) hx hb hK hw h_vu_8 rfl 92 97 r_v_29 (by decide) (by decide +kernel) dX10_holds_288 (fun v_30 r_v_30 m_v_30 o_v_30 => ?_)
                      refine lv_goto (tgt := 312) hx hb dX10_holds_289 (by decide) ?_
                      exact B312 v_7 v_10 v_12 v_26 v_30 _ _ ls r_p1 r_p2 r_v_7 r_v_10 r_v_12 (r_v_26.to (by decide)) r_v_30 hw (lv_sub hl [4, 5, 6, 3, 2, 1, 0] rfl)
                  · have r_v_26 : RI v_26 24 24 := rc_eq1 r_v_26 rl_24 (ti_eq c_262) (by decide)
                    refine lv_aload_n hx hb dX10_holds_265 rfl (lv_at hl 4 rfl) ?_
                    refine lv_iload_n hx hb dX10_holds_266 rfl (lv_at hl 6 rfl) ?_
                    refine tk_ir (va_runV (As := [.int p2]) (rest := []) ⟨hx, hb, hml, hown, hts⟩ (c_X10_sizeOf l D cy z s.heap.size Ps w0 hw.1 p0 p2 h_p0 r_p2) (cwV 1 hts (gV tw_1453 tw_1455 ts_70 tw_15 tw_1456) rfl rfl rfl (by decide +kernel) ⟨Nat.le_of_ble_eq_true rfl, Nat.le_of_ble_eq_true rfl⟩) (tg_preV hw hK hSD hA (ci := 10) (q := (RX10, TX10, 49)) rfl h_p0 rfl) rfl rfl hl.1 rfl (lv_room (Nat.le_of_ble_eq_true rfl)) dX10_holds_267 ⟨Nat.le_of_ble_eq_true rfl, Nat.le_of_ble_eq_true rfl⟩) hw hA (fun v_31  H locs hp_v_31 hw => ?_)
                    have r_v_31 : RI v_31 (-2147483648) 2147483647 := hp_v_31.1
                    refine lv_goto (tgt := 312) hx hb dX10_holds_270 (by decide) ?_
                    exact B312 v_7 v_10 v_12 v_26 v_31 _ _ ls r_p1 r_p2 r_v_7 r_v_10 r_v_12 (r_v_26.to (by decide)) r_v_31 hw (lv_sub hl [4, 5, 6, 3, 2, 1, 0] rfl)
abbrev wr_X10_holds__6 : List (Nat × Nat) := []
abbrev wa_X10_holds__6 : List Nat := []
set_option maxHeartbeats 4000000 in
set_option maxRecDepth 100000 in
theorem c_X10_holds__6 (l : Launch) (D : va_G) (cy : Nat → ClassId) (z : Nat → Nat) (sz : Nat) (Ps : PSI) (w0 : va_W) (hT : HT cy GG Ps w0) (p0 : Nat) (p1 : Int32) (p2 : Int32) (h_p0 : (p0, 55) ∈ Ps) (r_p1 : RI p1 0 53) (r_p2 : RI p2 0 5) : Met l yX10_holds (Cond.code yX10_holds cX10_holds 8 (some .boolean) :: gT) ({ frames := 56, cells := 0, slots := 0, locals := 11200 } : Room) (va_Pc [.ref p0, .int p1, .int p2] (PRE D cy z w0 sz)) (va_Qi (fun (r : Int32) (u : Unit) => RI r 0 1 ∧ (r = 0 → True) ∧ (¬ r = 0 → True)) (BB D cy (va_A w0 sz) (fun (u : Unit) => w0)) (va_A w0 sz)) 0 0 (va_A w0 sz) := by
  refine Met.ofW (cc := cX10_holds) (maxL := 8) (ret := (some .boolean)) (by decide) rfl ?_
  intro p e s m args below meth c s₁ B hml hv
  obtain ⟨rfl, hsz, hP, hK, hD0, hSD⟩ := hv
  have hx := B.exec
  have hb := B.bytes
  have hr := B.returns
  have hlocks := B.notSynchronized
  have hts : ∀ w ∈ gT, w.before _ s = true := fun w h => atoms_spec (ws := Cond.code yX10_holds cX10_holds 8 (some .boolean) :: gT) B.pre w (List.mem_cons_of_mem _ h)
  have hown : s.vm.findClass RX10 = some m.cls := findClass_of_methodNamed B.named
  subst hsz
  have hD := hD0.self (sz := s.heap.size)
  generalize hAe : va_A w0 s.heap.size = A at hD hSD ⊢
  have hA : ∀ q : Nat, s.heap.size ≤ q → A q := fun q h => by rw [← hAe]; exact Or.inr h
  have hl := lv_entry ([.ref p0, .int p1, .int p2]) (n := 8) (Nat.le_of_ble_eq_true rfl)
  rw [lg_entry_eq]
  generalize (lg_sl ([.ref p0, .int p1, .int p2]) ++ List.replicate (8 - (lg_sl ([.ref p0, .int p1, .int p2])).length) Slot.unset).toArray = ls at hl ⊢
  have hl : lv_has ls 8 [(0, .ref p0), (1, .int p1), (2, .int p2)] := hl
  refine nameQ (fun Q hQ => ?_)
  have hw : WD D cy GG A s wr_X10_holds__6 wa_X10_holds__6 Ps w0 Ps w0 s.heap [] := ⟨hT, hP, hD, va_S.rf, FR.rf, hT.1, [], (List.append_nil _).symm⟩
  have B312 : ∀ (x3 : Int32) (x4 : Int32) (x5 : Int32) (x6 : Int32) (y0 : Int32) (H : Heap) (locs : List Loc) (ls : Array Slot), RI p1 0 53 → RI p2 0 5 → RI x3 174 386 → RI x4 (-2147483648) 2147483647 → RI x5 (-2147483648) 2147483647 → RI x6 (-2147483648) 2147483647 → RI y0 (-2147483648) 2147483647 → WD D cy GG A s wr_X10_holds__6 wa_X10_holds__6 Ps w0 Ps w0 H locs → lv_has ls 8 [(0, .ref p0), (1, .int p1), (2, .int p2), (3, .int x3), (4, .int x4), (5, .int x5), (6, .int x6)] → W p l e (headSpec (Cond.code yX10_holds cX10_holds 8 (some .boolean) :: gT) ({ frames := 56, cells := 0, slots := 0, locals := 11200 } : Room)).room s m ([.ref p0, .int p1, .int p2] : List Value).toArray below meth c H locs 0 0 Q (F0 m 312 ls [.int y0]) := by
    intro x3 x4 x5 x6 y0 H locs ls r_p1 r_p2 r_x3 r_x4 r_x5 r_x6 r_y0 hw hl
    refine lv_istore (lv' := [(7, .int y0), (0, .ref p0), (1, .int p1), (2, .int p2), (3, .int x3), (4, .int x4), (5, .int x5), (6, .int x6)]) hx hb dX10_holds_312 hl (by decide) rfl (fun ls hl => ?_)
    refine lv_aload_n hx hb dX10_holds_314 rfl (lv_at hl 1 rfl) ?_
    refine tg_get (ci := 10) (ts := ty_MODEL) (C := RX10) (T := TX10) (N := 49) hx hb hts inX10 hown hK hw h_p0 rfl rfl 14 (by decide) (hts _ tw_1151) (fun _ h9 => h9) (ft := vR 34) rfl dX10_holds_315 (fun u_1 hv_u_1 m_u_1 => ?_)
    obtain ⟨vu_1, rfl, h_vu_1⟩ := hv_u_1
    refine lv_iload_n hx hb dX10_holds_318 rfl (lv_at hl 4 rfl) ?_
    refine lv_iconst (v := 3) hx hb dX10_holds_319 (by decide) ?_
    refine lv_iadd hx hb dX10_holds_320 (lv_topi (fun v_2 e_v_2 => ?_))
    obtain ⟨t_v_2, r_v_2⟩ := tq_add (lo := 177) (hi := 389) r_x3 rl_3 (by decide +kernel) e_v_2
    have t_v_2 : v_2.toInt = x3.toInt + 3 := t_v_2
    refine tg_iald (lo := (-2147483648)) (hi := 2147483647) hx hb hK hw h_vu_1 rfl 177 389 r_v_2 (by decide) (by decide +kernel) dX10_holds_321 (fun v_3 r_v_3 m_v_3 o_v_3 => ?_)
    refine lv_bipush (v := 60) hx hb dX10_holds_322 (by decide) ?_
    refine lv_icmp_ne (tgt := 342) hx hb dX10_holds_324 (by decide) (fun c_324 => ?_) (fun c_324 => ?_)
    · refine lv_aload_n hx hb dX10_holds_342 rfl (lv_at hl 1 rfl) ?_
      refine tg_mem (ci := 10) (C := RX10) (T := TX10) (N := 49) hx hb hts inX10 hown hK hw 14 m_u_1 rfl (by decide) (hts _ tw_1151) (fun _ h9 => h9) dX10_holds_343 ?_
      refine lv_iload_n hx hb dX10_holds_346 rfl (lv_at hl 4 rfl) ?_
      refine lv_iconst (v := 3) hx hb dX10_holds_347 (by decide) ?_
      refine lv_iadd hx hb dX10_holds_348 (lv_topi (fun v_4 e_v_4 => ?_))
      obtain ⟨t_v_4, r_v_4⟩ := tq_add (lo := 177) (hi := 389) r_x3 rl_3 (by decide +kernel) e_v_4
      have t_v_4 : v_4.toInt = x3.toInt + 3 := t_v_4
      refine tg_iald (lo := (-2147483648)) (hi := 2147483647) hx hb hK hw h_vu_1 rfl 177 389 r_v_4 (by decide) (by decide +kernel) dX10_holds_349 (fun v_5 r_v_5 m_v_5 o_v_5 => ?_)
      refine lv_bipush (v := 61) hx hb dX10_holds_350 (by decide) ?_
      refine lv_icmp_ne (tgt := 370) hx hb dX10_holds_352 (by decide) (fun c_352 => ?_) (fun c_352 => ?_)
      · refine lv_iload hx hb dX10_holds_370 (lv_at hl 0 rfl) ?_
        refine lv_iload hx hb dX10_holds_372 (lv_at hl 6 rfl) ?_
        refine lv_icmp_le (tgt := 381) hx hb dX10_holds_374 (by decide) (fun c_374 => ?_) (fun c_374 => ?_)
        · refine lv_iconst (v := 0) hx hb dX10_holds_381 (by decide) ?_
          subst hQ
          exact W.zret (v := 0) hx hb hr (rfl) (fun t ht hW => ⟨⟨0, (), rfl, ⟨rl_0.to (by decide), (fun h0 => trivial), (fun _ => trivial)⟩, by rw [ht]; exact hw.2.1, va_K.moved hW.alike hK, hw.2.2.1⟩, hw.2.2.2.1.F ht⟩) hw.2.2.2.1.2.2 dX10_holds_382
        · have r_x5 : RI x5 (-2147483648) 2147483646 := rc_lt1 r_x5 r_y0 (ti_nle c_374) (by decide)
          have r_y0 : RI y0 (-2147483647) 2147483647 := rc_lt2 r_x5 r_y0 (ti_nle c_374) (by decide)
          refine lv_iconst (v := 1) hx hb dX10_holds_377 (by decide) ?_
          refine lv_goto (tgt := 382) hx hb dX10_holds_378 (by decide) ?_
          subst hQ
          exact W.zret (v := 1) hx hb hr (rfl) (fun t ht hW => ⟨⟨1, (), rfl, ⟨rl_1.to (by decide), (fun _ => trivial), (fun h0 => trivial)⟩, by rw [ht]; exact hw.2.1, va_K.moved hW.alike hK, hw.2.2.1⟩, hw.2.2.2.1.F ht⟩) hw.2.2.2.1.2.2 dX10_holds_382
      · have r_v_5 : RI v_5 61 61 := rc_eq1 r_v_5 rl_61 (ti_eq c_352) (by decide)
        refine lv_iload hx hb dX10_holds_355 (lv_at hl 0 rfl) ?_
        refine lv_iload hx hb dX10_holds_357 (lv_at hl 6 rfl) ?_
        refine lv_icmp_ne (tgt := 366) hx hb dX10_holds_359 (by decide) (fun c_359 => ?_) (fun c_359 => ?_)
        · refine lv_iconst (v := 0) hx hb dX10_holds_366 (by decide) ?_
          refine lv_goto (tgt := 382) hx hb dX10_holds_367 (by decide) ?_
          subst hQ
          exact W.zret (v := 0) hx hb hr (rfl) (fun t ht hW => ⟨⟨0, (), rfl, ⟨rl_0.to (by decide), (fun h0 => trivial), (fun _ => trivial)⟩, by rw [ht]; exact hw.2.1, va_K.moved hW.alike hK, hw.2.2.1⟩, hw.2.2.2.1.F ht⟩) hw.2.2.2.1.2.2 dX10_holds_382
        · refine lv_iconst (v := 1) hx hb dX10_holds_362 (by decide) ?_
          refine lv_goto (tgt := 382) hx hb dX10_holds_363 (by decide) ?_
          subst hQ
          exact W.zret (v := 1) hx hb hr (rfl) (fun t ht hW => ⟨⟨1, (), rfl, ⟨rl_1.to (by decide), (fun _ => trivial), (fun h0 => trivial)⟩, by rw [ht]; exact hw.2.1, va_K.moved hW.alike hK, hw.2.2.1⟩, hw.2.2.2.1.F ht⟩) hw.2.2.2.1.2.2 dX10_holds_382
    · have r_v_3 : RI v_3 60 60 := rc_eq1 r_v_3 rl_60 (ti_eq c_324) (by decide)
      refine lv_iload hx hb dX10_holds_327 (lv_at hl 0 rfl) ?_
      refine lv_iload hx hb dX10_holds_329 (lv_at hl 6 rfl) ?_
      refine lv_icmp_ge (tgt := 338) hx hb dX10_holds_331 (by decide) (fun c_331 => ?_) (fun c_331 => ?_)
      · refine lv_iconst (v := 0) hx hb dX10_holds_338 (by decide) ?_
        refine lv_goto (tgt := 382) hx hb dX10_holds_339 (by decide) ?_
        subst hQ
        exact W.zret (v := 0) hx hb hr (rfl) (fun t ht hW => ⟨⟨0, (), rfl, ⟨rl_0.to (by decide), (fun h0 => trivial), (fun _ => trivial)⟩, by rw [ht]; exact hw.2.1, va_K.moved hW.alike hK, hw.2.2.1⟩, hw.2.2.2.1.F ht⟩) hw.2.2.2.1.2.2 dX10_holds_382
      · have r_y0 : RI y0 (-2147483648) 2147483646 := rc_lt1 r_y0 r_x5 (ti_nle c_331) (by decide)
        have r_x5 : RI x5 (-2147483647) 2147483647 := rc_lt2 r_y0 r_x5 (ti_nle c_331) (by decide)
        refine lv_iconst (v := 1) hx hb dX10_holds_334 (by decide) ?_
        refine lv_goto (tgt := 382) hx hb dX10_holds_335 (by decide) ?_
        subst hQ
        exact W.zret (v := 1) hx hb hr (rfl) (fun t ht hW => ⟨⟨1, (), rfl, ⟨rl_1.to (by decide), (fun _ => trivial), (fun h0 => trivial)⟩, by rw [ht]; exact hw.2.1, va_K.moved hW.alike hK, hw.2.2.1⟩, hw.2.2.2.1.F ht⟩) hw.2.2.2.1.2.2 dX10_holds_382
  refine lv_sipush (v := 174) hx hb dX10_holds_0 (by decide) ?_
  refine lv_iconst (v := 4) hx hb dX10_holds_3 (by decide) ?_
  refine lv_iload_n hx hb dX10_holds_4 rfl (lv_at hl 1 rfl) ?_
  refine lv_imul hx hb dX10_holds_5 (lv_topi (fun v_6 e_v_6 => ?_))
  obtain ⟨t_v_6, r_v_6⟩ := tq_mul (lo := 0) (hi := 212) rl_4 r_p1 (by decide +kernel) e_v_6
  have t_v_6 : v_6.toInt = 4 * p1.toInt := t_v_6
  refine lv_iadd hx hb dX10_holds_6 (lv_topi (fun v_7 e_v_7 => ?_))
  obtain ⟨t_v_7, r_v_7⟩ := tq_add (lo := 174) (hi := 386) rl_174 r_v_6 (by decide +kernel) e_v_7
  have t_v_7 : v_7.toInt = 174 + v_6.toInt := t_v_7
  refine lv_istore_n (lv' := [(3, .int v_7), (0, .ref p0), (1, .int p1), (2, .int p2)]) hx hb dX10_holds_7 rfl hl (by decide) rfl (fun ls hl => ?_)
  refine lv_aload_n hx hb dX10_holds_8 rfl (lv_at hl 1 rfl) ?_
  refine tg_get (ci := 10) (ts := ty_MODEL) (C := RX10) (T := TX10) (N := 49) hx hb hts inX10 hown hK hw h_p0 rfl rfl 14 (by decide) (hts _ tw_1151) (fun _ h9 => h9) (ft := vR 34) rfl dX10_holds_9 (fun u_8 hv_u_8 m_u_8 => ?_)
  obtain ⟨vu_8, rfl, h_vu_8⟩ := hv_u_8
  refine lv_iload_n hx hb dX10_holds_12 rfl (lv_at hl 0 rfl) ?_
  refine lv_iconst (v := 1) hx hb dX10_holds_13 (by decide) ?_
  refine lv_iadd hx hb dX10_holds_14 (lv_topi (fun v_9 e_v_9 => ?_))
  obtain ⟨t_v_9, r_v_9⟩ := tq_add (lo := 175) (hi := 387) r_v_7 rl_1 (by decide +kernel) e_v_9
  have t_v_9 : v_9.toInt = v_7.toInt + 1 := t_v_9
  refine tg_iald (lo := (-2147483648)) (hi := 2147483647) hx hb hK hw h_vu_8 rfl 175 387 r_v_9 (by decide) (by decide +kernel) dX10_holds_15 (fun v_10 r_v_10 m_v_10 o_v_10 => ?_)
  refine lv_istore (lv' := [(4, .int v_10), (3, .int v_7), (0, .ref p0), (1, .int p1), (2, .int p2)]) hx hb dX10_holds_16 hl (by decide) rfl (fun ls hl => ?_)
  refine lv_aload_n hx hb dX10_holds_18 rfl (lv_at hl 2 rfl) ?_
  refine tg_mem (ci := 10) (C := RX10) (T := TX10) (N := 49) hx hb hts inX10 hown hK hw 14 m_u_8 rfl (by decide) (hts _ tw_1151) (fun _ h9 => h9) dX10_holds_19 ?_
  refine lv_iload_n hx hb dX10_holds_22 rfl (lv_at hl 1 rfl) ?_
  refine lv_iconst (v := 2) hx hb dX10_holds_23 (by decide) ?_
  refine lv_iadd hx hb dX10_holds_24 (lv_topi (fun v_11 e_v_11 => ?_))
  obtain ⟨t_v_11, r_v_11⟩ := tq_add (lo := 176) (hi := 388) r_v_7 rl_2 (by decide +kernel) e_v_11
  have t_v_11 : v_11.toInt = v_7.toInt + 2 := t_v_11
  refine tg_iald (lo := (-2147483648)) (hi := 2147483647) hx hb hK hw h_vu_8 rfl 176 388 r_v_11 (by decide) (by decide +kernel) dX10_holds_25 (fun v_12 r_v_12 m_v_12 o_v_12 => ?_)
  refine lv_istore (lv' := [(5, .int v_12), (4, .int v_10), (3, .int v_7), (0, .ref p0), (1, .int p1), (2, .int p2)]) hx hb dX10_holds_26 hl (by decide) rfl (fun ls hl => ?_)
  refine lv_aload_n hx hb dX10_holds_28 rfl (lv_at hl 3 rfl) ?_
  refine tg_mem (ci := 10) (C := RX10) (T := TX10) (N := 49) hx hb hts inX10 hown hK hw 14 m_u_8 rfl (by decide) (hts _ tw_1151) (fun _ h9 => h9) dX10_holds_29 ?_
  refine lv_iload_n hx hb dX10_holds_32 rfl (lv_at hl 2 rfl) ?_
  refine tg_iald (lo := (-2147483648)) (hi := 2147483647) hx hb hK hw h_vu_8 rfl 174 386 r_v_7 (by decide) (by decide +kernel) dX10_holds_33 (fun v_13 r_v_13 m_v_13 o_v_13 => ?_)
  by_cases k_34_1 : v_13 = 1
  · refine lv_lookup (tgt := 108) (off := 74) hx hb dX10_holds_34 (by decide) (by rw [k_34_1]; decide) (by decide) ?_
    have r_v_13 : RI v_13 1 1 := by rw [k_34_1]; exact rl_1
    have g_v_10 : 0 ≤ v_10.toInt ∧ v_10.toInt < p1.toInt := by obtain ⟨_, f9, e8, e7, q9, _⟩ := ax_of (k := 14) (t := 34) hw h_p0 rfl (fun _ => rfl); cases FLD.inj hw.2.2.1 e8 m_u_8; have t9 := ARR.ael hw.2.2.1 e7 m_v_13; have x9 := ARR.ael hw.2.2.1 e7 m_v_10; rw [show Int32.toNatClampNeg v_7 = 174 + 4 * Int32.toNatClampNeg p1 from (by have k1 := r_v_7.cl (by decide); have k2 := r_p1.cl (by decide); omega)] at t9; rw [show Int32.toNatClampNeg v_9 = 175 + 4 * Int32.toNatClampNeg p1 from (by have k1 := r_v_9.cl (by decide); have k2 := r_p1.cl (by decide); omega)] at x9; exact RN_child q9 (r_p1.to (by decide)) t9 x9 (r_v_13.to (by decide))
    have r_v_10 : RI v_10 0 52 := ⟨g_v_10.1, by have k1 := r_p1.2; omega⟩
    refine lv_aload_n hx hb dX10_holds_108 rfl (lv_at hl 3 rfl) ?_
    refine lv_iload hx hb dX10_holds_109 (lv_at hl 1 rfl) ?_
    refine lv_iload_n hx hb dX10_holds_111 rfl (lv_at hl 5 rfl) ?_
    refine tk_ir (va_runV (As := [.int v_10, .int p2]) (rest := []) ⟨hx, hb, hml, hown, hts⟩ (c_X10_holds__7 l D cy z s.heap.size Ps w0 hw.1 p0 v_10 p2 h_p0 r_v_10 r_p2) (cwV 2 hts (gV tw_1787 tw_1789 ts_119 tw_15 tw_1790) rfl rfl rfl (by decide +kernel) ⟨Nat.le_of_ble_eq_true rfl, Nat.le_of_ble_eq_true rfl⟩) (tg_preV hw hK hSD hA (ci := 10) (q := (RX10, TX10, 49)) rfl h_p0 rfl) rfl rfl hl.1 rfl (lv_room (Nat.le_of_ble_eq_true rfl)) dX10_holds_112 ⟨Nat.le_of_ble_eq_true rfl, Nat.le_of_ble_eq_true rfl⟩) hw hA (fun v_14  H locs hp_v_14 hw => ?_)
    have r_v_14 : RI v_14 0 1 := hp_v_14.1
    refine lv_if_ne (tgt := 122) hx hb dX10_holds_115 (by decide) (fun c_115 => ?_) (fun c_115 => ?_)
    · have r_v_14 : RI v_14 1 1 := rc_neL r_v_14 rl_0 (ti_ne c_115) (by decide)
      refine lv_iconst (v := 0) hx hb dX10_holds_122 (by decide) ?_
      subst hQ
      exact W.zret (v := 0) hx hb hr (rfl) (fun t ht hW => ⟨⟨0, (), rfl, ⟨rl_0.to (by decide), (fun h0 => trivial), (fun _ => trivial)⟩, by rw [ht]; exact hw.2.1, va_K.moved hW.alike hK, hw.2.2.1⟩, hw.2.2.2.1.F ht⟩) hw.2.2.2.1.2.2 dX10_holds_123
    · have r_v_14 : RI v_14 0 0 := rc_eq1 r_v_14 rl_0 (ti_eq c_115) (by decide)
      refine lv_iconst (v := 1) hx hb dX10_holds_118 (by decide) ?_
      refine lv_goto (tgt := 123) hx hb dX10_holds_119 (by decide) ?_
      subst hQ
      exact W.zret (v := 1) hx hb hr (rfl) (fun t ht hW => ⟨⟨1, (), rfl, ⟨rl_1.to (by decide), (fun _ => trivial), (fun h0 => trivial)⟩, by rw [ht]; exact hw.2.1, va_K.moved hW.alike hK, hw.2.2.1⟩, hw.2.2.2.1.F ht⟩) hw.2.2.2.1.2.2 dX10_holds_123
  · by_cases k_34_2 : v_13 = 2
    · refine lv_lookup (tgt := 124) (off := 90) hx hb dX10_holds_34 (by decide) (by rw [k_34_2]; decide) (by decide) ?_
      have r_v_13 : RI v_13 2 2 := by rw [k_34_2]; exact rl_2
      have g_v_10 : 0 ≤ v_10.toInt ∧ v_10.toInt < p1.toInt := by obtain ⟨_, f9, e8, e7, q9, _⟩ := ax_of (k := 14) (t := 34) hw h_p0 rfl (fun _ => rfl); cases FLD.inj hw.2.2.1 e8 m_u_8; have t9 := ARR.ael hw.2.2.1 e7 m_v_13; have x9 := ARR.ael hw.2.2.1 e7 m_v_10; rw [show Int32.toNatClampNeg v_7 = 174 + 4 * Int32.toNatClampNeg p1 from (by have k1 := r_v_7.cl (by decide); have k2 := r_p1.cl (by decide); omega)] at t9; rw [show Int32.toNatClampNeg v_9 = 175 + 4 * Int32.toNatClampNeg p1 from (by have k1 := r_v_9.cl (by decide); have k2 := r_p1.cl (by decide); omega)] at x9; exact RN_child q9 (r_p1.to (by decide)) t9 x9 (r_v_13.to (by decide))
      have r_v_10 : RI v_10 0 52 := ⟨g_v_10.1, by have k1 := r_p1.2; omega⟩
      have g_v_12 : 0 ≤ v_12.toInt ∧ v_12.toInt < p1.toInt := by obtain ⟨_, f9, e8, e7, q9, _⟩ := ax_of (k := 14) (t := 34) hw h_p0 rfl (fun _ => rfl); cases FLD.inj hw.2.2.1 e8 m_u_8; have t9 := ARR.ael hw.2.2.1 e7 m_v_13; have x9 := ARR.ael hw.2.2.1 e7 m_v_12; rw [show Int32.toNatClampNeg v_7 = 174 + 4 * Int32.toNatClampNeg p1 from (by have k1 := r_v_7.cl (by decide); have k2 := r_p1.cl (by decide); omega)] at t9; rw [show Int32.toNatClampNeg v_11 = 176 + 4 * Int32.toNatClampNeg p1 from (by have k1 := r_v_11.cl (by decide); have k2 := r_p1.cl (by decide); omega)] at x9; exact RN_child2 q9 (r_p1.to (by decide)) t9 x9 (r_v_13.to (by decide))
      have r_v_12 : RI v_12 0 52 := ⟨g_v_12.1, by have k1 := r_p1.2; omega⟩
      refine lv_aload_n hx hb dX10_holds_124 rfl (lv_at hl 3 rfl) ?_
      refine lv_iload hx hb dX10_holds_125 (lv_at hl 1 rfl) ?_
      refine lv_iload_n hx hb dX10_holds_127 rfl (lv_at hl 5 rfl) ?_
      refine tk_ir (va_runV (As := [.int v_10, .int p2]) (rest := []) ⟨hx, hb, hml, hown, hts⟩ (c_X10_holds__7 l D cy z s.heap.size Ps w0 hw.1 p0 v_10 p2 h_p0 r_v_10 r_p2) (cwV 2 hts (gV tw_1787 tw_1789 ts_119 tw_15 tw_1790) rfl rfl rfl (by decide +kernel) ⟨Nat.le_of_ble_eq_true rfl, Nat.le_of_ble_eq_true rfl⟩) (tg_preV hw hK hSD hA (ci := 10) (q := (RX10, TX10, 49)) rfl h_p0 rfl) rfl rfl hl.1 rfl (lv_room (Nat.le_of_ble_eq_true rfl)) dX10_holds_128 ⟨Nat.le_of_ble_eq_true rfl, Nat.le_of_ble_eq_true rfl⟩) hw hA (fun v_15  H locs hp_v_15 hw => ?_)
      have r_v_15 : RI v_15 0 1 := hp_v_15.1
      refine lv_if_eq (tgt := 148) hx hb dX10_holds_131 (by decide) (fun c_131 => ?_) (fun c_131 => ?_)
      · have r_v_15 : RI v_15 0 0 := rc_eq1 r_v_15 rl_0 (ti_eq c_131) (by decide)
        refine lv_iconst (v := 0) hx hb dX10_holds_148 (by decide) ?_
        subst hQ
        exact W.zret (v := 0) hx hb hr (rfl) (fun t ht hW => ⟨⟨0, (), rfl, ⟨rl_0.to (by decide), (fun h0 => trivial), (fun _ => trivial)⟩, by rw [ht]; exact hw.2.1, va_K.moved hW.alike hK, hw.2.2.1⟩, hw.2.2.2.1.F ht⟩) hw.2.2.2.1.2.2 dX10_holds_149
      · have r_v_15 : RI v_15 1 1 := rc_neL r_v_15 rl_0 (ti_ne c_131) (by decide)
        refine lv_aload_n hx hb dX10_holds_134 rfl (lv_at hl 3 rfl) ?_
        refine lv_iload hx hb dX10_holds_135 (lv_at hl 0 rfl) ?_
        refine lv_iload_n hx hb dX10_holds_137 rfl (lv_at hl 5 rfl) ?_
        refine tk_ir (va_runV (As := [.int v_12, .int p2]) (rest := []) ⟨hx, hb, hml, hown, hts⟩ (c_X10_holds__7 l D cy z H.size Ps w0 hw.1 p0 v_12 p2 h_p0 r_v_12 r_p2) (cwV 2 hts (gV tw_1787 tw_1789 ts_119 tw_15 tw_1790) rfl rfl rfl (by decide +kernel) ⟨Nat.le_of_ble_eq_true rfl, Nat.le_of_ble_eq_true rfl⟩) (tg_preV hw hK hSD hA (ci := 10) (q := (RX10, TX10, 49)) rfl h_p0 rfl) rfl rfl hl.1 rfl (lv_room (Nat.le_of_ble_eq_true rfl)) dX10_holds_138 ⟨Nat.le_of_ble_eq_true rfl, Nat.le_of_ble_eq_true rfl⟩) hw hA (fun v_16  H locs hp_v_16 hw => ?_)
        have r_v_16 : RI v_16 0 1 := hp_v_16.1
        refine lv_if_eq (tgt := 148) hx hb dX10_holds_141 (by decide) (fun c_141 => ?_) (fun c_141 => ?_)
        · have r_v_16 : RI v_16 0 0 := rc_eq1 r_v_16 rl_0 (ti_eq c_141) (by decide)
          refine lv_iconst (v := 0) hx hb dX10_holds_148 (by decide) ?_
          subst hQ
          exact W.zret (v := 0) hx hb hr (rfl) (fun t ht hW => ⟨⟨0, (), rfl, ⟨rl_0.to (by decide), (fun h0 => trivial), (fun _ => trivial)⟩, by rw [ht]; exact hw.2.1, va_K.moved hW.alike hK, hw.2.2.1⟩, hw.2.2.2.1.F ht⟩) hw.2.2.2.1.2.2 dX10_holds_149
        · have r_v_16 : RI v_16 1 1 := rc_neL r_v_16 rl_0 (ti_ne c_141) (by decide)
          refine lv_iconst (v := 1) hx hb dX10_holds_144 (by decide) ?_
          refine lv_goto (tgt := 149) hx hb dX10_holds_145 (by decide) ?_
          subst hQ
          exact W.zret (v := 1) hx hb hr (rfl) (fun t ht hW => ⟨⟨1, (), rfl, ⟨rl_1.to (by decide), (fun _ => trivial), (fun h0 => trivial)⟩, by rw [ht]; exact hw.2.1, va_K.moved hW.alike hK, hw.2.2.1⟩, hw.2.2.2.1.F ht⟩) hw.2.2.2.1.2.2 dX10_holds_149
    · by_cases k_34_3 : v_13 = 3
      · refine lv_lookup (tgt := 150) (off := 116) hx hb dX10_holds_34 (by decide) (by rw [k_34_3]; decide) (by decide) ?_
        have r_v_13 : RI v_13 3 3 := by rw [k_34_3]; exact rl_3
        have g_v_10 : 0 ≤ v_10.toInt ∧ v_10.toInt < p1.toInt := by obtain ⟨_, f9, e8, e7, q9, _⟩ := ax_of (k := 14) (t := 34) hw h_p0 rfl (fun _ => rfl); cases FLD.inj hw.2.2.1 e8 m_u_8; have t9 := ARR.ael hw.2.2.1 e7 m_v_13; have x9 := ARR.ael hw.2.2.1 e7 m_v_10; rw [show Int32.toNatClampNeg v_7 = 174 + 4 * Int32.toNatClampNeg p1 from (by have k1 := r_v_7.cl (by decide); have k2 := r_p1.cl (by decide); omega)] at t9; rw [show Int32.toNatClampNeg v_9 = 175 + 4 * Int32.toNatClampNeg p1 from (by have k1 := r_v_9.cl (by decide); have k2 := r_p1.cl (by decide); omega)] at x9; exact RN_child q9 (r_p1.to (by decide)) t9 x9 (r_v_13.to (by decide))
        have r_v_10 : RI v_10 0 52 := ⟨g_v_10.1, by have k1 := r_p1.2; omega⟩
        have g_v_12 : 0 ≤ v_12.toInt ∧ v_12.toInt < p1.toInt := by obtain ⟨_, f9, e8, e7, q9, _⟩ := ax_of (k := 14) (t := 34) hw h_p0 rfl (fun _ => rfl); cases FLD.inj hw.2.2.1 e8 m_u_8; have t9 := ARR.ael hw.2.2.1 e7 m_v_13; have x9 := ARR.ael hw.2.2.1 e7 m_v_12; rw [show Int32.toNatClampNeg v_7 = 174 + 4 * Int32.toNatClampNeg p1 from (by have k1 := r_v_7.cl (by decide); have k2 := r_p1.cl (by decide); omega)] at t9; rw [show Int32.toNatClampNeg v_11 = 176 + 4 * Int32.toNatClampNeg p1 from (by have k1 := r_v_11.cl (by decide); have k2 := r_p1.cl (by decide); omega)] at x9; exact RN_child2 q9 (r_p1.to (by decide)) t9 x9 (r_v_13.to (by decide))
        have r_v_12 : RI v_12 0 52 := ⟨g_v_12.1, by have k1 := r_p1.2; omega⟩
        refine lv_aload_n hx hb dX10_holds_150 rfl (lv_at hl 3 rfl) ?_
        refine lv_iload hx hb dX10_holds_151 (lv_at hl 1 rfl) ?_
        refine lv_iload_n hx hb dX10_holds_153 rfl (lv_at hl 5 rfl) ?_
        refine tk_ir (va_runV (As := [.int v_10, .int p2]) (rest := []) ⟨hx, hb, hml, hown, hts⟩ (c_X10_holds__7 l D cy z s.heap.size Ps w0 hw.1 p0 v_10 p2 h_p0 r_v_10 r_p2) (cwV 2 hts (gV tw_1787 tw_1789 ts_119 tw_15 tw_1790) rfl rfl rfl (by decide +kernel) ⟨Nat.le_of_ble_eq_true rfl, Nat.le_of_ble_eq_true rfl⟩) (tg_preV hw hK hSD hA (ci := 10) (q := (RX10, TX10, 49)) rfl h_p0 rfl) rfl rfl hl.1 rfl (lv_room (Nat.le_of_ble_eq_true rfl)) dX10_holds_154 ⟨Nat.le_of_ble_eq_true rfl, Nat.le_of_ble_eq_true rfl⟩) hw hA (fun v_17  H locs hp_v_17 hw => ?_)
        have r_v_17 : RI v_17 0 1 := hp_v_17.1
        refine lv_if_ne (tgt := 170) hx hb dX10_holds_157 (by decide) (fun c_157 => ?_) (fun c_157 => ?_)
        · have r_v_17 : RI v_17 1 1 := rc_neL r_v_17 rl_0 (ti_ne c_157) (by decide)
          refine lv_iconst (v := 1) hx hb dX10_holds_170 (by decide) ?_
          refine lv_goto (tgt := 175) hx hb dX10_holds_171 (by decide) ?_
          subst hQ
          exact W.zret (v := 1) hx hb hr (rfl) (fun t ht hW => ⟨⟨1, (), rfl, ⟨rl_1.to (by decide), (fun _ => trivial), (fun h0 => trivial)⟩, by rw [ht]; exact hw.2.1, va_K.moved hW.alike hK, hw.2.2.1⟩, hw.2.2.2.1.F ht⟩) hw.2.2.2.1.2.2 dX10_holds_175
        · have r_v_17 : RI v_17 0 0 := rc_eq1 r_v_17 rl_0 (ti_eq c_157) (by decide)
          refine lv_aload_n hx hb dX10_holds_160 rfl (lv_at hl 3 rfl) ?_
          refine lv_iload hx hb dX10_holds_161 (lv_at hl 0 rfl) ?_
          refine lv_iload_n hx hb dX10_holds_163 rfl (lv_at hl 5 rfl) ?_
          refine tk_ir (va_runV (As := [.int v_12, .int p2]) (rest := []) ⟨hx, hb, hml, hown, hts⟩ (c_X10_holds__7 l D cy z H.size Ps w0 hw.1 p0 v_12 p2 h_p0 r_v_12 r_p2) (cwV 2 hts (gV tw_1787 tw_1789 ts_119 tw_15 tw_1790) rfl rfl rfl (by decide +kernel) ⟨Nat.le_of_ble_eq_true rfl, Nat.le_of_ble_eq_true rfl⟩) (tg_preV hw hK hSD hA (ci := 10) (q := (RX10, TX10, 49)) rfl h_p0 rfl) rfl rfl hl.1 rfl (lv_room (Nat.le_of_ble_eq_true rfl)) dX10_holds_164 ⟨Nat.le_of_ble_eq_true rfl, Nat.le_of_ble_eq_true rfl⟩) hw hA (fun v_18  H locs hp_v_18 hw => ?_)
          have r_v_18 : RI v_18 0 1 := hp_v_18.1
          refine lv_if_eq (tgt := 174) hx hb dX10_holds_167 (by decide) (fun c_167 => ?_) (fun c_167 => ?_)
          · have r_v_18 : RI v_18 0 0 := rc_eq1 r_v_18 rl_0 (ti_eq c_167) (by decide)
            refine lv_iconst (v := 0) hx hb dX10_holds_174 (by decide) ?_
            subst hQ
            exact W.zret (v := 0) hx hb hr (rfl) (fun t ht hW => ⟨⟨0, (), rfl, ⟨rl_0.to (by decide), (fun h0 => trivial), (fun _ => trivial)⟩, by rw [ht]; exact hw.2.1, va_K.moved hW.alike hK, hw.2.2.1⟩, hw.2.2.2.1.F ht⟩) hw.2.2.2.1.2.2 dX10_holds_175
          · have r_v_18 : RI v_18 1 1 := rc_neL r_v_18 rl_0 (ti_ne c_167) (by decide)
            refine lv_iconst (v := 1) hx hb dX10_holds_170 (by decide) ?_
            refine lv_goto (tgt := 175) hx hb dX10_holds_171 (by decide) ?_
            subst hQ
            exact W.zret (v := 1) hx hb hr (rfl) (fun t ht hW => ⟨⟨1, (), rfl, ⟨rl_1.to (by decide), (fun _ => trivial), (fun h0 => trivial)⟩, by rw [ht]; exact hw.2.1, va_K.moved hW.alike hK, hw.2.2.1⟩, hw.2.2.2.1.F ht⟩) hw.2.2.2.1.2.2 dX10_holds_175
      · by_cases k_34_69 : v_13 = 69
        · refine lv_lookup (tgt := 176) (off := 142) hx hb dX10_holds_34 (by decide) (by rw [k_34_69]; decide) (by decide) ?_
          have r_v_13 : RI v_13 69 69 := by rw [k_34_69]; exact rl_69
          refine lv_aload_n hx hb dX10_holds_176 rfl (lv_at hl 3 rfl) ?_
          refine lv_iload_n hx hb dX10_holds_177 rfl (lv_at hl 5 rfl) ?_
          refine tk_ir (va_runV (As := [.int p2]) (rest := []) ⟨hx, hb, hml, hown, hts⟩ (c_X10_isOpen l D cy z s.heap.size Ps w0 hw.1 p0 p2 h_p0 (r_p2.to (by decide))) (cwV 1 hts (gV tw_1457 tw_1459 ts_71 tw_15 tw_1460) rfl rfl rfl (by decide +kernel) ⟨Nat.le_of_ble_eq_true rfl, Nat.le_of_ble_eq_true rfl⟩) (tg_preV hw hK hSD hA (ci := 10) (q := (RX10, TX10, 49)) rfl h_p0 rfl) rfl rfl hl.1 rfl (lv_room (Nat.le_of_ble_eq_true rfl)) dX10_holds_178 ⟨Nat.le_of_ble_eq_true rfl, Nat.le_of_ble_eq_true rfl⟩) hw hA (fun v_19  H locs hp_v_19 hw => ?_)
          have r_v_19 : RI v_19 0 1 := hp_v_19.1
          subst hQ
          exact W.zret (v := v_19) hx hb hr (tq_nz (r_v_19.to (by decide))) (fun t ht hW => ⟨⟨v_19, (), rfl, ⟨r_v_19.to (by decide), (fun h0 => trivial), (fun h0 => trivial)⟩, by rw [ht]; exact hw.2.1, va_K.moved hW.alike hK, hw.2.2.1⟩, hw.2.2.2.1.F ht⟩) hw.2.2.2.1.2.2 dX10_holds_181
        · by_cases k_34_70 : v_13 = 70
          · refine lv_lookup (tgt := 182) (off := 148) hx hb dX10_holds_34 (by decide) (by rw [k_34_70]; decide) (by decide) ?_
            have r_v_13 : RI v_13 70 70 := by rw [k_34_70]; exact rl_70
            refine lv_aload_n hx hb dX10_holds_182 rfl (lv_at hl 3 rfl) ?_
            refine lv_iload_n hx hb dX10_holds_183 rfl (lv_at hl 5 rfl) ?_
            refine tk_ir (va_runV (As := [.int p2]) (rest := []) ⟨hx, hb, hml, hown, hts⟩ (c_X10_whatIs l D cy z s.heap.size Ps w0 hw.1 p0 p2 h_p0 r_p2) (cwV 1 hts (gV tw_1449 tw_1451 ts_69 tw_15 tw_1452) rfl rfl rfl (by decide +kernel) ⟨Nat.le_of_ble_eq_true rfl, Nat.le_of_ble_eq_true rfl⟩) (tg_preV hw hK hSD hA (ci := 10) (q := (RX10, TX10, 49)) rfl h_p0 rfl) rfl rfl hl.1 rfl (lv_room (Nat.le_of_ble_eq_true rfl)) dX10_holds_184 ⟨Nat.le_of_ble_eq_true rfl, Nat.le_of_ble_eq_true rfl⟩) hw hA (fun v_20  H locs hp_v_20 hw => ?_)
            have r_v_20 : RI v_20 (-1) 5 := hp_v_20.1
            by_cases c9_v_20 : v_20.toInt < 0
            · have r_v_20 : RI v_20 (-1) (-1) := by unfold RI at r_v_20 ⊢; omega
              have x_NB_p0_p2 := (hp_v_20.2.2.2.2.1 (by omega)).1
              refine lv_iconst (v := (-1)) hx hb dX10_holds_187 (by decide) ?_
              refine lv_icmp_ne (tgt := 195) hx hb dX10_holds_188 (by decide) (fun c_188 => ?_) (fun c_188 => ?_)
              · exact absurd (r_v_20.eq.trans rl_m1.eq.symm) ((ti_ne c_188))
              · refine lv_iconst (v := 1) hx hb dX10_holds_191 (by decide) ?_
                refine lv_goto (tgt := 196) hx hb dX10_holds_192 (by decide) ?_
                subst hQ
                exact W.zret (v := 1) hx hb hr (rfl) (fun t ht hW => ⟨⟨1, (), rfl, ⟨rl_1.to (by decide), (fun _ => trivial), (fun h0 => trivial)⟩, by rw [ht]; exact hw.2.1, va_K.moved hW.alike hK, hw.2.2.1⟩, hw.2.2.2.1.F ht⟩) hw.2.2.2.1.2.2 dX10_holds_196
            · have r_v_20 : RI v_20 0 5 := by unfold RI at r_v_20 ⊢; omega
              have x_WB_p0_p2_v_20 := (hp_v_20.2.2.2.2.2 (by omega)).1
              refine lv_iconst (v := (-1)) hx hb dX10_holds_187 (by decide) ?_
              refine lv_icmp_ne (tgt := 195) hx hb dX10_holds_188 (by decide) (fun c_188 => ?_) (fun c_188 => ?_)
              · refine lv_iconst (v := 0) hx hb dX10_holds_195 (by decide) ?_
                subst hQ
                exact W.zret (v := 0) hx hb hr (rfl) (fun t ht hW => ⟨⟨0, (), rfl, ⟨rl_0.to (by decide), (fun h0 => trivial), (fun _ => trivial)⟩, by rw [ht]; exact hw.2.1, va_K.moved hW.alike hK, hw.2.2.1⟩, hw.2.2.2.1.F ht⟩) hw.2.2.2.1.2.2 dX10_holds_196
              · have r_v_20 : RI v_20 0 (-1) := rc_eq1 r_v_20 rl_m1 (ti_eq c_188) (by decide)
                exact (r_v_20.no (by decide)).elim
          · by_cases k_34_71 : v_13 = 71
            · refine lv_lookup (tgt := 197) (off := 163) hx hb dX10_holds_34 (by decide) (by rw [k_34_71]; decide) (by decide) ?_
              have r_v_13 : RI v_13 71 71 := by rw [k_34_71]; exact rl_71
              refine lv_aload_n hx hb dX10_holds_197 rfl (lv_at hl 3 rfl) ?_
              refine lv_iload_n hx hb dX10_holds_198 rfl (lv_at hl 5 rfl) ?_
              refine tk_ir (va_runV (As := [.int p2]) (rest := []) ⟨hx, hb, hml, hown, hts⟩ (c_X10_sittersOf l D cy z s.heap.size Ps w0 hw.1 p0 p2 h_p0 (r_p2.to (by decide))) (cwV 1 hts (gV tw_1461 tw_1463 ts_72 tw_15 tw_1464) rfl rfl rfl (by decide +kernel) ⟨Nat.le_of_ble_eq_true rfl, Nat.le_of_ble_eq_true rfl⟩) (tg_preV hw hK hSD hA (ci := 10) (q := (RX10, TX10, 49)) rfl h_p0 rfl) rfl rfl hl.1 rfl (lv_room (Nat.le_of_ble_eq_true rfl)) dX10_holds_199 ⟨Nat.le_of_ble_eq_true rfl, Nat.le_of_ble_eq_true rfl⟩) hw hA (fun v_21  H locs hp_v_21 hw => ?_)
              have r_v_21 : RI v_21 (-2147483648) 2147483647 := hp_v_21.1
              refine lv_if_eq (tgt := 209) hx hb dX10_holds_202 (by decide) (fun c_202 => ?_) (fun c_202 => ?_)
              · have r_v_21 : RI v_21 0 0 := rc_eq1 r_v_21 rl_0 (ti_eq c_202) (by decide)
                refine lv_iconst (v := 0) hx hb dX10_holds_209 (by decide) ?_
                subst hQ
                exact W.zret (v := 0) hx hb hr (rfl) (fun t ht hW => ⟨⟨0, (), rfl, ⟨rl_0.to (by decide), (fun h0 => trivial), (fun _ => trivial)⟩, by rw [ht]; exact hw.2.1, va_K.moved hW.alike hK, hw.2.2.1⟩, hw.2.2.2.1.F ht⟩) hw.2.2.2.1.2.2 dX10_holds_210
              · refine lv_iconst (v := 1) hx hb dX10_holds_205 (by decide) ?_
                refine lv_goto (tgt := 210) hx hb dX10_holds_206 (by decide) ?_
                subst hQ
                exact W.zret (v := 1) hx hb hr (rfl) (fun t ht hW => ⟨⟨1, (), rfl, ⟨rl_1.to (by decide), (fun _ => trivial), (fun h0 => trivial)⟩, by rw [ht]; exact hw.2.1, va_K.moved hW.alike hK, hw.2.2.1⟩, hw.2.2.2.1.F ht⟩) hw.2.2.2.1.2.2 dX10_holds_210
            · by_cases k_34_72 : v_13 = 72
              · refine lv_lookup (tgt := 211) (off := 177) hx hb dX10_holds_34 (by decide) (by rw [k_34_72]; decide) (by decide) ?_
                have r_v_13 : RI v_13 72 72 := by rw [k_34_72]; exact rl_72
                refine lv_aload_n hx hb dX10_holds_211 rfl (lv_at hl 3 rfl) ?_
                refine lv_iload_n hx hb dX10_holds_212 rfl (lv_at hl 5 rfl) ?_
                refine tk_ir (va_runV (As := [.int p2]) (rest := []) ⟨hx, hb, hml, hown, hts⟩ (c_X10_whatIs l D cy z s.heap.size Ps w0 hw.1 p0 p2 h_p0 r_p2) (cwV 1 hts (gV tw_1449 tw_1451 ts_69 tw_15 tw_1452) rfl rfl rfl (by decide +kernel) ⟨Nat.le_of_ble_eq_true rfl, Nat.le_of_ble_eq_true rfl⟩) (tg_preV hw hK hSD hA (ci := 10) (q := (RX10, TX10, 49)) rfl h_p0 rfl) rfl rfl hl.1 rfl (lv_room (Nat.le_of_ble_eq_true rfl)) dX10_holds_213 ⟨Nat.le_of_ble_eq_true rfl, Nat.le_of_ble_eq_true rfl⟩) hw hA (fun v_22  H locs hp_v_22 hw => ?_)
                have r_v_22 : RI v_22 (-1) 5 := hp_v_22.1
                by_cases c9_v_22 : v_22.toInt < 0
                · have r_v_22 : RI v_22 (-1) (-1) := by unfold RI at r_v_22 ⊢; omega
                  have x_NB_p0_p2 := (hp_v_22.2.2.2.2.1 (by omega)).1
                  refine lv_iload hx hb dX10_holds_216 (lv_at hl 1 rfl) ?_
                  refine lv_icmp_ne (tgt := 225) hx hb dX10_holds_218 (by decide) (fun c_218 => ?_) (fun c_218 => ?_)
                  · refine lv_iconst (v := 0) hx hb dX10_holds_225 (by decide) ?_
                    subst hQ
                    exact W.zret (v := 0) hx hb hr (rfl) (fun t ht hW => ⟨⟨0, (), rfl, ⟨rl_0.to (by decide), (fun h0 => trivial), (fun _ => trivial)⟩, by rw [ht]; exact hw.2.1, va_K.moved hW.alike hK, hw.2.2.1⟩, hw.2.2.2.1.F ht⟩) hw.2.2.2.1.2.2 dX10_holds_226
                  · have r_v_10 : RI v_10 (-1) (-1) := rc_eq2 r_v_22 r_v_10 (ti_eq c_218) (by decide)
                    refine lv_iconst (v := 1) hx hb dX10_holds_221 (by decide) ?_
                    refine lv_goto (tgt := 226) hx hb dX10_holds_222 (by decide) ?_
                    subst hQ
                    exact W.zret (v := 1) hx hb hr (rfl) (fun t ht hW => ⟨⟨1, (), rfl, ⟨rl_1.to (by decide), (fun _ => trivial), (fun h0 => trivial)⟩, by rw [ht]; exact hw.2.1, va_K.moved hW.alike hK, hw.2.2.1⟩, hw.2.2.2.1.F ht⟩) hw.2.2.2.1.2.2 dX10_holds_226
                · have r_v_22 : RI v_22 0 5 := by unfold RI at r_v_22 ⊢; omega
                  have x_WB_p0_p2_v_22 := (hp_v_22.2.2.2.2.2 (by omega)).1
                  refine lv_iload hx hb dX10_holds_216 (lv_at hl 1 rfl) ?_
                  refine lv_icmp_ne (tgt := 225) hx hb dX10_holds_218 (by decide) (fun c_218 => ?_) (fun c_218 => ?_)
                  · refine lv_iconst (v := 0) hx hb dX10_holds_225 (by decide) ?_
                    subst hQ
                    exact W.zret (v := 0) hx hb hr (rfl) (fun t ht hW => ⟨⟨0, (), rfl, ⟨rl_0.to (by decide), (fun h0 => trivial), (fun _ => trivial)⟩, by rw [ht]; exact hw.2.1, va_K.moved hW.alike hK, hw.2.2.1⟩, hw.2.2.2.1.F ht⟩) hw.2.2.2.1.2.2 dX10_holds_226
                  · have r_v_10 : RI v_10 0 5 := rc_eq2 r_v_22 r_v_10 (ti_eq c_218) (by decide)
                    refine lv_iconst (v := 1) hx hb dX10_holds_221 (by decide) ?_
                    refine lv_goto (tgt := 226) hx hb dX10_holds_222 (by decide) ?_
                    subst hQ
                    exact W.zret (v := 1) hx hb hr (rfl) (fun t ht hW => ⟨⟨1, (), rfl, ⟨rl_1.to (by decide), (fun _ => trivial), (fun h0 => trivial)⟩, by rw [ht]; exact hw.2.1, va_K.moved hW.alike hK, hw.2.2.1⟩, hw.2.2.2.1.F ht⟩) hw.2.2.2.1.2.2 dX10_holds_226
              · by_cases k_34_73 : v_13 = 73
                · refine lv_lookup (tgt := 227) (off := 193) hx hb dX10_holds_34 (by decide) (by rw [k_34_73]; decide) (by decide) ?_
                  have r_v_13 : RI v_13 73 73 := by rw [k_34_73]; exact rl_73
                  refine lv_aload_n hx hb dX10_holds_227 rfl (lv_at hl 3 rfl) ?_
                  refine tg_mem (ci := 10) (C := RX10) (T := TX10) (N := 49) hx hb hts inX10 hown hK hw 14 m_u_8 rfl (by decide) (hts _ tw_1151) (fun _ h9 => h9) dX10_holds_228 ?_
                  refine lv_bipush (v := 86) hx hb dX10_holds_231 (by decide) ?_
                  refine lv_iload_n hx hb dX10_holds_233 rfl (lv_at hl 5 rfl) ?_
                  refine lv_iadd hx hb dX10_holds_234 (lv_topi (fun v_23 e_v_23 => ?_))
                  obtain ⟨t_v_23, r_v_23⟩ := tq_add (lo := 86) (hi := 91) rl_86 r_p2 (by decide +kernel) e_v_23
                  have t_v_23 : v_23.toInt = 86 + p2.toInt := t_v_23
                  refine tg_iald (lo := (-2147483648)) (hi := 2147483647) hx hb hK hw h_vu_8 rfl 86 91 r_v_23 (by decide) (by decide +kernel) dX10_holds_235 (fun v_24 r_v_24 m_v_24 o_v_24 => ?_)
                  refine lv_iload hx hb dX10_holds_236 (lv_at hl 1 rfl) ?_
                  refine lv_icmp_ne (tgt := 245) hx hb dX10_holds_238 (by decide) (fun c_238 => ?_) (fun c_238 => ?_)
                  · refine lv_iconst (v := 0) hx hb dX10_holds_245 (by decide) ?_
                    subst hQ
                    exact W.zret (v := 0) hx hb hr (rfl) (fun t ht hW => ⟨⟨0, (), rfl, ⟨rl_0.to (by decide), (fun h0 => trivial), (fun _ => trivial)⟩, by rw [ht]; exact hw.2.1, va_K.moved hW.alike hK, hw.2.2.1⟩, hw.2.2.2.1.F ht⟩) hw.2.2.2.1.2.2 dX10_holds_246
                  · refine lv_iconst (v := 1) hx hb dX10_holds_241 (by decide) ?_
                    refine lv_goto (tgt := 246) hx hb dX10_holds_242 (by decide) ?_
                    subst hQ
                    exact W.zret (v := 1) hx hb hr (rfl) (fun t ht hW => ⟨⟨1, (), rfl, ⟨rl_1.to (by decide), (fun _ => trivial), (fun h0 => trivial)⟩, by rw [ht]; exact hw.2.1, va_K.moved hW.alike hK, hw.2.2.1⟩, hw.2.2.2.1.F ht⟩) hw.2.2.2.1.2.2 dX10_holds_246
                · refine lv_lookup (tgt := 247) (off := 213) hx hb dX10_holds_34 (by decide) ((lv_osw k_34_1 (by decide)).trans ((lv_osw k_34_2 (by decide)).trans ((lv_osw k_34_3 (by decide)).trans ((lv_osw k_34_69 (by decide)).trans ((lv_osw k_34_70 (by decide)).trans ((lv_osw k_34_71 (by decide)).trans ((lv_osw k_34_72 (by decide)).trans ((lv_osw k_34_73 (by decide)).trans (rfl))))))))) (by decide) ?_
                  refine lv_aload_n hx hb dX10_holds_247 rfl (lv_at hl 3 rfl) ?_
                  refine tg_mem (ci := 10) (C := RX10) (T := TX10) (N := 49) hx hb hts inX10 hown hK hw 14 m_u_8 rfl (by decide) (hts _ tw_1151) (fun _ h9 => h9) dX10_holds_248 ?_
                  refine lv_iload_n hx hb dX10_holds_251 rfl (lv_at hl 2 rfl) ?_
                  refine tg_imem hx hb hK hw h_vu_8 rfl r_v_7 (by decide) m_v_13 dX10_holds_252 ?_
                  refine lv_bipush (v := 50) hx hb dX10_holds_253 (by decide) ?_
                  refine lv_isub hx hb dX10_holds_255 (lv_topi (fun v_26 e_v_26 => ?_))
                  have r_v_26 := ri_any v_26
                  refine lv_istore (lv' := [(6, .int v_26), (5, .int v_12), (4, .int v_10), (3, .int v_7), (0, .ref p0), (1, .int p1), (2, .int p2)]) hx hb dX10_holds_256 hl (by decide) rfl (fun ls hl => ?_)
                  refine lv_iload hx hb dX10_holds_258 (lv_at hl 0 rfl) ?_
                  refine lv_bipush (v := 24) hx hb dX10_holds_260 (by decide) ?_
                  refine lv_icmp_ne (tgt := 273) hx hb dX10_holds_262 (by decide) (fun c_262 => ?_) (fun c_262 => ?_)
                  · refine lv_iload hx hb dX10_holds_273 (lv_at hl 0 rfl) ?_
                    refine lv_bipush (v := 25) hx hb dX10_holds_275 (by decide) ?_
                    refine lv_icmp_ne (tgt := 292) hx hb dX10_holds_277 (by decide) (fun c_277 => ?_) (fun c_277 => ?_)
                    · refine lv_iload hx hb dX10_holds_292 (lv_at hl 0 rfl) ?_
                      refine lv_bipush (v := 26) hx hb dX10_holds_294 (by decide) ?_
                      refine lv_icmp_ne (tgt := 311) hx hb dX10_holds_296 (by decide) (fun c_296 => ?_) (fun c_296 => ?_)
                      · refine lv_iload_n hx hb dX10_holds_311 rfl (lv_at hl 6 rfl) ?_
                        exact B312 v_7 v_10 v_12 v_26 p2 _ _ ls r_p1 r_p2 r_v_7 r_v_10 r_v_12 r_v_26 (r_p2.to (by decide)) hw (lv_sub hl [4, 5, 6, 3, 2, 1, 0] rfl)
                      · have r_v_26 : RI v_26 26 26 := rc_eq1 r_v_26 rl_26 (ti_eq c_296) (by decide)
                        refine lv_aload_n hx hb dX10_holds_299 rfl (lv_at hl 4 rfl) ?_
                        refine tg_mem (ci := 10) (C := RX10) (T := TX10) (N := 49) hx hb hts inX10 hown hK hw 14 m_u_8 rfl (by decide) (hts _ tw_1151) (fun _ h9 => h9) dX10_holds_300 ?_
                        refine lv_bipush (v := 98) hx hb dX10_holds_303 (by decide) ?_
                        refine lv_iload_n hx hb dX10_holds_305 rfl (lv_at hl 6 rfl) ?_
                        refine lv_iadd hx hb dX10_holds_306 (lv_topi (fun v_27 e_v_27 => ?_))
                        obtain ⟨t_v_27, r_v_27⟩ := tq_add (lo := 98) (hi := 103) rl_98 r_p2 (by decide +kernel) e_v_27
                        have t_v_27 : v_27.toInt = 98 + p2.toInt := t_v_27
                        refine tg_iald (lo := (-2147483648)) (hi := 2147483647) hx hb hK hw h_vu_8 rfl 98 103 r_v_27 (by decide) (by decide +kernel) dX10_holds_307 (fun v_28 r_v_28 m_v_28 o_v_28 => ?_)
                        refine lv_goto (tgt := 312) hx hb dX10_holds_308 (by decide) ?_
                        exact B312 v_7 v_10 v_12 v_26 v_28 _ _ ls r_p1 r_p2 r_v_7 r_v_10 r_v_12 (r_v_26.to (by decide)) r_v_28 hw (lv_sub hl [4, 5, 6, 3, 2, 1, 0] rfl)
                    · have r_v_26 : RI v_26 25 25 := rc_eq1 r_v_26 rl_25 (ti_eq c_277) (by decide)
                      refine lv_aload_n hx hb dX10_holds_280 rfl (lv_at hl 4 rfl) ?_
                      refine tg_mem (ci := 10) (C := RX10) (T := TX10) (N := 49) hx hb hts inX10 hown hK hw 14 m_u_8 rfl (by decide) (hts _ tw_1151) (fun _ h9 => h9) dX10_holds_281 ?_
                      refine lv_bipush (v := 92) hx hb dX10_holds_284 (by decide) ?_
                      refine lv_iload_n hx hb dX10_holds_286 rfl (lv_at hl 6 rfl) ?_
                      refine lv_iadd hx hb dX10_holds_287 (lv_topi (fun v_29 e_v_29 => ?_))
                      obtain ⟨t_v_29, r_v_29⟩ := tq_add (lo := 92) (hi := 97) rl_92 r_p2 (by decide +kernel) e_v_29
                      have t_v_29 : v_29.toInt = 92 + p2.toInt := t_v_29
                      refine tg_iald (lo := (-2147483648)) (hi := 2147483647) hx hb hK hw h_vu_8 rfl 92 97 r_v_29 (by decide) (by decide +kernel) dX10_holds_288 (fun v_30 r_v_30 m_v_30 o_v_30 => ?_)
                      refine lv_goto (tgt := 312) hx hb dX10_holds_289 (by decide) ?_
                      exact B312 v_7 v_10 v_12 v_26 v_30 _ _ ls r_p1 r_p2 r_v_7 r_v_10 r_v_12 (r_v_26.to (by decide)) r_v_30 hw (lv_sub hl [4, 5, 6, 3, 2, 1, 0] rfl)
                  · have r_v_26 : RI v_26 24 24 := rc_eq1 r_v_26 rl_24 (ti_eq c_262) (by decide)
                    refine lv_aload_n hx hb dX10_holds_265 rfl (lv_at hl 4 rfl) ?_
                    refine lv_iload_n hx hb dX10_holds_266 rfl (lv_at hl 6 rfl) ?_
                    refine tk_ir (va_runV (As := [.int p2]) (rest := []) ⟨hx, hb, hml, hown, hts⟩ (c_X10_sizeOf l D cy z s.heap.size Ps w0 hw.1 p0 p2 h_p0 r_p2) (cwV 1 hts (gV tw_1453 tw_1455 ts_70 tw_15 tw_1456) rfl rfl rfl (by decide +kernel) ⟨Nat.le_of_ble_eq_true rfl, Nat.le_of_ble_eq_true rfl⟩) (tg_preV hw hK hSD hA (ci := 10) (q := (RX10, TX10, 49)) rfl h_p0 rfl) rfl rfl hl.1 rfl (lv_room (Nat.le_of_ble_eq_true rfl)) dX10_holds_267 ⟨Nat.le_of_ble_eq_true rfl, Nat.le_of_ble_eq_true rfl⟩) hw hA (fun v_31  H locs hp_v_31 hw => ?_)
                    have r_v_31 : RI v_31 (-2147483648) 2147483647 := hp_v_31.1
                    refine lv_goto (tgt := 312) hx hb dX10_holds_270 (by decide) ?_
                    exact B312 v_7 v_10 v_12 v_26 v_31 _ _ ls r_p1 r_p2 r_v_7 r_v_10 r_v_12 (r_v_26.to (by decide)) r_v_31 hw (lv_sub hl [4, 5, 6, 3, 2, 1, 0] rfl)
abbrev wr_X10_holds__5 : List (Nat × Nat) := []
abbrev wa_X10_holds__5 : List Nat := []
set_option maxHeartbeats 4000000 in
set_option maxRecDepth 100000 in
theorem c_X10_holds__5 (l : Launch) (D : va_G) (cy : Nat → ClassId) (z : Nat → Nat) (sz : Nat) (Ps : PSI) (w0 : va_W) (hT : HT cy GG Ps w0) (p0 : Nat) (p1 : Int32) (p2 : Int32) (h_p0 : (p0, 55) ∈ Ps) (r_p1 : RI p1 0 54) (r_p2 : RI p2 0 5) : Met l yX10_holds (Cond.code yX10_holds cX10_holds 8 (some .boolean) :: gT) ({ frames := 57, cells := 0, slots := 0, locals := 11400 } : Room) (va_Pc [.ref p0, .int p1, .int p2] (PRE D cy z w0 sz)) (va_Qi (fun (r : Int32) (u : Unit) => RI r 0 1 ∧ (r = 0 → True) ∧ (¬ r = 0 → True)) (BB D cy (va_A w0 sz) (fun (u : Unit) => w0)) (va_A w0 sz)) 0 0 (va_A w0 sz) := by
  refine Met.ofW (cc := cX10_holds) (maxL := 8) (ret := (some .boolean)) (by decide) rfl ?_
  intro p e s m args below meth c s₁ B hml hv
  obtain ⟨rfl, hsz, hP, hK, hD0, hSD⟩ := hv
  have hx := B.exec
  have hb := B.bytes
  have hr := B.returns
  have hlocks := B.notSynchronized
  have hts : ∀ w ∈ gT, w.before _ s = true := fun w h => atoms_spec (ws := Cond.code yX10_holds cX10_holds 8 (some .boolean) :: gT) B.pre w (List.mem_cons_of_mem _ h)
  have hown : s.vm.findClass RX10 = some m.cls := findClass_of_methodNamed B.named
  subst hsz
  have hD := hD0.self (sz := s.heap.size)
  generalize hAe : va_A w0 s.heap.size = A at hD hSD ⊢
  have hA : ∀ q : Nat, s.heap.size ≤ q → A q := fun q h => by rw [← hAe]; exact Or.inr h
  have hl := lv_entry ([.ref p0, .int p1, .int p2]) (n := 8) (Nat.le_of_ble_eq_true rfl)
  rw [lg_entry_eq]
  generalize (lg_sl ([.ref p0, .int p1, .int p2]) ++ List.replicate (8 - (lg_sl ([.ref p0, .int p1, .int p2])).length) Slot.unset).toArray = ls at hl ⊢
  have hl : lv_has ls 8 [(0, .ref p0), (1, .int p1), (2, .int p2)] := hl
  refine nameQ (fun Q hQ => ?_)
  have hw : WD D cy GG A s wr_X10_holds__5 wa_X10_holds__5 Ps w0 Ps w0 s.heap [] := ⟨hT, hP, hD, va_S.rf, FR.rf, hT.1, [], (List.append_nil _).symm⟩
  have B312 : ∀ (x3 : Int32) (x4 : Int32) (x5 : Int32) (x6 : Int32) (y0 : Int32) (H : Heap) (locs : List Loc) (ls : Array Slot), RI p1 0 54 → RI p2 0 5 → RI x3 174 390 → RI x4 (-2147483648) 2147483647 → RI x5 (-2147483648) 2147483647 → RI x6 (-2147483648) 2147483647 → RI y0 (-2147483648) 2147483647 → WD D cy GG A s wr_X10_holds__5 wa_X10_holds__5 Ps w0 Ps w0 H locs → lv_has ls 8 [(0, .ref p0), (1, .int p1), (2, .int p2), (3, .int x3), (4, .int x4), (5, .int x5), (6, .int x6)] → W p l e (headSpec (Cond.code yX10_holds cX10_holds 8 (some .boolean) :: gT) ({ frames := 57, cells := 0, slots := 0, locals := 11400 } : Room)).room s m ([.ref p0, .int p1, .int p2] : List Value).toArray below meth c H locs 0 0 Q (F0 m 312 ls [.int y0]) := by
    intro x3 x4 x5 x6 y0 H locs ls r_p1 r_p2 r_x3 r_x4 r_x5 r_x6 r_y0 hw hl
    refine lv_istore (lv' := [(7, .int y0), (0, .ref p0), (1, .int p1), (2, .int p2), (3, .int x3), (4, .int x4), (5, .int x5), (6, .int x6)]) hx hb dX10_holds_312 hl (by decide) rfl (fun ls hl => ?_)
    refine lv_aload_n hx hb dX10_holds_314 rfl (lv_at hl 1 rfl) ?_
    refine tg_get (ci := 10) (ts := ty_MODEL) (C := RX10) (T := TX10) (N := 49) hx hb hts inX10 hown hK hw h_p0 rfl rfl 14 (by decide) (hts _ tw_1151) (fun _ h9 => h9) (ft := vR 34) rfl dX10_holds_315 (fun u_1 hv_u_1 m_u_1 => ?_)
    obtain ⟨vu_1, rfl, h_vu_1⟩ := hv_u_1
    refine lv_iload_n hx hb dX10_holds_318 rfl (lv_at hl 4 rfl) ?_
    refine lv_iconst (v := 3) hx hb dX10_holds_319 (by decide) ?_
    refine lv_iadd hx hb dX10_holds_320 (lv_topi (fun v_2 e_v_2 => ?_))
    obtain ⟨t_v_2, r_v_2⟩ := tq_add (lo := 177) (hi := 393) r_x3 rl_3 (by decide +kernel) e_v_2
    have t_v_2 : v_2.toInt = x3.toInt + 3 := t_v_2
    refine tg_iald (lo := (-2147483648)) (hi := 2147483647) hx hb hK hw h_vu_1 rfl 177 393 r_v_2 (by decide) (by decide +kernel) dX10_holds_321 (fun v_3 r_v_3 m_v_3 o_v_3 => ?_)
    refine lv_bipush (v := 60) hx hb dX10_holds_322 (by decide) ?_
    refine lv_icmp_ne (tgt := 342) hx hb dX10_holds_324 (by decide) (fun c_324 => ?_) (fun c_324 => ?_)
    · refine lv_aload_n hx hb dX10_holds_342 rfl (lv_at hl 1 rfl) ?_
      refine tg_mem (ci := 10) (C := RX10) (T := TX10) (N := 49) hx hb hts inX10 hown hK hw 14 m_u_1 rfl (by decide) (hts _ tw_1151) (fun _ h9 => h9) dX10_holds_343 ?_
      refine lv_iload_n hx hb dX10_holds_346 rfl (lv_at hl 4 rfl) ?_
      refine lv_iconst (v := 3) hx hb dX10_holds_347 (by decide) ?_
      refine lv_iadd hx hb dX10_holds_348 (lv_topi (fun v_4 e_v_4 => ?_))
      obtain ⟨t_v_4, r_v_4⟩ := tq_add (lo := 177) (hi := 393) r_x3 rl_3 (by decide +kernel) e_v_4
      have t_v_4 : v_4.toInt = x3.toInt + 3 := t_v_4
      refine tg_iald (lo := (-2147483648)) (hi := 2147483647) hx hb hK hw h_vu_1 rfl 177 393 r_v_4 (by decide) (by decide +kernel) dX10_holds_349 (fun v_5 r_v_5 m_v_5 o_v_5 => ?_)
      refine lv_bipush (v := 61) hx hb dX10_holds_350 (by decide) ?_
      refine lv_icmp_ne (tgt := 370) hx hb dX10_holds_352 (by decide) (fun c_352 => ?_) (fun c_352 => ?_)
      · refine lv_iload hx hb dX10_holds_370 (lv_at hl 0 rfl) ?_
        refine lv_iload hx hb dX10_holds_372 (lv_at hl 6 rfl) ?_
        refine lv_icmp_le (tgt := 381) hx hb dX10_holds_374 (by decide) (fun c_374 => ?_) (fun c_374 => ?_)
        · refine lv_iconst (v := 0) hx hb dX10_holds_381 (by decide) ?_
          subst hQ
          exact W.zret (v := 0) hx hb hr (rfl) (fun t ht hW => ⟨⟨0, (), rfl, ⟨rl_0.to (by decide), (fun h0 => trivial), (fun _ => trivial)⟩, by rw [ht]; exact hw.2.1, va_K.moved hW.alike hK, hw.2.2.1⟩, hw.2.2.2.1.F ht⟩) hw.2.2.2.1.2.2 dX10_holds_382
        · have r_x5 : RI x5 (-2147483648) 2147483646 := rc_lt1 r_x5 r_y0 (ti_nle c_374) (by decide)
          have r_y0 : RI y0 (-2147483647) 2147483647 := rc_lt2 r_x5 r_y0 (ti_nle c_374) (by decide)
          refine lv_iconst (v := 1) hx hb dX10_holds_377 (by decide) ?_
          refine lv_goto (tgt := 382) hx hb dX10_holds_378 (by decide) ?_
          subst hQ
          exact W.zret (v := 1) hx hb hr (rfl) (fun t ht hW => ⟨⟨1, (), rfl, ⟨rl_1.to (by decide), (fun _ => trivial), (fun h0 => trivial)⟩, by rw [ht]; exact hw.2.1, va_K.moved hW.alike hK, hw.2.2.1⟩, hw.2.2.2.1.F ht⟩) hw.2.2.2.1.2.2 dX10_holds_382
      · have r_v_5 : RI v_5 61 61 := rc_eq1 r_v_5 rl_61 (ti_eq c_352) (by decide)
        refine lv_iload hx hb dX10_holds_355 (lv_at hl 0 rfl) ?_
        refine lv_iload hx hb dX10_holds_357 (lv_at hl 6 rfl) ?_
        refine lv_icmp_ne (tgt := 366) hx hb dX10_holds_359 (by decide) (fun c_359 => ?_) (fun c_359 => ?_)
        · refine lv_iconst (v := 0) hx hb dX10_holds_366 (by decide) ?_
          refine lv_goto (tgt := 382) hx hb dX10_holds_367 (by decide) ?_
          subst hQ
          exact W.zret (v := 0) hx hb hr (rfl) (fun t ht hW => ⟨⟨0, (), rfl, ⟨rl_0.to (by decide), (fun h0 => trivial), (fun _ => trivial)⟩, by rw [ht]; exact hw.2.1, va_K.moved hW.alike hK, hw.2.2.1⟩, hw.2.2.2.1.F ht⟩) hw.2.2.2.1.2.2 dX10_holds_382
        · refine lv_iconst (v := 1) hx hb dX10_holds_362 (by decide) ?_
          refine lv_goto (tgt := 382) hx hb dX10_holds_363 (by decide) ?_
          subst hQ
          exact W.zret (v := 1) hx hb hr (rfl) (fun t ht hW => ⟨⟨1, (), rfl, ⟨rl_1.to (by decide), (fun _ => trivial), (fun h0 => trivial)⟩, by rw [ht]; exact hw.2.1, va_K.moved hW.alike hK, hw.2.2.1⟩, hw.2.2.2.1.F ht⟩) hw.2.2.2.1.2.2 dX10_holds_382
    · have r_v_3 : RI v_3 60 60 := rc_eq1 r_v_3 rl_60 (ti_eq c_324) (by decide)
      refine lv_iload hx hb dX10_holds_327 (lv_at hl 0 rfl) ?_
      refine lv_iload hx hb dX10_holds_329 (lv_at hl 6 rfl) ?_
      refine lv_icmp_ge (tgt := 338) hx hb dX10_holds_331 (by decide) (fun c_331 => ?_) (fun c_331 => ?_)
      · refine lv_iconst (v := 0) hx hb dX10_holds_338 (by decide) ?_
        refine lv_goto (tgt := 382) hx hb dX10_holds_339 (by decide) ?_
        subst hQ
        exact W.zret (v := 0) hx hb hr (rfl) (fun t ht hW => ⟨⟨0, (), rfl, ⟨rl_0.to (by decide), (fun h0 => trivial), (fun _ => trivial)⟩, by rw [ht]; exact hw.2.1, va_K.moved hW.alike hK, hw.2.2.1⟩, hw.2.2.2.1.F ht⟩) hw.2.2.2.1.2.2 dX10_holds_382
      · have r_y0 : RI y0 (-2147483648) 2147483646 := rc_lt1 r_y0 r_x5 (ti_nle c_331) (by decide)
        have r_x5 : RI x5 (-2147483647) 2147483647 := rc_lt2 r_y0 r_x5 (ti_nle c_331) (by decide)
        refine lv_iconst (v := 1) hx hb dX10_holds_334 (by decide) ?_
        refine lv_goto (tgt := 382) hx hb dX10_holds_335 (by decide) ?_
        subst hQ
        exact W.zret (v := 1) hx hb hr (rfl) (fun t ht hW => ⟨⟨1, (), rfl, ⟨rl_1.to (by decide), (fun _ => trivial), (fun h0 => trivial)⟩, by rw [ht]; exact hw.2.1, va_K.moved hW.alike hK, hw.2.2.1⟩, hw.2.2.2.1.F ht⟩) hw.2.2.2.1.2.2 dX10_holds_382
  refine lv_sipush (v := 174) hx hb dX10_holds_0 (by decide) ?_
  refine lv_iconst (v := 4) hx hb dX10_holds_3 (by decide) ?_
  refine lv_iload_n hx hb dX10_holds_4 rfl (lv_at hl 1 rfl) ?_
  refine lv_imul hx hb dX10_holds_5 (lv_topi (fun v_6 e_v_6 => ?_))
  obtain ⟨t_v_6, r_v_6⟩ := tq_mul (lo := 0) (hi := 216) rl_4 r_p1 (by decide +kernel) e_v_6
  have t_v_6 : v_6.toInt = 4 * p1.toInt := t_v_6
  refine lv_iadd hx hb dX10_holds_6 (lv_topi (fun v_7 e_v_7 => ?_))
  obtain ⟨t_v_7, r_v_7⟩ := tq_add (lo := 174) (hi := 390) rl_174 r_v_6 (by decide +kernel) e_v_7
  have t_v_7 : v_7.toInt = 174 + v_6.toInt := t_v_7
  refine lv_istore_n (lv' := [(3, .int v_7), (0, .ref p0), (1, .int p1), (2, .int p2)]) hx hb dX10_holds_7 rfl hl (by decide) rfl (fun ls hl => ?_)
  refine lv_aload_n hx hb dX10_holds_8 rfl (lv_at hl 1 rfl) ?_
  refine tg_get (ci := 10) (ts := ty_MODEL) (C := RX10) (T := TX10) (N := 49) hx hb hts inX10 hown hK hw h_p0 rfl rfl 14 (by decide) (hts _ tw_1151) (fun _ h9 => h9) (ft := vR 34) rfl dX10_holds_9 (fun u_8 hv_u_8 m_u_8 => ?_)
  obtain ⟨vu_8, rfl, h_vu_8⟩ := hv_u_8
  refine lv_iload_n hx hb dX10_holds_12 rfl (lv_at hl 0 rfl) ?_
  refine lv_iconst (v := 1) hx hb dX10_holds_13 (by decide) ?_
  refine lv_iadd hx hb dX10_holds_14 (lv_topi (fun v_9 e_v_9 => ?_))
  obtain ⟨t_v_9, r_v_9⟩ := tq_add (lo := 175) (hi := 391) r_v_7 rl_1 (by decide +kernel) e_v_9
  have t_v_9 : v_9.toInt = v_7.toInt + 1 := t_v_9
  refine tg_iald (lo := (-2147483648)) (hi := 2147483647) hx hb hK hw h_vu_8 rfl 175 391 r_v_9 (by decide) (by decide +kernel) dX10_holds_15 (fun v_10 r_v_10 m_v_10 o_v_10 => ?_)
  refine lv_istore (lv' := [(4, .int v_10), (3, .int v_7), (0, .ref p0), (1, .int p1), (2, .int p2)]) hx hb dX10_holds_16 hl (by decide) rfl (fun ls hl => ?_)
  refine lv_aload_n hx hb dX10_holds_18 rfl (lv_at hl 2 rfl) ?_
  refine tg_mem (ci := 10) (C := RX10) (T := TX10) (N := 49) hx hb hts inX10 hown hK hw 14 m_u_8 rfl (by decide) (hts _ tw_1151) (fun _ h9 => h9) dX10_holds_19 ?_
  refine lv_iload_n hx hb dX10_holds_22 rfl (lv_at hl 1 rfl) ?_
  refine lv_iconst (v := 2) hx hb dX10_holds_23 (by decide) ?_
  refine lv_iadd hx hb dX10_holds_24 (lv_topi (fun v_11 e_v_11 => ?_))
  obtain ⟨t_v_11, r_v_11⟩ := tq_add (lo := 176) (hi := 392) r_v_7 rl_2 (by decide +kernel) e_v_11
  have t_v_11 : v_11.toInt = v_7.toInt + 2 := t_v_11
  refine tg_iald (lo := (-2147483648)) (hi := 2147483647) hx hb hK hw h_vu_8 rfl 176 392 r_v_11 (by decide) (by decide +kernel) dX10_holds_25 (fun v_12 r_v_12 m_v_12 o_v_12 => ?_)
  refine lv_istore (lv' := [(5, .int v_12), (4, .int v_10), (3, .int v_7), (0, .ref p0), (1, .int p1), (2, .int p2)]) hx hb dX10_holds_26 hl (by decide) rfl (fun ls hl => ?_)
  refine lv_aload_n hx hb dX10_holds_28 rfl (lv_at hl 3 rfl) ?_
  refine tg_mem (ci := 10) (C := RX10) (T := TX10) (N := 49) hx hb hts inX10 hown hK hw 14 m_u_8 rfl (by decide) (hts _ tw_1151) (fun _ h9 => h9) dX10_holds_29 ?_
  refine lv_iload_n hx hb dX10_holds_32 rfl (lv_at hl 2 rfl) ?_
  refine tg_iald (lo := (-2147483648)) (hi := 2147483647) hx hb hK hw h_vu_8 rfl 174 390 r_v_7 (by decide) (by decide +kernel) dX10_holds_33 (fun v_13 r_v_13 m_v_13 o_v_13 => ?_)
  by_cases k_34_1 : v_13 = 1
  · refine lv_lookup (tgt := 108) (off := 74) hx hb dX10_holds_34 (by decide) (by rw [k_34_1]; decide) (by decide) ?_
    have r_v_13 : RI v_13 1 1 := by rw [k_34_1]; exact rl_1
    have g_v_10 : 0 ≤ v_10.toInt ∧ v_10.toInt < p1.toInt := by obtain ⟨_, f9, e8, e7, q9, _⟩ := ax_of (k := 14) (t := 34) hw h_p0 rfl (fun _ => rfl); cases FLD.inj hw.2.2.1 e8 m_u_8; have t9 := ARR.ael hw.2.2.1 e7 m_v_13; have x9 := ARR.ael hw.2.2.1 e7 m_v_10; rw [show Int32.toNatClampNeg v_7 = 174 + 4 * Int32.toNatClampNeg p1 from (by have k1 := r_v_7.cl (by decide); have k2 := r_p1.cl (by decide); omega)] at t9; rw [show Int32.toNatClampNeg v_9 = 175 + 4 * Int32.toNatClampNeg p1 from (by have k1 := r_v_9.cl (by decide); have k2 := r_p1.cl (by decide); omega)] at x9; exact RN_child q9 (r_p1.to (by decide)) t9 x9 (r_v_13.to (by decide))
    have r_v_10 : RI v_10 0 53 := ⟨g_v_10.1, by have k1 := r_p1.2; omega⟩
    refine lv_aload_n hx hb dX10_holds_108 rfl (lv_at hl 3 rfl) ?_
    refine lv_iload hx hb dX10_holds_109 (lv_at hl 1 rfl) ?_
    refine lv_iload_n hx hb dX10_holds_111 rfl (lv_at hl 5 rfl) ?_
    refine tk_ir (va_runV (As := [.int v_10, .int p2]) (rest := []) ⟨hx, hb, hml, hown, hts⟩ (c_X10_holds__6 l D cy z s.heap.size Ps w0 hw.1 p0 v_10 p2 h_p0 r_v_10 r_p2) (cwV 2 hts (gV tw_1787 tw_1789 ts_119 tw_15 tw_1790) rfl rfl rfl (by decide +kernel) ⟨Nat.le_of_ble_eq_true rfl, Nat.le_of_ble_eq_true rfl⟩) (tg_preV hw hK hSD hA (ci := 10) (q := (RX10, TX10, 49)) rfl h_p0 rfl) rfl rfl hl.1 rfl (lv_room (Nat.le_of_ble_eq_true rfl)) dX10_holds_112 ⟨Nat.le_of_ble_eq_true rfl, Nat.le_of_ble_eq_true rfl⟩) hw hA (fun v_14  H locs hp_v_14 hw => ?_)
    have r_v_14 : RI v_14 0 1 := hp_v_14.1
    refine lv_if_ne (tgt := 122) hx hb dX10_holds_115 (by decide) (fun c_115 => ?_) (fun c_115 => ?_)
    · have r_v_14 : RI v_14 1 1 := rc_neL r_v_14 rl_0 (ti_ne c_115) (by decide)
      refine lv_iconst (v := 0) hx hb dX10_holds_122 (by decide) ?_
      subst hQ
      exact W.zret (v := 0) hx hb hr (rfl) (fun t ht hW => ⟨⟨0, (), rfl, ⟨rl_0.to (by decide), (fun h0 => trivial), (fun _ => trivial)⟩, by rw [ht]; exact hw.2.1, va_K.moved hW.alike hK, hw.2.2.1⟩, hw.2.2.2.1.F ht⟩) hw.2.2.2.1.2.2 dX10_holds_123
    · have r_v_14 : RI v_14 0 0 := rc_eq1 r_v_14 rl_0 (ti_eq c_115) (by decide)
      refine lv_iconst (v := 1) hx hb dX10_holds_118 (by decide) ?_
      refine lv_goto (tgt := 123) hx hb dX10_holds_119 (by decide) ?_
      subst hQ
      exact W.zret (v := 1) hx hb hr (rfl) (fun t ht hW => ⟨⟨1, (), rfl, ⟨rl_1.to (by decide), (fun _ => trivial), (fun h0 => trivial)⟩, by rw [ht]; exact hw.2.1, va_K.moved hW.alike hK, hw.2.2.1⟩, hw.2.2.2.1.F ht⟩) hw.2.2.2.1.2.2 dX10_holds_123
  · by_cases k_34_2 : v_13 = 2
    · refine lv_lookup (tgt := 124) (off := 90) hx hb dX10_holds_34 (by decide) (by rw [k_34_2]; decide) (by decide) ?_
      have r_v_13 : RI v_13 2 2 := by rw [k_34_2]; exact rl_2
      have g_v_10 : 0 ≤ v_10.toInt ∧ v_10.toInt < p1.toInt := by obtain ⟨_, f9, e8, e7, q9, _⟩ := ax_of (k := 14) (t := 34) hw h_p0 rfl (fun _ => rfl); cases FLD.inj hw.2.2.1 e8 m_u_8; have t9 := ARR.ael hw.2.2.1 e7 m_v_13; have x9 := ARR.ael hw.2.2.1 e7 m_v_10; rw [show Int32.toNatClampNeg v_7 = 174 + 4 * Int32.toNatClampNeg p1 from (by have k1 := r_v_7.cl (by decide); have k2 := r_p1.cl (by decide); omega)] at t9; rw [show Int32.toNatClampNeg v_9 = 175 + 4 * Int32.toNatClampNeg p1 from (by have k1 := r_v_9.cl (by decide); have k2 := r_p1.cl (by decide); omega)] at x9; exact RN_child q9 (r_p1.to (by decide)) t9 x9 (r_v_13.to (by decide))
      have r_v_10 : RI v_10 0 53 := ⟨g_v_10.1, by have k1 := r_p1.2; omega⟩
      have g_v_12 : 0 ≤ v_12.toInt ∧ v_12.toInt < p1.toInt := by obtain ⟨_, f9, e8, e7, q9, _⟩ := ax_of (k := 14) (t := 34) hw h_p0 rfl (fun _ => rfl); cases FLD.inj hw.2.2.1 e8 m_u_8; have t9 := ARR.ael hw.2.2.1 e7 m_v_13; have x9 := ARR.ael hw.2.2.1 e7 m_v_12; rw [show Int32.toNatClampNeg v_7 = 174 + 4 * Int32.toNatClampNeg p1 from (by have k1 := r_v_7.cl (by decide); have k2 := r_p1.cl (by decide); omega)] at t9; rw [show Int32.toNatClampNeg v_11 = 176 + 4 * Int32.toNatClampNeg p1 from (by have k1 := r_v_11.cl (by decide); have k2 := r_p1.cl (by decide); omega)] at x9; exact RN_child2 q9 (r_p1.to (by decide)) t9 x9 (r_v_13.to (by decide))
      have r_v_12 : RI v_12 0 53 := ⟨g_v_12.1, by have k1 := r_p1.2; omega⟩
      refine lv_aload_n hx hb dX10_holds_124 rfl (lv_at hl 3 rfl) ?_
      refine lv_iload hx hb dX10_holds_125 (lv_at hl 1 rfl) ?_
      refine lv_iload_n hx hb dX10_holds_127 rfl (lv_at hl 5 rfl) ?_
      refine tk_ir (va_runV (As := [.int v_10, .int p2]) (rest := []) ⟨hx, hb, hml, hown, hts⟩ (c_X10_holds__6 l D cy z s.heap.size Ps w0 hw.1 p0 v_10 p2 h_p0 r_v_10 r_p2) (cwV 2 hts (gV tw_1787 tw_1789 ts_119 tw_15 tw_1790) rfl rfl rfl (by decide +kernel) ⟨Nat.le_of_ble_eq_true rfl, Nat.le_of_ble_eq_true rfl⟩) (tg_preV hw hK hSD hA (ci := 10) (q := (RX10, TX10, 49)) rfl h_p0 rfl) rfl rfl hl.1 rfl (lv_room (Nat.le_of_ble_eq_true rfl)) dX10_holds_128 ⟨Nat.le_of_ble_eq_true rfl, Nat.le_of_ble_eq_true rfl⟩) hw hA (fun v_15  H locs hp_v_15 hw => ?_)
      have r_v_15 : RI v_15 0 1 := hp_v_15.1
      refine lv_if_eq (tgt := 148) hx hb dX10_holds_131 (by decide) (fun c_131 => ?_) (fun c_131 => ?_)
      · have r_v_15 : RI v_15 0 0 := rc_eq1 r_v_15 rl_0 (ti_eq c_131) (by decide)
        refine lv_iconst (v := 0) hx hb dX10_holds_148 (by decide) ?_
        subst hQ
        exact W.zret (v := 0) hx hb hr (rfl) (fun t ht hW => ⟨⟨0, (), rfl, ⟨rl_0.to (by decide), (fun h0 => trivial), (fun _ => trivial)⟩, by rw [ht]; exact hw.2.1, va_K.moved hW.alike hK, hw.2.2.1⟩, hw.2.2.2.1.F ht⟩) hw.2.2.2.1.2.2 dX10_holds_149
      · have r_v_15 : RI v_15 1 1 := rc_neL r_v_15 rl_0 (ti_ne c_131) (by decide)
        refine lv_aload_n hx hb dX10_holds_134 rfl (lv_at hl 3 rfl) ?_
        refine lv_iload hx hb dX10_holds_135 (lv_at hl 0 rfl) ?_
        refine lv_iload_n hx hb dX10_holds_137 rfl (lv_at hl 5 rfl) ?_
        refine tk_ir (va_runV (As := [.int v_12, .int p2]) (rest := []) ⟨hx, hb, hml, hown, hts⟩ (c_X10_holds__6 l D cy z H.size Ps w0 hw.1 p0 v_12 p2 h_p0 r_v_12 r_p2) (cwV 2 hts (gV tw_1787 tw_1789 ts_119 tw_15 tw_1790) rfl rfl rfl (by decide +kernel) ⟨Nat.le_of_ble_eq_true rfl, Nat.le_of_ble_eq_true rfl⟩) (tg_preV hw hK hSD hA (ci := 10) (q := (RX10, TX10, 49)) rfl h_p0 rfl) rfl rfl hl.1 rfl (lv_room (Nat.le_of_ble_eq_true rfl)) dX10_holds_138 ⟨Nat.le_of_ble_eq_true rfl, Nat.le_of_ble_eq_true rfl⟩) hw hA (fun v_16  H locs hp_v_16 hw => ?_)
        have r_v_16 : RI v_16 0 1 := hp_v_16.1
        refine lv_if_eq (tgt := 148) hx hb dX10_holds_141 (by decide) (fun c_141 => ?_) (fun c_141 => ?_)
        · have r_v_16 : RI v_16 0 0 := rc_eq1 r_v_16 rl_0 (ti_eq c_141) (by decide)
          refine lv_iconst (v := 0) hx hb dX10_holds_148 (by decide) ?_
          subst hQ
          exact W.zret (v := 0) hx hb hr (rfl) (fun t ht hW => ⟨⟨0, (), rfl, ⟨rl_0.to (by decide), (fun h0 => trivial), (fun _ => trivial)⟩, by rw [ht]; exact hw.2.1, va_K.moved hW.alike hK, hw.2.2.1⟩, hw.2.2.2.1.F ht⟩) hw.2.2.2.1.2.2 dX10_holds_149
        · have r_v_16 : RI v_16 1 1 := rc_neL r_v_16 rl_0 (ti_ne c_141) (by decide)
          refine lv_iconst (v := 1) hx hb dX10_holds_144 (by decide) ?_
          refine lv_goto (tgt := 149) hx hb dX10_holds_145 (by decide) ?_
          subst hQ
          exact W.zret (v := 1) hx hb hr (rfl) (fun t ht hW => ⟨⟨1, (), rfl, ⟨rl_1.to (by decide), (fun _ => trivial), (fun h0 => trivial)⟩, by rw [ht]; exact hw.2.1, va_K.moved hW.alike hK, hw.2.2.1⟩, hw.2.2.2.1.F ht⟩) hw.2.2.2.1.2.2 dX10_holds_149
    · by_cases k_34_3 : v_13 = 3
      · refine lv_lookup (tgt := 150) (off := 116) hx hb dX10_holds_34 (by decide) (by rw [k_34_3]; decide) (by decide) ?_
        have r_v_13 : RI v_13 3 3 := by rw [k_34_3]; exact rl_3
        have g_v_10 : 0 ≤ v_10.toInt ∧ v_10.toInt < p1.toInt := by obtain ⟨_, f9, e8, e7, q9, _⟩ := ax_of (k := 14) (t := 34) hw h_p0 rfl (fun _ => rfl); cases FLD.inj hw.2.2.1 e8 m_u_8; have t9 := ARR.ael hw.2.2.1 e7 m_v_13; have x9 := ARR.ael hw.2.2.1 e7 m_v_10; rw [show Int32.toNatClampNeg v_7 = 174 + 4 * Int32.toNatClampNeg p1 from (by have k1 := r_v_7.cl (by decide); have k2 := r_p1.cl (by decide); omega)] at t9; rw [show Int32.toNatClampNeg v_9 = 175 + 4 * Int32.toNatClampNeg p1 from (by have k1 := r_v_9.cl (by decide); have k2 := r_p1.cl (by decide); omega)] at x9; exact RN_child q9 (r_p1.to (by decide)) t9 x9 (r_v_13.to (by decide))
        have r_v_10 : RI v_10 0 53 := ⟨g_v_10.1, by have k1 := r_p1.2; omega⟩
        have g_v_12 : 0 ≤ v_12.toInt ∧ v_12.toInt < p1.toInt := by obtain ⟨_, f9, e8, e7, q9, _⟩ := ax_of (k := 14) (t := 34) hw h_p0 rfl (fun _ => rfl); cases FLD.inj hw.2.2.1 e8 m_u_8; have t9 := ARR.ael hw.2.2.1 e7 m_v_13; have x9 := ARR.ael hw.2.2.1 e7 m_v_12; rw [show Int32.toNatClampNeg v_7 = 174 + 4 * Int32.toNatClampNeg p1 from (by have k1 := r_v_7.cl (by decide); have k2 := r_p1.cl (by decide); omega)] at t9; rw [show Int32.toNatClampNeg v_11 = 176 + 4 * Int32.toNatClampNeg p1 from (by have k1 := r_v_11.cl (by decide); have k2 := r_p1.cl (by decide); omega)] at x9; exact RN_child2 q9 (r_p1.to (by decide)) t9 x9 (r_v_13.to (by decide))
        have r_v_12 : RI v_12 0 53 := ⟨g_v_12.1, by have k1 := r_p1.2; omega⟩
        refine lv_aload_n hx hb dX10_holds_150 rfl (lv_at hl 3 rfl) ?_
        refine lv_iload hx hb dX10_holds_151 (lv_at hl 1 rfl) ?_
        refine lv_iload_n hx hb dX10_holds_153 rfl (lv_at hl 5 rfl) ?_
        refine tk_ir (va_runV (As := [.int v_10, .int p2]) (rest := []) ⟨hx, hb, hml, hown, hts⟩ (c_X10_holds__6 l D cy z s.heap.size Ps w0 hw.1 p0 v_10 p2 h_p0 r_v_10 r_p2) (cwV 2 hts (gV tw_1787 tw_1789 ts_119 tw_15 tw_1790) rfl rfl rfl (by decide +kernel) ⟨Nat.le_of_ble_eq_true rfl, Nat.le_of_ble_eq_true rfl⟩) (tg_preV hw hK hSD hA (ci := 10) (q := (RX10, TX10, 49)) rfl h_p0 rfl) rfl rfl hl.1 rfl (lv_room (Nat.le_of_ble_eq_true rfl)) dX10_holds_154 ⟨Nat.le_of_ble_eq_true rfl, Nat.le_of_ble_eq_true rfl⟩) hw hA (fun v_17  H locs hp_v_17 hw => ?_)
        have r_v_17 : RI v_17 0 1 := hp_v_17.1
        refine lv_if_ne (tgt := 170) hx hb dX10_holds_157 (by decide) (fun c_157 => ?_) (fun c_157 => ?_)
        · have r_v_17 : RI v_17 1 1 := rc_neL r_v_17 rl_0 (ti_ne c_157) (by decide)
          refine lv_iconst (v := 1) hx hb dX10_holds_170 (by decide) ?_
          refine lv_goto (tgt := 175) hx hb dX10_holds_171 (by decide) ?_
          subst hQ
          exact W.zret (v := 1) hx hb hr (rfl) (fun t ht hW => ⟨⟨1, (), rfl, ⟨rl_1.to (by decide), (fun _ => trivial), (fun h0 => trivial)⟩, by rw [ht]; exact hw.2.1, va_K.moved hW.alike hK, hw.2.2.1⟩, hw.2.2.2.1.F ht⟩) hw.2.2.2.1.2.2 dX10_holds_175
        · have r_v_17 : RI v_17 0 0 := rc_eq1 r_v_17 rl_0 (ti_eq c_157) (by decide)
          refine lv_aload_n hx hb dX10_holds_160 rfl (lv_at hl 3 rfl) ?_
          refine lv_iload hx hb dX10_holds_161 (lv_at hl 0 rfl) ?_
          refine lv_iload_n hx hb dX10_holds_163 rfl (lv_at hl 5 rfl) ?_
          refine tk_ir (va_runV (As := [.int v_12, .int p2]) (rest := []) ⟨hx, hb, hml, hown, hts⟩ (c_X10_holds__6 l D cy z H.size Ps w0 hw.1 p0 v_12 p2 h_p0 r_v_12 r_p2) (cwV 2 hts (gV tw_1787 tw_1789 ts_119 tw_15 tw_1790) rfl rfl rfl (by decide +kernel) ⟨Nat.le_of_ble_eq_true rfl, Nat.le_of_ble_eq_true rfl⟩) (tg_preV hw hK hSD hA (ci := 10) (q := (RX10, TX10, 49)) rfl h_p0 rfl) rfl rfl hl.1 rfl (lv_room (Nat.le_of_ble_eq_true rfl)) dX10_holds_164 ⟨Nat.le_of_ble_eq_true rfl, Nat.le_of_ble_eq_true rfl⟩) hw hA (fun v_18  H locs hp_v_18 hw => ?_)
          have r_v_18 : RI v_18 0 1 := hp_v_18.1
          refine lv_if_eq (tgt := 174) hx hb dX10_holds_167 (by decide) (fun c_167 => ?_) (fun c_167 => ?_)
          · have r_v_18 : RI v_18 0 0 := rc_eq1 r_v_18 rl_0 (ti_eq c_167) (by decide)
            refine lv_iconst (v := 0) hx hb dX10_holds_174 (by decide) ?_
            subst hQ
            exact W.zret (v := 0) hx hb hr (rfl) (fun t ht hW => ⟨⟨0, (), rfl, ⟨rl_0.to (by decide), (fun h0 => trivial), (fun _ => trivial)⟩, by rw [ht]; exact hw.2.1, va_K.moved hW.alike hK, hw.2.2.1⟩, hw.2.2.2.1.F ht⟩) hw.2.2.2.1.2.2 dX10_holds_175
          · have r_v_18 : RI v_18 1 1 := rc_neL r_v_18 rl_0 (ti_ne c_167) (by decide)
            refine lv_iconst (v := 1) hx hb dX10_holds_170 (by decide) ?_
            refine lv_goto (tgt := 175) hx hb dX10_holds_171 (by decide) ?_
            subst hQ
            exact W.zret (v := 1) hx hb hr (rfl) (fun t ht hW => ⟨⟨1, (), rfl, ⟨rl_1.to (by decide), (fun _ => trivial), (fun h0 => trivial)⟩, by rw [ht]; exact hw.2.1, va_K.moved hW.alike hK, hw.2.2.1⟩, hw.2.2.2.1.F ht⟩) hw.2.2.2.1.2.2 dX10_holds_175
      · by_cases k_34_69 : v_13 = 69
        · refine lv_lookup (tgt := 176) (off := 142) hx hb dX10_holds_34 (by decide) (by rw [k_34_69]; decide) (by decide) ?_
          have r_v_13 : RI v_13 69 69 := by rw [k_34_69]; exact rl_69
          refine lv_aload_n hx hb dX10_holds_176 rfl (lv_at hl 3 rfl) ?_
          refine lv_iload_n hx hb dX10_holds_177 rfl (lv_at hl 5 rfl) ?_
          refine tk_ir (va_runV (As := [.int p2]) (rest := []) ⟨hx, hb, hml, hown, hts⟩ (c_X10_isOpen l D cy z s.heap.size Ps w0 hw.1 p0 p2 h_p0 (r_p2.to (by decide))) (cwV 1 hts (gV tw_1457 tw_1459 ts_71 tw_15 tw_1460) rfl rfl rfl (by decide +kernel) ⟨Nat.le_of_ble_eq_true rfl, Nat.le_of_ble_eq_true rfl⟩) (tg_preV hw hK hSD hA (ci := 10) (q := (RX10, TX10, 49)) rfl h_p0 rfl) rfl rfl hl.1 rfl (lv_room (Nat.le_of_ble_eq_true rfl)) dX10_holds_178 ⟨Nat.le_of_ble_eq_true rfl, Nat.le_of_ble_eq_true rfl⟩) hw hA (fun v_19  H locs hp_v_19 hw => ?_)
          have r_v_19 : RI v_19 0 1 := hp_v_19.1
          subst hQ
          exact W.zret (v := v_19) hx hb hr (tq_nz (r_v_19.to (by decide))) (fun t ht hW => ⟨⟨v_19, (), rfl, ⟨r_v_19.to (by decide), (fun h0 => trivial), (fun h0 => trivial)⟩, by rw [ht]; exact hw.2.1, va_K.moved hW.alike hK, hw.2.2.1⟩, hw.2.2.2.1.F ht⟩) hw.2.2.2.1.2.2 dX10_holds_181
        · by_cases k_34_70 : v_13 = 70
          · refine lv_lookup (tgt := 182) (off := 148) hx hb dX10_holds_34 (by decide) (by rw [k_34_70]; decide) (by decide) ?_
            have r_v_13 : RI v_13 70 70 := by rw [k_34_70]; exact rl_70
            refine lv_aload_n hx hb dX10_holds_182 rfl (lv_at hl 3 rfl) ?_
            refine lv_iload_n hx hb dX10_holds_183 rfl (lv_at hl 5 rfl) ?_
            refine tk_ir (va_runV (As := [.int p2]) (rest := []) ⟨hx, hb, hml, hown, hts⟩ (c_X10_whatIs l D cy z s.heap.size Ps w0 hw.1 p0 p2 h_p0 r_p2) (cwV 1 hts (gV tw_1449 tw_1451 ts_69 tw_15 tw_1452) rfl rfl rfl (by decide +kernel) ⟨Nat.le_of_ble_eq_true rfl, Nat.le_of_ble_eq_true rfl⟩) (tg_preV hw hK hSD hA (ci := 10) (q := (RX10, TX10, 49)) rfl h_p0 rfl) rfl rfl hl.1 rfl (lv_room (Nat.le_of_ble_eq_true rfl)) dX10_holds_184 ⟨Nat.le_of_ble_eq_true rfl, Nat.le_of_ble_eq_true rfl⟩) hw hA (fun v_20  H locs hp_v_20 hw => ?_)
            have r_v_20 : RI v_20 (-1) 5 := hp_v_20.1
            by_cases c9_v_20 : v_20.toInt < 0
            · have r_v_20 : RI v_20 (-1) (-1) := by unfold RI at r_v_20 ⊢; omega
              have x_NB_p0_p2 := (hp_v_20.2.2.2.2.1 (by omega)).1
              refine lv_iconst (v := (-1)) hx hb dX10_holds_187 (by decide) ?_
              refine lv_icmp_ne (tgt := 195) hx hb dX10_holds_188 (by decide) (fun c_188 => ?_) (fun c_188 => ?_)
              · exact absurd (r_v_20.eq.trans rl_m1.eq.symm) ((ti_ne c_188))
              · refine lv_iconst (v := 1) hx hb dX10_holds_191 (by decide) ?_
                refine lv_goto (tgt := 196) hx hb dX10_holds_192 (by decide) ?_
                subst hQ
                exact W.zret (v := 1) hx hb hr (rfl) (fun t ht hW => ⟨⟨1, (), rfl, ⟨rl_1.to (by decide), (fun _ => trivial), (fun h0 => trivial)⟩, by rw [ht]; exact hw.2.1, va_K.moved hW.alike hK, hw.2.2.1⟩, hw.2.2.2.1.F ht⟩) hw.2.2.2.1.2.2 dX10_holds_196
            · have r_v_20 : RI v_20 0 5 := by unfold RI at r_v_20 ⊢; omega
              have x_WB_p0_p2_v_20 := (hp_v_20.2.2.2.2.2 (by omega)).1
              refine lv_iconst (v := (-1)) hx hb dX10_holds_187 (by decide) ?_
              refine lv_icmp_ne (tgt := 195) hx hb dX10_holds_188 (by decide) (fun c_188 => ?_) (fun c_188 => ?_)
              · refine lv_iconst (v := 0) hx hb dX10_holds_195 (by decide) ?_
                subst hQ
                exact W.zret (v := 0) hx hb hr (rfl) (fun t ht hW => ⟨⟨0, (), rfl, ⟨rl_0.to (by decide), (fun h0 => trivial), (fun _ => trivial)⟩, by rw [ht]; exact hw.2.1, va_K.moved hW.alike hK, hw.2.2.1⟩, hw.2.2.2.1.F ht⟩) hw.2.2.2.1.2.2 dX10_holds_196
              · have r_v_20 : RI v_20 0 (-1) := rc_eq1 r_v_20 rl_m1 (ti_eq c_188) (by decide)
                exact (r_v_20.no (by decide)).elim
          · by_cases k_34_71 : v_13 = 71
            · refine lv_lookup (tgt := 197) (off := 163) hx hb dX10_holds_34 (by decide) (by rw [k_34_71]; decide) (by decide) ?_
              have r_v_13 : RI v_13 71 71 := by rw [k_34_71]; exact rl_71
              refine lv_aload_n hx hb dX10_holds_197 rfl (lv_at hl 3 rfl) ?_
              refine lv_iload_n hx hb dX10_holds_198 rfl (lv_at hl 5 rfl) ?_
              refine tk_ir (va_runV (As := [.int p2]) (rest := []) ⟨hx, hb, hml, hown, hts⟩ (c_X10_sittersOf l D cy z s.heap.size Ps w0 hw.1 p0 p2 h_p0 (r_p2.to (by decide))) (cwV 1 hts (gV tw_1461 tw_1463 ts_72 tw_15 tw_1464) rfl rfl rfl (by decide +kernel) ⟨Nat.le_of_ble_eq_true rfl, Nat.le_of_ble_eq_true rfl⟩) (tg_preV hw hK hSD hA (ci := 10) (q := (RX10, TX10, 49)) rfl h_p0 rfl) rfl rfl hl.1 rfl (lv_room (Nat.le_of_ble_eq_true rfl)) dX10_holds_199 ⟨Nat.le_of_ble_eq_true rfl, Nat.le_of_ble_eq_true rfl⟩) hw hA (fun v_21  H locs hp_v_21 hw => ?_)
              have r_v_21 : RI v_21 (-2147483648) 2147483647 := hp_v_21.1
              refine lv_if_eq (tgt := 209) hx hb dX10_holds_202 (by decide) (fun c_202 => ?_) (fun c_202 => ?_)
              · have r_v_21 : RI v_21 0 0 := rc_eq1 r_v_21 rl_0 (ti_eq c_202) (by decide)
                refine lv_iconst (v := 0) hx hb dX10_holds_209 (by decide) ?_
                subst hQ
                exact W.zret (v := 0) hx hb hr (rfl) (fun t ht hW => ⟨⟨0, (), rfl, ⟨rl_0.to (by decide), (fun h0 => trivial), (fun _ => trivial)⟩, by rw [ht]; exact hw.2.1, va_K.moved hW.alike hK, hw.2.2.1⟩, hw.2.2.2.1.F ht⟩) hw.2.2.2.1.2.2 dX10_holds_210
              · refine lv_iconst (v := 1) hx hb dX10_holds_205 (by decide) ?_
                refine lv_goto (tgt := 210) hx hb dX10_holds_206 (by decide) ?_
                subst hQ
                exact W.zret (v := 1) hx hb hr (rfl) (fun t ht hW => ⟨⟨1, (), rfl, ⟨rl_1.to (by decide), (fun _ => trivial), (fun h0 => trivial)⟩, by rw [ht]; exact hw.2.1, va_K.moved hW.alike hK, hw.2.2.1⟩, hw.2.2.2.1.F ht⟩) hw.2.2.2.1.2.2 dX10_holds_210
            · by_cases k_34_72 : v_13 = 72
              · refine lv_lookup (tgt := 211) (off := 177) hx hb dX10_holds_34 (by decide) (by rw [k_34_72]; decide) (by decide) ?_
                have r_v_13 : RI v_13 72 72 := by rw [k_34_72]; exact rl_72
                refine lv_aload_n hx hb dX10_holds_211 rfl (lv_at hl 3 rfl) ?_
                refine lv_iload_n hx hb dX10_holds_212 rfl (lv_at hl 5 rfl) ?_
                refine tk_ir (va_runV (As := [.int p2]) (rest := []) ⟨hx, hb, hml, hown, hts⟩ (c_X10_whatIs l D cy z s.heap.size Ps w0 hw.1 p0 p2 h_p0 r_p2) (cwV 1 hts (gV tw_1449 tw_1451 ts_69 tw_15 tw_1452) rfl rfl rfl (by decide +kernel) ⟨Nat.le_of_ble_eq_true rfl, Nat.le_of_ble_eq_true rfl⟩) (tg_preV hw hK hSD hA (ci := 10) (q := (RX10, TX10, 49)) rfl h_p0 rfl) rfl rfl hl.1 rfl (lv_room (Nat.le_of_ble_eq_true rfl)) dX10_holds_213 ⟨Nat.le_of_ble_eq_true rfl, Nat.le_of_ble_eq_true rfl⟩) hw hA (fun v_22  H locs hp_v_22 hw => ?_)
                have r_v_22 : RI v_22 (-1) 5 := hp_v_22.1
                by_cases c9_v_22 : v_22.toInt < 0
                · have r_v_22 : RI v_22 (-1) (-1) := by unfold RI at r_v_22 ⊢; omega
                  have x_NB_p0_p2 := (hp_v_22.2.2.2.2.1 (by omega)).1
                  refine lv_iload hx hb dX10_holds_216 (lv_at hl 1 rfl) ?_
                  refine lv_icmp_ne (tgt := 225) hx hb dX10_holds_218 (by decide) (fun c_218 => ?_) (fun c_218 => ?_)
                  · refine lv_iconst (v := 0) hx hb dX10_holds_225 (by decide) ?_
                    subst hQ
                    exact W.zret (v := 0) hx hb hr (rfl) (fun t ht hW => ⟨⟨0, (), rfl, ⟨rl_0.to (by decide), (fun h0 => trivial), (fun _ => trivial)⟩, by rw [ht]; exact hw.2.1, va_K.moved hW.alike hK, hw.2.2.1⟩, hw.2.2.2.1.F ht⟩) hw.2.2.2.1.2.2 dX10_holds_226
                  · have r_v_10 : RI v_10 (-1) (-1) := rc_eq2 r_v_22 r_v_10 (ti_eq c_218) (by decide)
                    refine lv_iconst (v := 1) hx hb dX10_holds_221 (by decide) ?_
                    refine lv_goto (tgt := 226) hx hb dX10_holds_222 (by decide) ?_
                    subst hQ
                    exact W.zret (v := 1) hx hb hr (rfl) (fun t ht hW => ⟨⟨1, (), rfl, ⟨rl_1.to (by decide), (fun _ => trivial), (fun h0 => trivial)⟩, by rw [ht]; exact hw.2.1, va_K.moved hW.alike hK, hw.2.2.1⟩, hw.2.2.2.1.F ht⟩) hw.2.2.2.1.2.2 dX10_holds_226
                · have r_v_22 : RI v_22 0 5 := by unfold RI at r_v_22 ⊢; omega
                  have x_WB_p0_p2_v_22 := (hp_v_22.2.2.2.2.2 (by omega)).1
                  refine lv_iload hx hb dX10_holds_216 (lv_at hl 1 rfl) ?_
                  refine lv_icmp_ne (tgt := 225) hx hb dX10_holds_218 (by decide) (fun c_218 => ?_) (fun c_218 => ?_)
                  · refine lv_iconst (v := 0) hx hb dX10_holds_225 (by decide) ?_
                    subst hQ
                    exact W.zret (v := 0) hx hb hr (rfl) (fun t ht hW => ⟨⟨0, (), rfl, ⟨rl_0.to (by decide), (fun h0 => trivial), (fun _ => trivial)⟩, by rw [ht]; exact hw.2.1, va_K.moved hW.alike hK, hw.2.2.1⟩, hw.2.2.2.1.F ht⟩) hw.2.2.2.1.2.2 dX10_holds_226
                  · have r_v_10 : RI v_10 0 5 := rc_eq2 r_v_22 r_v_10 (ti_eq c_218) (by decide)
                    refine lv_iconst (v := 1) hx hb dX10_holds_221 (by decide) ?_
                    refine lv_goto (tgt := 226) hx hb dX10_holds_222 (by decide) ?_
                    subst hQ
                    exact W.zret (v := 1) hx hb hr (rfl) (fun t ht hW => ⟨⟨1, (), rfl, ⟨rl_1.to (by decide), (fun _ => trivial), (fun h0 => trivial)⟩, by rw [ht]; exact hw.2.1, va_K.moved hW.alike hK, hw.2.2.1⟩, hw.2.2.2.1.F ht⟩) hw.2.2.2.1.2.2 dX10_holds_226
              · by_cases k_34_73 : v_13 = 73
                · refine lv_lookup (tgt := 227) (off := 193) hx hb dX10_holds_34 (by decide) (by rw [k_34_73]; decide) (by decide) ?_
                  have r_v_13 : RI v_13 73 73 := by rw [k_34_73]; exact rl_73
                  refine lv_aload_n hx hb dX10_holds_227 rfl (lv_at hl 3 rfl) ?_
                  refine tg_mem (ci := 10) (C := RX10) (T := TX10) (N := 49) hx hb hts inX10 hown hK hw 14 m_u_8 rfl (by decide) (hts _ tw_1151) (fun _ h9 => h9) dX10_holds_228 ?_
                  refine lv_bipush (v := 86) hx hb dX10_holds_231 (by decide) ?_
                  refine lv_iload_n hx hb dX10_holds_233 rfl (lv_at hl 5 rfl) ?_
                  refine lv_iadd hx hb dX10_holds_234 (lv_topi (fun v_23 e_v_23 => ?_))
                  obtain ⟨t_v_23, r_v_23⟩ := tq_add (lo := 86) (hi := 91) rl_86 r_p2 (by decide +kernel) e_v_23
                  have t_v_23 : v_23.toInt = 86 + p2.toInt := t_v_23
                  refine tg_iald (lo := (-2147483648)) (hi := 2147483647) hx hb hK hw h_vu_8 rfl 86 91 r_v_23 (by decide) (by decide +kernel) dX10_holds_235 (fun v_24 r_v_24 m_v_24 o_v_24 => ?_)
                  refine lv_iload hx hb dX10_holds_236 (lv_at hl 1 rfl) ?_
                  refine lv_icmp_ne (tgt := 245) hx hb dX10_holds_238 (by decide) (fun c_238 => ?_) (fun c_238 => ?_)
                  · refine lv_iconst (v := 0) hx hb dX10_holds_245 (by decide) ?_
                    subst hQ
                    exact W.zret (v := 0) hx hb hr (rfl) (fun t ht hW => ⟨⟨0, (), rfl, ⟨rl_0.to (by decide), (fun h0 => trivial), (fun _ => trivial)⟩, by rw [ht]; exact hw.2.1, va_K.moved hW.alike hK, hw.2.2.1⟩, hw.2.2.2.1.F ht⟩) hw.2.2.2.1.2.2 dX10_holds_246
                  · refine lv_iconst (v := 1) hx hb dX10_holds_241 (by decide) ?_
                    refine lv_goto (tgt := 246) hx hb dX10_holds_242 (by decide) ?_
                    subst hQ
                    exact W.zret (v := 1) hx hb hr (rfl) (fun t ht hW => ⟨⟨1, (), rfl, ⟨rl_1.to (by decide), (fun _ => trivial), (fun h0 => trivial)⟩, by rw [ht]; exact hw.2.1, va_K.moved hW.alike hK, hw.2.2.1⟩, hw.2.2.2.1.F ht⟩) hw.2.2.2.1.2.2 dX10_holds_246
                · refine lv_lookup (tgt := 247) (off := 213) hx hb dX10_holds_34 (by decide) ((lv_osw k_34_1 (by decide)).trans ((lv_osw k_34_2 (by decide)).trans ((lv_osw k_34_3 (by decide)).trans ((lv_osw k_34_69 (by decide)).trans ((lv_osw k_34_70 (by decide)).trans ((lv_osw k_34_71 (by decide)).trans ((lv_osw k_34_72 (by decide)).trans ((lv_osw k_34_73 (by decide)).trans (rfl))))))))) (by decide) ?_
                  refine lv_aload_n hx hb dX10_holds_247 rfl (lv_at hl 3 rfl) ?_
                  refine tg_mem (ci := 10) (C := RX10) (T := TX10) (N := 49) hx hb hts inX10 hown hK hw 14 m_u_8 rfl (by decide) (hts _ tw_1151) (fun _ h9 => h9) dX10_holds_248 ?_
                  refine lv_iload_n hx hb dX10_holds_251 rfl (lv_at hl 2 rfl) ?_
                  refine tg_imem hx hb hK hw h_vu_8 rfl r_v_7 (by decide) m_v_13 dX10_holds_252 ?_
                  refine lv_bipush (v := 50) hx hb dX10_holds_253 (by decide) ?_
                  refine lv_isub hx hb dX10_holds_255 (lv_topi (fun v_26 e_v_26 => ?_))
                  have r_v_26 := ri_any v_26
                  refine lv_istore (lv' := [(6, .int v_26), (5, .int v_12), (4, .int v_10), (3, .int v_7), (0, .ref p0), (1, .int p1), (2, .int p2)]) hx hb dX10_holds_256 hl (by decide) rfl (fun ls hl => ?_)
                  refine lv_iload hx hb dX10_holds_258 (lv_at hl 0 rfl) ?_
                  refine lv_bipush (v := 24) hx hb dX10_holds_260 (by decide) ?_
                  refine lv_icmp_ne (tgt := 273) hx hb dX10_holds_262 (by decide) (fun c_262 => ?_) (fun c_262 => ?_)
                  · refine lv_iload hx hb dX10_holds_273 (lv_at hl 0 rfl) ?_
                    refine lv_bipush (v := 25) hx hb dX10_holds_275 (by decide) ?_
                    refine lv_icmp_ne (tgt := 292) hx hb dX10_holds_277 (by decide) (fun c_277 => ?_) (fun c_277 => ?_)
                    · refine lv_iload hx hb dX10_holds_292 (lv_at hl 0 rfl) ?_
                      refine lv_bipush (v := 26) hx hb dX10_holds_294 (by decide) ?_
                      refine lv_icmp_ne (tgt := 311) hx hb dX10_holds_296 (by decide) (fun c_296 => ?_) (fun c_296 => ?_)
                      · refine lv_iload_n hx hb dX10_holds_311 rfl (lv_at hl 6 rfl) ?_
                        exact B312 v_7 v_10 v_12 v_26 p2 _ _ ls r_p1 r_p2 r_v_7 r_v_10 r_v_12 r_v_26 (r_p2.to (by decide)) hw (lv_sub hl [4, 5, 6, 3, 2, 1, 0] rfl)
                      · have r_v_26 : RI v_26 26 26 := rc_eq1 r_v_26 rl_26 (ti_eq c_296) (by decide)
                        refine lv_aload_n hx hb dX10_holds_299 rfl (lv_at hl 4 rfl) ?_
                        refine tg_mem (ci := 10) (C := RX10) (T := TX10) (N := 49) hx hb hts inX10 hown hK hw 14 m_u_8 rfl (by decide) (hts _ tw_1151) (fun _ h9 => h9) dX10_holds_300 ?_
                        refine lv_bipush (v := 98) hx hb dX10_holds_303 (by decide) ?_
                        refine lv_iload_n hx hb dX10_holds_305 rfl (lv_at hl 6 rfl) ?_
                        refine lv_iadd hx hb dX10_holds_306 (lv_topi (fun v_27 e_v_27 => ?_))
                        obtain ⟨t_v_27, r_v_27⟩ := tq_add (lo := 98) (hi := 103) rl_98 r_p2 (by decide +kernel) e_v_27
                        have t_v_27 : v_27.toInt = 98 + p2.toInt := t_v_27
                        refine tg_iald (lo := (-2147483648)) (hi := 2147483647) hx hb hK hw h_vu_8 rfl 98 103 r_v_27 (by decide) (by decide +kernel) dX10_holds_307 (fun v_28 r_v_28 m_v_28 o_v_28 => ?_)
                        refine lv_goto (tgt := 312) hx hb dX10_holds_308 (by decide) ?_
                        exact B312 v_7 v_10 v_12 v_26 v_28 _ _ ls r_p1 r_p2 r_v_7 r_v_10 r_v_12 (r_v_26.to (by decide)) r_v_28 hw (lv_sub hl [4, 5, 6, 3, 2, 1, 0] rfl)
                    · have r_v_26 : RI v_26 25 25 := rc_eq1 r_v_26 rl_25 (ti_eq c_277) (by decide)
                      refine lv_aload_n hx hb dX10_holds_280 rfl (lv_at hl 4 rfl) ?_
                      refine tg_mem (ci := 10) (C := RX10) (T := TX10) (N := 49) hx hb hts inX10 hown hK hw 14 m_u_8 rfl (by decide) (hts _ tw_1151) (fun _ h9 => h9) dX10_holds_281 ?_
                      refine lv_bipush (v := 92) hx hb dX10_holds_284 (by decide) ?_
                      refine lv_iload_n hx hb dX10_holds_286 rfl (lv_at hl 6 rfl) ?_
                      refine lv_iadd hx hb dX10_holds_287 (lv_topi (fun v_29 e_v_29 => ?_))
                      obtain ⟨t_v_29, r_v_29⟩ := tq_add (lo := 92) (hi := 97) rl_92 r_p2 (by decide +kernel) e_v_29
                      have t_v_29 : v_29.toInt = 92 + p2.toInt := t_v_29
                      refine tg_iald (lo := (-2147483648)) (hi := 2147483647) hx hb hK hw h_vu_8 rfl 92 97 r_v_29 (by decide) (by decide +kernel) dX10_holds_288 (fun v_30 r_v_30 m_v_30 o_v_30 => ?_)
                      refine lv_goto (tgt := 312) hx hb dX10_holds_289 (by decide) ?_
                      exact B312 v_7 v_10 v_12 v_26 v_30 _ _ ls r_p1 r_p2 r_v_7 r_v_10 r_v_12 (r_v_26.to (by decide)) r_v_30 hw (lv_sub hl [4, 5, 6, 3, 2, 1, 0] rfl)
                  · have r_v_26 : RI v_26 24 24 := rc_eq1 r_v_26 rl_24 (ti_eq c_262) (by decide)
                    refine lv_aload_n hx hb dX10_holds_265 rfl (lv_at hl 4 rfl) ?_
                    refine lv_iload_n hx hb dX10_holds_266 rfl (lv_at hl 6 rfl) ?_
                    refine tk_ir (va_runV (As := [.int p2]) (rest := []) ⟨hx, hb, hml, hown, hts⟩ (c_X10_sizeOf l D cy z s.heap.size Ps w0 hw.1 p0 p2 h_p0 r_p2) (cwV 1 hts (gV tw_1453 tw_1455 ts_70 tw_15 tw_1456) rfl rfl rfl (by decide +kernel) ⟨Nat.le_of_ble_eq_true rfl, Nat.le_of_ble_eq_true rfl⟩) (tg_preV hw hK hSD hA (ci := 10) (q := (RX10, TX10, 49)) rfl h_p0 rfl) rfl rfl hl.1 rfl (lv_room (Nat.le_of_ble_eq_true rfl)) dX10_holds_267 ⟨Nat.le_of_ble_eq_true rfl, Nat.le_of_ble_eq_true rfl⟩) hw hA (fun v_31  H locs hp_v_31 hw => ?_)
                    have r_v_31 : RI v_31 (-2147483648) 2147483647 := hp_v_31.1
                    refine lv_goto (tgt := 312) hx hb dX10_holds_270 (by decide) ?_
                    exact B312 v_7 v_10 v_12 v_26 v_31 _ _ ls r_p1 r_p2 r_v_7 r_v_10 r_v_12 (r_v_26.to (by decide)) r_v_31 hw (lv_sub hl [4, 5, 6, 3, 2, 1, 0] rfl)
abbrev wr_X10_holds__4 : List (Nat × Nat) := []
abbrev wa_X10_holds__4 : List Nat := []
set_option maxHeartbeats 4000000 in
set_option maxRecDepth 100000 in
theorem c_X10_holds__4 (l : Launch) (D : va_G) (cy : Nat → ClassId) (z : Nat → Nat) (sz : Nat) (Ps : PSI) (w0 : va_W) (hT : HT cy GG Ps w0) (p0 : Nat) (p1 : Int32) (p2 : Int32) (h_p0 : (p0, 55) ∈ Ps) (r_p1 : RI p1 0 55) (r_p2 : RI p2 0 5) : Met l yX10_holds (Cond.code yX10_holds cX10_holds 8 (some .boolean) :: gT) ({ frames := 58, cells := 0, slots := 0, locals := 11600 } : Room) (va_Pc [.ref p0, .int p1, .int p2] (PRE D cy z w0 sz)) (va_Qi (fun (r : Int32) (u : Unit) => RI r 0 1 ∧ (r = 0 → True) ∧ (¬ r = 0 → True)) (BB D cy (va_A w0 sz) (fun (u : Unit) => w0)) (va_A w0 sz)) 0 0 (va_A w0 sz) := by
  refine Met.ofW (cc := cX10_holds) (maxL := 8) (ret := (some .boolean)) (by decide) rfl ?_
  intro p e s m args below meth c s₁ B hml hv
  obtain ⟨rfl, hsz, hP, hK, hD0, hSD⟩ := hv
  have hx := B.exec
  have hb := B.bytes
  have hr := B.returns
  have hlocks := B.notSynchronized
  have hts : ∀ w ∈ gT, w.before _ s = true := fun w h => atoms_spec (ws := Cond.code yX10_holds cX10_holds 8 (some .boolean) :: gT) B.pre w (List.mem_cons_of_mem _ h)
  have hown : s.vm.findClass RX10 = some m.cls := findClass_of_methodNamed B.named
  subst hsz
  have hD := hD0.self (sz := s.heap.size)
  generalize hAe : va_A w0 s.heap.size = A at hD hSD ⊢
  have hA : ∀ q : Nat, s.heap.size ≤ q → A q := fun q h => by rw [← hAe]; exact Or.inr h
  have hl := lv_entry ([.ref p0, .int p1, .int p2]) (n := 8) (Nat.le_of_ble_eq_true rfl)
  rw [lg_entry_eq]
  generalize (lg_sl ([.ref p0, .int p1, .int p2]) ++ List.replicate (8 - (lg_sl ([.ref p0, .int p1, .int p2])).length) Slot.unset).toArray = ls at hl ⊢
  have hl : lv_has ls 8 [(0, .ref p0), (1, .int p1), (2, .int p2)] := hl
  refine nameQ (fun Q hQ => ?_)
  have hw : WD D cy GG A s wr_X10_holds__4 wa_X10_holds__4 Ps w0 Ps w0 s.heap [] := ⟨hT, hP, hD, va_S.rf, FR.rf, hT.1, [], (List.append_nil _).symm⟩
  have B312 : ∀ (x3 : Int32) (x4 : Int32) (x5 : Int32) (x6 : Int32) (y0 : Int32) (H : Heap) (locs : List Loc) (ls : Array Slot), RI p1 0 55 → RI p2 0 5 → RI x3 174 394 → RI x4 (-2147483648) 2147483647 → RI x5 (-2147483648) 2147483647 → RI x6 (-2147483648) 2147483647 → RI y0 (-2147483648) 2147483647 → WD D cy GG A s wr_X10_holds__4 wa_X10_holds__4 Ps w0 Ps w0 H locs → lv_has ls 8 [(0, .ref p0), (1, .int p1), (2, .int p2), (3, .int x3), (4, .int x4), (5, .int x5), (6, .int x6)] → W p l e (headSpec (Cond.code yX10_holds cX10_holds 8 (some .boolean) :: gT) ({ frames := 58, cells := 0, slots := 0, locals := 11600 } : Room)).room s m ([.ref p0, .int p1, .int p2] : List Value).toArray below meth c H locs 0 0 Q (F0 m 312 ls [.int y0]) := by
    intro x3 x4 x5 x6 y0 H locs ls r_p1 r_p2 r_x3 r_x4 r_x5 r_x6 r_y0 hw hl
    refine lv_istore (lv' := [(7, .int y0), (0, .ref p0), (1, .int p1), (2, .int p2), (3, .int x3), (4, .int x4), (5, .int x5), (6, .int x6)]) hx hb dX10_holds_312 hl (by decide) rfl (fun ls hl => ?_)
    refine lv_aload_n hx hb dX10_holds_314 rfl (lv_at hl 1 rfl) ?_
    refine tg_get (ci := 10) (ts := ty_MODEL) (C := RX10) (T := TX10) (N := 49) hx hb hts inX10 hown hK hw h_p0 rfl rfl 14 (by decide) (hts _ tw_1151) (fun _ h9 => h9) (ft := vR 34) rfl dX10_holds_315 (fun u_1 hv_u_1 m_u_1 => ?_)
    obtain ⟨vu_1, rfl, h_vu_1⟩ := hv_u_1
    refine lv_iload_n hx hb dX10_holds_318 rfl (lv_at hl 4 rfl) ?_
    refine lv_iconst (v := 3) hx hb dX10_holds_319 (by decide) ?_
    refine lv_iadd hx hb dX10_holds_320 (lv_topi (fun v_2 e_v_2 => ?_))
    obtain ⟨t_v_2, r_v_2⟩ := tq_add (lo := 177) (hi := 397) r_x3 rl_3 (by decide +kernel) e_v_2
    have t_v_2 : v_2.toInt = x3.toInt + 3 := t_v_2
    refine tg_iald (lo := (-2147483648)) (hi := 2147483647) hx hb hK hw h_vu_1 rfl 177 397 r_v_2 (by decide) (by decide +kernel) dX10_holds_321 (fun v_3 r_v_3 m_v_3 o_v_3 => ?_)
    refine lv_bipush (v := 60) hx hb dX10_holds_322 (by decide) ?_
    refine lv_icmp_ne (tgt := 342) hx hb dX10_holds_324 (by decide) (fun c_324 => ?_) (fun c_324 => ?_)
    · refine lv_aload_n hx hb dX10_holds_342 rfl (lv_at hl 1 rfl) ?_
      refine tg_mem (ci := 10) (C := RX10) (T := TX10) (N := 49) hx hb hts inX10 hown hK hw 14 m_u_1 rfl (by decide) (hts _ tw_1151) (fun _ h9 => h9) dX10_holds_343 ?_
      refine lv_iload_n hx hb dX10_holds_346 rfl (lv_at hl 4 rfl) ?_
      refine lv_iconst (v := 3) hx hb dX10_holds_347 (by decide) ?_
      refine lv_iadd hx hb dX10_holds_348 (lv_topi (fun v_4 e_v_4 => ?_))
      obtain ⟨t_v_4, r_v_4⟩ := tq_add (lo := 177) (hi := 397) r_x3 rl_3 (by decide +kernel) e_v_4
      have t_v_4 : v_4.toInt = x3.toInt + 3 := t_v_4
      refine tg_iald (lo := (-2147483648)) (hi := 2147483647) hx hb hK hw h_vu_1 rfl 177 397 r_v_4 (by decide) (by decide +kernel) dX10_holds_349 (fun v_5 r_v_5 m_v_5 o_v_5 => ?_)
      refine lv_bipush (v := 61) hx hb dX10_holds_350 (by decide) ?_
      refine lv_icmp_ne (tgt := 370) hx hb dX10_holds_352 (by decide) (fun c_352 => ?_) (fun c_352 => ?_)
      · refine lv_iload hx hb dX10_holds_370 (lv_at hl 0 rfl) ?_
        refine lv_iload hx hb dX10_holds_372 (lv_at hl 6 rfl) ?_
        refine lv_icmp_le (tgt := 381) hx hb dX10_holds_374 (by decide) (fun c_374 => ?_) (fun c_374 => ?_)
        · refine lv_iconst (v := 0) hx hb dX10_holds_381 (by decide) ?_
          subst hQ
          exact W.zret (v := 0) hx hb hr (rfl) (fun t ht hW => ⟨⟨0, (), rfl, ⟨rl_0.to (by decide), (fun h0 => trivial), (fun _ => trivial)⟩, by rw [ht]; exact hw.2.1, va_K.moved hW.alike hK, hw.2.2.1⟩, hw.2.2.2.1.F ht⟩) hw.2.2.2.1.2.2 dX10_holds_382
        · have r_x5 : RI x5 (-2147483648) 2147483646 := rc_lt1 r_x5 r_y0 (ti_nle c_374) (by decide)
          have r_y0 : RI y0 (-2147483647) 2147483647 := rc_lt2 r_x5 r_y0 (ti_nle c_374) (by decide)
          refine lv_iconst (v := 1) hx hb dX10_holds_377 (by decide) ?_
          refine lv_goto (tgt := 382) hx hb dX10_holds_378 (by decide) ?_
          subst hQ
          exact W.zret (v := 1) hx hb hr (rfl) (fun t ht hW => ⟨⟨1, (), rfl, ⟨rl_1.to (by decide), (fun _ => trivial), (fun h0 => trivial)⟩, by rw [ht]; exact hw.2.1, va_K.moved hW.alike hK, hw.2.2.1⟩, hw.2.2.2.1.F ht⟩) hw.2.2.2.1.2.2 dX10_holds_382
      · have r_v_5 : RI v_5 61 61 := rc_eq1 r_v_5 rl_61 (ti_eq c_352) (by decide)
        refine lv_iload hx hb dX10_holds_355 (lv_at hl 0 rfl) ?_
        refine lv_iload hx hb dX10_holds_357 (lv_at hl 6 rfl) ?_
        refine lv_icmp_ne (tgt := 366) hx hb dX10_holds_359 (by decide) (fun c_359 => ?_) (fun c_359 => ?_)
        · refine lv_iconst (v := 0) hx hb dX10_holds_366 (by decide) ?_
          refine lv_goto (tgt := 382) hx hb dX10_holds_367 (by decide) ?_
          subst hQ
          exact W.zret (v := 0) hx hb hr (rfl) (fun t ht hW => ⟨⟨0, (), rfl, ⟨rl_0.to (by decide), (fun h0 => trivial), (fun _ => trivial)⟩, by rw [ht]; exact hw.2.1, va_K.moved hW.alike hK, hw.2.2.1⟩, hw.2.2.2.1.F ht⟩) hw.2.2.2.1.2.2 dX10_holds_382
        · refine lv_iconst (v := 1) hx hb dX10_holds_362 (by decide) ?_
          refine lv_goto (tgt := 382) hx hb dX10_holds_363 (by decide) ?_
          subst hQ
          exact W.zret (v := 1) hx hb hr (rfl) (fun t ht hW => ⟨⟨1, (), rfl, ⟨rl_1.to (by decide), (fun _ => trivial), (fun h0 => trivial)⟩, by rw [ht]; exact hw.2.1, va_K.moved hW.alike hK, hw.2.2.1⟩, hw.2.2.2.1.F ht⟩) hw.2.2.2.1.2.2 dX10_holds_382
    · have r_v_3 : RI v_3 60 60 := rc_eq1 r_v_3 rl_60 (ti_eq c_324) (by decide)
      refine lv_iload hx hb dX10_holds_327 (lv_at hl 0 rfl) ?_
      refine lv_iload hx hb dX10_holds_329 (lv_at hl 6 rfl) ?_
      refine lv_icmp_ge (tgt := 338) hx hb dX10_holds_331 (by decide) (fun c_331 => ?_) (fun c_331 => ?_)
      · refine lv_iconst (v := 0) hx hb dX10_holds_338 (by decide) ?_
        refine lv_goto (tgt := 382) hx hb dX10_holds_339 (by decide) ?_
        subst hQ
        exact W.zret (v := 0) hx hb hr (rfl) (fun t ht hW => ⟨⟨0, (), rfl, ⟨rl_0.to (by decide), (fun h0 => trivial), (fun _ => trivial)⟩, by rw [ht]; exact hw.2.1, va_K.moved hW.alike hK, hw.2.2.1⟩, hw.2.2.2.1.F ht⟩) hw.2.2.2.1.2.2 dX10_holds_382
      · have r_y0 : RI y0 (-2147483648) 2147483646 := rc_lt1 r_y0 r_x5 (ti_nle c_331) (by decide)
        have r_x5 : RI x5 (-2147483647) 2147483647 := rc_lt2 r_y0 r_x5 (ti_nle c_331) (by decide)
        refine lv_iconst (v := 1) hx hb dX10_holds_334 (by decide) ?_
        refine lv_goto (tgt := 382) hx hb dX10_holds_335 (by decide) ?_
        subst hQ
        exact W.zret (v := 1) hx hb hr (rfl) (fun t ht hW => ⟨⟨1, (), rfl, ⟨rl_1.to (by decide), (fun _ => trivial), (fun h0 => trivial)⟩, by rw [ht]; exact hw.2.1, va_K.moved hW.alike hK, hw.2.2.1⟩, hw.2.2.2.1.F ht⟩) hw.2.2.2.1.2.2 dX10_holds_382
  refine lv_sipush (v := 174) hx hb dX10_holds_0 (by decide) ?_
  refine lv_iconst (v := 4) hx hb dX10_holds_3 (by decide) ?_
  refine lv_iload_n hx hb dX10_holds_4 rfl (lv_at hl 1 rfl) ?_
  refine lv_imul hx hb dX10_holds_5 (lv_topi (fun v_6 e_v_6 => ?_))
  obtain ⟨t_v_6, r_v_6⟩ := tq_mul (lo := 0) (hi := 220) rl_4 r_p1 (by decide +kernel) e_v_6
  have t_v_6 : v_6.toInt = 4 * p1.toInt := t_v_6
  refine lv_iadd hx hb dX10_holds_6 (lv_topi (fun v_7 e_v_7 => ?_))
  obtain ⟨t_v_7, r_v_7⟩ := tq_add (lo := 174) (hi := 394) rl_174 r_v_6 (by decide +kernel) e_v_7
  have t_v_7 : v_7.toInt = 174 + v_6.toInt := t_v_7
  refine lv_istore_n (lv' := [(3, .int v_7), (0, .ref p0), (1, .int p1), (2, .int p2)]) hx hb dX10_holds_7 rfl hl (by decide) rfl (fun ls hl => ?_)
  refine lv_aload_n hx hb dX10_holds_8 rfl (lv_at hl 1 rfl) ?_
  refine tg_get (ci := 10) (ts := ty_MODEL) (C := RX10) (T := TX10) (N := 49) hx hb hts inX10 hown hK hw h_p0 rfl rfl 14 (by decide) (hts _ tw_1151) (fun _ h9 => h9) (ft := vR 34) rfl dX10_holds_9 (fun u_8 hv_u_8 m_u_8 => ?_)
  obtain ⟨vu_8, rfl, h_vu_8⟩ := hv_u_8
  refine lv_iload_n hx hb dX10_holds_12 rfl (lv_at hl 0 rfl) ?_
  refine lv_iconst (v := 1) hx hb dX10_holds_13 (by decide) ?_
  refine lv_iadd hx hb dX10_holds_14 (lv_topi (fun v_9 e_v_9 => ?_))
  obtain ⟨t_v_9, r_v_9⟩ := tq_add (lo := 175) (hi := 395) r_v_7 rl_1 (by decide +kernel) e_v_9
  have t_v_9 : v_9.toInt = v_7.toInt + 1 := t_v_9
  refine tg_iald (lo := (-2147483648)) (hi := 2147483647) hx hb hK hw h_vu_8 rfl 175 395 r_v_9 (by decide) (by decide +kernel) dX10_holds_15 (fun v_10 r_v_10 m_v_10 o_v_10 => ?_)
  refine lv_istore (lv' := [(4, .int v_10), (3, .int v_7), (0, .ref p0), (1, .int p1), (2, .int p2)]) hx hb dX10_holds_16 hl (by decide) rfl (fun ls hl => ?_)
  refine lv_aload_n hx hb dX10_holds_18 rfl (lv_at hl 2 rfl) ?_
  refine tg_mem (ci := 10) (C := RX10) (T := TX10) (N := 49) hx hb hts inX10 hown hK hw 14 m_u_8 rfl (by decide) (hts _ tw_1151) (fun _ h9 => h9) dX10_holds_19 ?_
  refine lv_iload_n hx hb dX10_holds_22 rfl (lv_at hl 1 rfl) ?_
  refine lv_iconst (v := 2) hx hb dX10_holds_23 (by decide) ?_
  refine lv_iadd hx hb dX10_holds_24 (lv_topi (fun v_11 e_v_11 => ?_))
  obtain ⟨t_v_11, r_v_11⟩ := tq_add (lo := 176) (hi := 396) r_v_7 rl_2 (by decide +kernel) e_v_11
  have t_v_11 : v_11.toInt = v_7.toInt + 2 := t_v_11
  refine tg_iald (lo := (-2147483648)) (hi := 2147483647) hx hb hK hw h_vu_8 rfl 176 396 r_v_11 (by decide) (by decide +kernel) dX10_holds_25 (fun v_12 r_v_12 m_v_12 o_v_12 => ?_)
  refine lv_istore (lv' := [(5, .int v_12), (4, .int v_10), (3, .int v_7), (0, .ref p0), (1, .int p1), (2, .int p2)]) hx hb dX10_holds_26 hl (by decide) rfl (fun ls hl => ?_)
  refine lv_aload_n hx hb dX10_holds_28 rfl (lv_at hl 3 rfl) ?_
  refine tg_mem (ci := 10) (C := RX10) (T := TX10) (N := 49) hx hb hts inX10 hown hK hw 14 m_u_8 rfl (by decide) (hts _ tw_1151) (fun _ h9 => h9) dX10_holds_29 ?_
  refine lv_iload_n hx hb dX10_holds_32 rfl (lv_at hl 2 rfl) ?_
  refine tg_iald (lo := (-2147483648)) (hi := 2147483647) hx hb hK hw h_vu_8 rfl 174 394 r_v_7 (by decide) (by decide +kernel) dX10_holds_33 (fun v_13 r_v_13 m_v_13 o_v_13 => ?_)
  by_cases k_34_1 : v_13 = 1
  · refine lv_lookup (tgt := 108) (off := 74) hx hb dX10_holds_34 (by decide) (by rw [k_34_1]; decide) (by decide) ?_
    have r_v_13 : RI v_13 1 1 := by rw [k_34_1]; exact rl_1
    have g_v_10 : 0 ≤ v_10.toInt ∧ v_10.toInt < p1.toInt := by obtain ⟨_, f9, e8, e7, q9, _⟩ := ax_of (k := 14) (t := 34) hw h_p0 rfl (fun _ => rfl); cases FLD.inj hw.2.2.1 e8 m_u_8; have t9 := ARR.ael hw.2.2.1 e7 m_v_13; have x9 := ARR.ael hw.2.2.1 e7 m_v_10; rw [show Int32.toNatClampNeg v_7 = 174 + 4 * Int32.toNatClampNeg p1 from (by have k1 := r_v_7.cl (by decide); have k2 := r_p1.cl (by decide); omega)] at t9; rw [show Int32.toNatClampNeg v_9 = 175 + 4 * Int32.toNatClampNeg p1 from (by have k1 := r_v_9.cl (by decide); have k2 := r_p1.cl (by decide); omega)] at x9; exact RN_child q9 (r_p1.to (by decide)) t9 x9 (r_v_13.to (by decide))
    have r_v_10 : RI v_10 0 54 := ⟨g_v_10.1, by have k1 := r_p1.2; omega⟩
    refine lv_aload_n hx hb dX10_holds_108 rfl (lv_at hl 3 rfl) ?_
    refine lv_iload hx hb dX10_holds_109 (lv_at hl 1 rfl) ?_
    refine lv_iload_n hx hb dX10_holds_111 rfl (lv_at hl 5 rfl) ?_
    refine tk_ir (va_runV (As := [.int v_10, .int p2]) (rest := []) ⟨hx, hb, hml, hown, hts⟩ (c_X10_holds__5 l D cy z s.heap.size Ps w0 hw.1 p0 v_10 p2 h_p0 r_v_10 r_p2) (cwV 2 hts (gV tw_1787 tw_1789 ts_119 tw_15 tw_1790) rfl rfl rfl (by decide +kernel) ⟨Nat.le_of_ble_eq_true rfl, Nat.le_of_ble_eq_true rfl⟩) (tg_preV hw hK hSD hA (ci := 10) (q := (RX10, TX10, 49)) rfl h_p0 rfl) rfl rfl hl.1 rfl (lv_room (Nat.le_of_ble_eq_true rfl)) dX10_holds_112 ⟨Nat.le_of_ble_eq_true rfl, Nat.le_of_ble_eq_true rfl⟩) hw hA (fun v_14  H locs hp_v_14 hw => ?_)
    have r_v_14 : RI v_14 0 1 := hp_v_14.1
    refine lv_if_ne (tgt := 122) hx hb dX10_holds_115 (by decide) (fun c_115 => ?_) (fun c_115 => ?_)
    · have r_v_14 : RI v_14 1 1 := rc_neL r_v_14 rl_0 (ti_ne c_115) (by decide)
      refine lv_iconst (v := 0) hx hb dX10_holds_122 (by decide) ?_
      subst hQ
      exact W.zret (v := 0) hx hb hr (rfl) (fun t ht hW => ⟨⟨0, (), rfl, ⟨rl_0.to (by decide), (fun h0 => trivial), (fun _ => trivial)⟩, by rw [ht]; exact hw.2.1, va_K.moved hW.alike hK, hw.2.2.1⟩, hw.2.2.2.1.F ht⟩) hw.2.2.2.1.2.2 dX10_holds_123
    · have r_v_14 : RI v_14 0 0 := rc_eq1 r_v_14 rl_0 (ti_eq c_115) (by decide)
      refine lv_iconst (v := 1) hx hb dX10_holds_118 (by decide) ?_
      refine lv_goto (tgt := 123) hx hb dX10_holds_119 (by decide) ?_
      subst hQ
      exact W.zret (v := 1) hx hb hr (rfl) (fun t ht hW => ⟨⟨1, (), rfl, ⟨rl_1.to (by decide), (fun _ => trivial), (fun h0 => trivial)⟩, by rw [ht]; exact hw.2.1, va_K.moved hW.alike hK, hw.2.2.1⟩, hw.2.2.2.1.F ht⟩) hw.2.2.2.1.2.2 dX10_holds_123
  · by_cases k_34_2 : v_13 = 2
    · refine lv_lookup (tgt := 124) (off := 90) hx hb dX10_holds_34 (by decide) (by rw [k_34_2]; decide) (by decide) ?_
      have r_v_13 : RI v_13 2 2 := by rw [k_34_2]; exact rl_2
      have g_v_10 : 0 ≤ v_10.toInt ∧ v_10.toInt < p1.toInt := by obtain ⟨_, f9, e8, e7, q9, _⟩ := ax_of (k := 14) (t := 34) hw h_p0 rfl (fun _ => rfl); cases FLD.inj hw.2.2.1 e8 m_u_8; have t9 := ARR.ael hw.2.2.1 e7 m_v_13; have x9 := ARR.ael hw.2.2.1 e7 m_v_10; rw [show Int32.toNatClampNeg v_7 = 174 + 4 * Int32.toNatClampNeg p1 from (by have k1 := r_v_7.cl (by decide); have k2 := r_p1.cl (by decide); omega)] at t9; rw [show Int32.toNatClampNeg v_9 = 175 + 4 * Int32.toNatClampNeg p1 from (by have k1 := r_v_9.cl (by decide); have k2 := r_p1.cl (by decide); omega)] at x9; exact RN_child q9 (r_p1.to (by decide)) t9 x9 (r_v_13.to (by decide))
      have r_v_10 : RI v_10 0 54 := ⟨g_v_10.1, by have k1 := r_p1.2; omega⟩
      have g_v_12 : 0 ≤ v_12.toInt ∧ v_12.toInt < p1.toInt := by obtain ⟨_, f9, e8, e7, q9, _⟩ := ax_of (k := 14) (t := 34) hw h_p0 rfl (fun _ => rfl); cases FLD.inj hw.2.2.1 e8 m_u_8; have t9 := ARR.ael hw.2.2.1 e7 m_v_13; have x9 := ARR.ael hw.2.2.1 e7 m_v_12; rw [show Int32.toNatClampNeg v_7 = 174 + 4 * Int32.toNatClampNeg p1 from (by have k1 := r_v_7.cl (by decide); have k2 := r_p1.cl (by decide); omega)] at t9; rw [show Int32.toNatClampNeg v_11 = 176 + 4 * Int32.toNatClampNeg p1 from (by have k1 := r_v_11.cl (by decide); have k2 := r_p1.cl (by decide); omega)] at x9; exact RN_child2 q9 (r_p1.to (by decide)) t9 x9 (r_v_13.to (by decide))
      have r_v_12 : RI v_12 0 54 := ⟨g_v_12.1, by have k1 := r_p1.2; omega⟩
      refine lv_aload_n hx hb dX10_holds_124 rfl (lv_at hl 3 rfl) ?_
      refine lv_iload hx hb dX10_holds_125 (lv_at hl 1 rfl) ?_
      refine lv_iload_n hx hb dX10_holds_127 rfl (lv_at hl 5 rfl) ?_
      refine tk_ir (va_runV (As := [.int v_10, .int p2]) (rest := []) ⟨hx, hb, hml, hown, hts⟩ (c_X10_holds__5 l D cy z s.heap.size Ps w0 hw.1 p0 v_10 p2 h_p0 r_v_10 r_p2) (cwV 2 hts (gV tw_1787 tw_1789 ts_119 tw_15 tw_1790) rfl rfl rfl (by decide +kernel) ⟨Nat.le_of_ble_eq_true rfl, Nat.le_of_ble_eq_true rfl⟩) (tg_preV hw hK hSD hA (ci := 10) (q := (RX10, TX10, 49)) rfl h_p0 rfl) rfl rfl hl.1 rfl (lv_room (Nat.le_of_ble_eq_true rfl)) dX10_holds_128 ⟨Nat.le_of_ble_eq_true rfl, Nat.le_of_ble_eq_true rfl⟩) hw hA (fun v_15  H locs hp_v_15 hw => ?_)
      have r_v_15 : RI v_15 0 1 := hp_v_15.1
      refine lv_if_eq (tgt := 148) hx hb dX10_holds_131 (by decide) (fun c_131 => ?_) (fun c_131 => ?_)
      · have r_v_15 : RI v_15 0 0 := rc_eq1 r_v_15 rl_0 (ti_eq c_131) (by decide)
        refine lv_iconst (v := 0) hx hb dX10_holds_148 (by decide) ?_
        subst hQ
        exact W.zret (v := 0) hx hb hr (rfl) (fun t ht hW => ⟨⟨0, (), rfl, ⟨rl_0.to (by decide), (fun h0 => trivial), (fun _ => trivial)⟩, by rw [ht]; exact hw.2.1, va_K.moved hW.alike hK, hw.2.2.1⟩, hw.2.2.2.1.F ht⟩) hw.2.2.2.1.2.2 dX10_holds_149
      · have r_v_15 : RI v_15 1 1 := rc_neL r_v_15 rl_0 (ti_ne c_131) (by decide)
        refine lv_aload_n hx hb dX10_holds_134 rfl (lv_at hl 3 rfl) ?_
        refine lv_iload hx hb dX10_holds_135 (lv_at hl 0 rfl) ?_
        refine lv_iload_n hx hb dX10_holds_137 rfl (lv_at hl 5 rfl) ?_
        refine tk_ir (va_runV (As := [.int v_12, .int p2]) (rest := []) ⟨hx, hb, hml, hown, hts⟩ (c_X10_holds__5 l D cy z H.size Ps w0 hw.1 p0 v_12 p2 h_p0 r_v_12 r_p2) (cwV 2 hts (gV tw_1787 tw_1789 ts_119 tw_15 tw_1790) rfl rfl rfl (by decide +kernel) ⟨Nat.le_of_ble_eq_true rfl, Nat.le_of_ble_eq_true rfl⟩) (tg_preV hw hK hSD hA (ci := 10) (q := (RX10, TX10, 49)) rfl h_p0 rfl) rfl rfl hl.1 rfl (lv_room (Nat.le_of_ble_eq_true rfl)) dX10_holds_138 ⟨Nat.le_of_ble_eq_true rfl, Nat.le_of_ble_eq_true rfl⟩) hw hA (fun v_16  H locs hp_v_16 hw => ?_)
        have r_v_16 : RI v_16 0 1 := hp_v_16.1
        refine lv_if_eq (tgt := 148) hx hb dX10_holds_141 (by decide) (fun c_141 => ?_) (fun c_141 => ?_)
        · have r_v_16 : RI v_16 0 0 := rc_eq1 r_v_16 rl_0 (ti_eq c_141) (by decide)
          refine lv_iconst (v := 0) hx hb dX10_holds_148 (by decide) ?_
          subst hQ
          exact W.zret (v := 0) hx hb hr (rfl) (fun t ht hW => ⟨⟨0, (), rfl, ⟨rl_0.to (by decide), (fun h0 => trivial), (fun _ => trivial)⟩, by rw [ht]; exact hw.2.1, va_K.moved hW.alike hK, hw.2.2.1⟩, hw.2.2.2.1.F ht⟩) hw.2.2.2.1.2.2 dX10_holds_149
        · have r_v_16 : RI v_16 1 1 := rc_neL r_v_16 rl_0 (ti_ne c_141) (by decide)
          refine lv_iconst (v := 1) hx hb dX10_holds_144 (by decide) ?_
          refine lv_goto (tgt := 149) hx hb dX10_holds_145 (by decide) ?_
          subst hQ
          exact W.zret (v := 1) hx hb hr (rfl) (fun t ht hW => ⟨⟨1, (), rfl, ⟨rl_1.to (by decide), (fun _ => trivial), (fun h0 => trivial)⟩, by rw [ht]; exact hw.2.1, va_K.moved hW.alike hK, hw.2.2.1⟩, hw.2.2.2.1.F ht⟩) hw.2.2.2.1.2.2 dX10_holds_149
    · by_cases k_34_3 : v_13 = 3
      · refine lv_lookup (tgt := 150) (off := 116) hx hb dX10_holds_34 (by decide) (by rw [k_34_3]; decide) (by decide) ?_
        have r_v_13 : RI v_13 3 3 := by rw [k_34_3]; exact rl_3
        have g_v_10 : 0 ≤ v_10.toInt ∧ v_10.toInt < p1.toInt := by obtain ⟨_, f9, e8, e7, q9, _⟩ := ax_of (k := 14) (t := 34) hw h_p0 rfl (fun _ => rfl); cases FLD.inj hw.2.2.1 e8 m_u_8; have t9 := ARR.ael hw.2.2.1 e7 m_v_13; have x9 := ARR.ael hw.2.2.1 e7 m_v_10; rw [show Int32.toNatClampNeg v_7 = 174 + 4 * Int32.toNatClampNeg p1 from (by have k1 := r_v_7.cl (by decide); have k2 := r_p1.cl (by decide); omega)] at t9; rw [show Int32.toNatClampNeg v_9 = 175 + 4 * Int32.toNatClampNeg p1 from (by have k1 := r_v_9.cl (by decide); have k2 := r_p1.cl (by decide); omega)] at x9; exact RN_child q9 (r_p1.to (by decide)) t9 x9 (r_v_13.to (by decide))
        have r_v_10 : RI v_10 0 54 := ⟨g_v_10.1, by have k1 := r_p1.2; omega⟩
        have g_v_12 : 0 ≤ v_12.toInt ∧ v_12.toInt < p1.toInt := by obtain ⟨_, f9, e8, e7, q9, _⟩ := ax_of (k := 14) (t := 34) hw h_p0 rfl (fun _ => rfl); cases FLD.inj hw.2.2.1 e8 m_u_8; have t9 := ARR.ael hw.2.2.1 e7 m_v_13; have x9 := ARR.ael hw.2.2.1 e7 m_v_12; rw [show Int32.toNatClampNeg v_7 = 174 + 4 * Int32.toNatClampNeg p1 from (by have k1 := r_v_7.cl (by decide); have k2 := r_p1.cl (by decide); omega)] at t9; rw [show Int32.toNatClampNeg v_11 = 176 + 4 * Int32.toNatClampNeg p1 from (by have k1 := r_v_11.cl (by decide); have k2 := r_p1.cl (by decide); omega)] at x9; exact RN_child2 q9 (r_p1.to (by decide)) t9 x9 (r_v_13.to (by decide))
        have r_v_12 : RI v_12 0 54 := ⟨g_v_12.1, by have k1 := r_p1.2; omega⟩
        refine lv_aload_n hx hb dX10_holds_150 rfl (lv_at hl 3 rfl) ?_
        refine lv_iload hx hb dX10_holds_151 (lv_at hl 1 rfl) ?_
        refine lv_iload_n hx hb dX10_holds_153 rfl (lv_at hl 5 rfl) ?_
        refine tk_ir (va_runV (As := [.int v_10, .int p2]) (rest := []) ⟨hx, hb, hml, hown, hts⟩ (c_X10_holds__5 l D cy z s.heap.size Ps w0 hw.1 p0 v_10 p2 h_p0 r_v_10 r_p2) (cwV 2 hts (gV tw_1787 tw_1789 ts_119 tw_15 tw_1790) rfl rfl rfl (by decide +kernel) ⟨Nat.le_of_ble_eq_true rfl, Nat.le_of_ble_eq_true rfl⟩) (tg_preV hw hK hSD hA (ci := 10) (q := (RX10, TX10, 49)) rfl h_p0 rfl) rfl rfl hl.1 rfl (lv_room (Nat.le_of_ble_eq_true rfl)) dX10_holds_154 ⟨Nat.le_of_ble_eq_true rfl, Nat.le_of_ble_eq_true rfl⟩) hw hA (fun v_17  H locs hp_v_17 hw => ?_)
        have r_v_17 : RI v_17 0 1 := hp_v_17.1
        refine lv_if_ne (tgt := 170) hx hb dX10_holds_157 (by decide) (fun c_157 => ?_) (fun c_157 => ?_)
        · have r_v_17 : RI v_17 1 1 := rc_neL r_v_17 rl_0 (ti_ne c_157) (by decide)
          refine lv_iconst (v := 1) hx hb dX10_holds_170 (by decide) ?_
          refine lv_goto (tgt := 175) hx hb dX10_holds_171 (by decide) ?_
          subst hQ
          exact W.zret (v := 1) hx hb hr (rfl) (fun t ht hW => ⟨⟨1, (), rfl, ⟨rl_1.to (by decide), (fun _ => trivial), (fun h0 => trivial)⟩, by rw [ht]; exact hw.2.1, va_K.moved hW.alike hK, hw.2.2.1⟩, hw.2.2.2.1.F ht⟩) hw.2.2.2.1.2.2 dX10_holds_175
        · have r_v_17 : RI v_17 0 0 := rc_eq1 r_v_17 rl_0 (ti_eq c_157) (by decide)
          refine lv_aload_n hx hb dX10_holds_160 rfl (lv_at hl 3 rfl) ?_
          refine lv_iload hx hb dX10_holds_161 (lv_at hl 0 rfl) ?_
          refine lv_iload_n hx hb dX10_holds_163 rfl (lv_at hl 5 rfl) ?_
          refine tk_ir (va_runV (As := [.int v_12, .int p2]) (rest := []) ⟨hx, hb, hml, hown, hts⟩ (c_X10_holds__5 l D cy z H.size Ps w0 hw.1 p0 v_12 p2 h_p0 r_v_12 r_p2) (cwV 2 hts (gV tw_1787 tw_1789 ts_119 tw_15 tw_1790) rfl rfl rfl (by decide +kernel) ⟨Nat.le_of_ble_eq_true rfl, Nat.le_of_ble_eq_true rfl⟩) (tg_preV hw hK hSD hA (ci := 10) (q := (RX10, TX10, 49)) rfl h_p0 rfl) rfl rfl hl.1 rfl (lv_room (Nat.le_of_ble_eq_true rfl)) dX10_holds_164 ⟨Nat.le_of_ble_eq_true rfl, Nat.le_of_ble_eq_true rfl⟩) hw hA (fun v_18  H locs hp_v_18 hw => ?_)
          have r_v_18 : RI v_18 0 1 := hp_v_18.1
          refine lv_if_eq (tgt := 174) hx hb dX10_holds_167 (by decide) (fun c_167 => ?_) (fun c_167 => ?_)
          · have r_v_18 : RI v_18 0 0 := rc_eq1 r_v_18 rl_0 (ti_eq c_167) (by decide)
            refine lv_iconst (v := 0) hx hb dX10_holds_174 (by decide) ?_
            subst hQ
            exact W.zret (v := 0) hx hb hr (rfl) (fun t ht hW => ⟨⟨0, (), rfl, ⟨rl_0.to (by decide), (fun h0 => trivial), (fun _ => trivial)⟩, by rw [ht]; exact hw.2.1, va_K.moved hW.alike hK, hw.2.2.1⟩, hw.2.2.2.1.F ht⟩) hw.2.2.2.1.2.2 dX10_holds_175
          · have r_v_18 : RI v_18 1 1 := rc_neL r_v_18 rl_0 (ti_ne c_167) (by decide)
            refine lv_iconst (v := 1) hx hb dX10_holds_170 (by decide) ?_
            refine lv_goto (tgt := 175) hx hb dX10_holds_171 (by decide) ?_
            subst hQ
            exact W.zret (v := 1) hx hb hr (rfl) (fun t ht hW => ⟨⟨1, (), rfl, ⟨rl_1.to (by decide), (fun _ => trivial), (fun h0 => trivial)⟩, by rw [ht]; exact hw.2.1, va_K.moved hW.alike hK, hw.2.2.1⟩, hw.2.2.2.1.F ht⟩) hw.2.2.2.1.2.2 dX10_holds_175
      · by_cases k_34_69 : v_13 = 69
        · refine lv_lookup (tgt := 176) (off := 142) hx hb dX10_holds_34 (by decide) (by rw [k_34_69]; decide) (by decide) ?_
          have r_v_13 : RI v_13 69 69 := by rw [k_34_69]; exact rl_69
          refine lv_aload_n hx hb dX10_holds_176 rfl (lv_at hl 3 rfl) ?_
          refine lv_iload_n hx hb dX10_holds_177 rfl (lv_at hl 5 rfl) ?_
          refine tk_ir (va_runV (As := [.int p2]) (rest := []) ⟨hx, hb, hml, hown, hts⟩ (c_X10_isOpen l D cy z s.heap.size Ps w0 hw.1 p0 p2 h_p0 (r_p2.to (by decide))) (cwV 1 hts (gV tw_1457 tw_1459 ts_71 tw_15 tw_1460) rfl rfl rfl (by decide +kernel) ⟨Nat.le_of_ble_eq_true rfl, Nat.le_of_ble_eq_true rfl⟩) (tg_preV hw hK hSD hA (ci := 10) (q := (RX10, TX10, 49)) rfl h_p0 rfl) rfl rfl hl.1 rfl (lv_room (Nat.le_of_ble_eq_true rfl)) dX10_holds_178 ⟨Nat.le_of_ble_eq_true rfl, Nat.le_of_ble_eq_true rfl⟩) hw hA (fun v_19  H locs hp_v_19 hw => ?_)
          have r_v_19 : RI v_19 0 1 := hp_v_19.1
          subst hQ
          exact W.zret (v := v_19) hx hb hr (tq_nz (r_v_19.to (by decide))) (fun t ht hW => ⟨⟨v_19, (), rfl, ⟨r_v_19.to (by decide), (fun h0 => trivial), (fun h0 => trivial)⟩, by rw [ht]; exact hw.2.1, va_K.moved hW.alike hK, hw.2.2.1⟩, hw.2.2.2.1.F ht⟩) hw.2.2.2.1.2.2 dX10_holds_181
        · by_cases k_34_70 : v_13 = 70
          · refine lv_lookup (tgt := 182) (off := 148) hx hb dX10_holds_34 (by decide) (by rw [k_34_70]; decide) (by decide) ?_
            have r_v_13 : RI v_13 70 70 := by rw [k_34_70]; exact rl_70
            refine lv_aload_n hx hb dX10_holds_182 rfl (lv_at hl 3 rfl) ?_
            refine lv_iload_n hx hb dX10_holds_183 rfl (lv_at hl 5 rfl) ?_
            refine tk_ir (va_runV (As := [.int p2]) (rest := []) ⟨hx, hb, hml, hown, hts⟩ (c_X10_whatIs l D cy z s.heap.size Ps w0 hw.1 p0 p2 h_p0 r_p2) (cwV 1 hts (gV tw_1449 tw_1451 ts_69 tw_15 tw_1452) rfl rfl rfl (by decide +kernel) ⟨Nat.le_of_ble_eq_true rfl, Nat.le_of_ble_eq_true rfl⟩) (tg_preV hw hK hSD hA (ci := 10) (q := (RX10, TX10, 49)) rfl h_p0 rfl) rfl rfl hl.1 rfl (lv_room (Nat.le_of_ble_eq_true rfl)) dX10_holds_184 ⟨Nat.le_of_ble_eq_true rfl, Nat.le_of_ble_eq_true rfl⟩) hw hA (fun v_20  H locs hp_v_20 hw => ?_)
            have r_v_20 : RI v_20 (-1) 5 := hp_v_20.1
            by_cases c9_v_20 : v_20.toInt < 0
            · have r_v_20 : RI v_20 (-1) (-1) := by unfold RI at r_v_20 ⊢; omega
              have x_NB_p0_p2 := (hp_v_20.2.2.2.2.1 (by omega)).1
              refine lv_iconst (v := (-1)) hx hb dX10_holds_187 (by decide) ?_
              refine lv_icmp_ne (tgt := 195) hx hb dX10_holds_188 (by decide) (fun c_188 => ?_) (fun c_188 => ?_)
              · exact absurd (r_v_20.eq.trans rl_m1.eq.symm) ((ti_ne c_188))
              · refine lv_iconst (v := 1) hx hb dX10_holds_191 (by decide) ?_
                refine lv_goto (tgt := 196) hx hb dX10_holds_192 (by decide) ?_
                subst hQ
                exact W.zret (v := 1) hx hb hr (rfl) (fun t ht hW => ⟨⟨1, (), rfl, ⟨rl_1.to (by decide), (fun _ => trivial), (fun h0 => trivial)⟩, by rw [ht]; exact hw.2.1, va_K.moved hW.alike hK, hw.2.2.1⟩, hw.2.2.2.1.F ht⟩) hw.2.2.2.1.2.2 dX10_holds_196
            · have r_v_20 : RI v_20 0 5 := by unfold RI at r_v_20 ⊢; omega
              have x_WB_p0_p2_v_20 := (hp_v_20.2.2.2.2.2 (by omega)).1
              refine lv_iconst (v := (-1)) hx hb dX10_holds_187 (by decide) ?_
              refine lv_icmp_ne (tgt := 195) hx hb dX10_holds_188 (by decide) (fun c_188 => ?_) (fun c_188 => ?_)
              · refine lv_iconst (v := 0) hx hb dX10_holds_195 (by decide) ?_
                subst hQ
                exact W.zret (v := 0) hx hb hr (rfl) (fun t ht hW => ⟨⟨0, (), rfl, ⟨rl_0.to (by decide), (fun h0 => trivial), (fun _ => trivial)⟩, by rw [ht]; exact hw.2.1, va_K.moved hW.alike hK, hw.2.2.1⟩, hw.2.2.2.1.F ht⟩) hw.2.2.2.1.2.2 dX10_holds_196
              · have r_v_20 : RI v_20 0 (-1) := rc_eq1 r_v_20 rl_m1 (ti_eq c_188) (by decide)
                exact (r_v_20.no (by decide)).elim
          · by_cases k_34_71 : v_13 = 71
            · refine lv_lookup (tgt := 197) (off := 163) hx hb dX10_holds_34 (by decide) (by rw [k_34_71]; decide) (by decide) ?_
              have r_v_13 : RI v_13 71 71 := by rw [k_34_71]; exact rl_71
              refine lv_aload_n hx hb dX10_holds_197 rfl (lv_at hl 3 rfl) ?_
              refine lv_iload_n hx hb dX10_holds_198 rfl (lv_at hl 5 rfl) ?_
              refine tk_ir (va_runV (As := [.int p2]) (rest := []) ⟨hx, hb, hml, hown, hts⟩ (c_X10_sittersOf l D cy z s.heap.size Ps w0 hw.1 p0 p2 h_p0 (r_p2.to (by decide))) (cwV 1 hts (gV tw_1461 tw_1463 ts_72 tw_15 tw_1464) rfl rfl rfl (by decide +kernel) ⟨Nat.le_of_ble_eq_true rfl, Nat.le_of_ble_eq_true rfl⟩) (tg_preV hw hK hSD hA (ci := 10) (q := (RX10, TX10, 49)) rfl h_p0 rfl) rfl rfl hl.1 rfl (lv_room (Nat.le_of_ble_eq_true rfl)) dX10_holds_199 ⟨Nat.le_of_ble_eq_true rfl, Nat.le_of_ble_eq_true rfl⟩) hw hA (fun v_21  H locs hp_v_21 hw => ?_)
              have r_v_21 : RI v_21 (-2147483648) 2147483647 := hp_v_21.1
              refine lv_if_eq (tgt := 209) hx hb dX10_holds_202 (by decide) (fun c_202 => ?_) (fun c_202 => ?_)
              · have r_v_21 : RI v_21 0 0 := rc_eq1 r_v_21 rl_0 (ti_eq c_202) (by decide)
                refine lv_iconst (v := 0) hx hb dX10_holds_209 (by decide) ?_
                subst hQ
                exact W.zret (v := 0) hx hb hr (rfl) (fun t ht hW => ⟨⟨0, (), rfl, ⟨rl_0.to (by decide), (fun h0 => trivial), (fun _ => trivial)⟩, by rw [ht]; exact hw.2.1, va_K.moved hW.alike hK, hw.2.2.1⟩, hw.2.2.2.1.F ht⟩) hw.2.2.2.1.2.2 dX10_holds_210
              · refine lv_iconst (v := 1) hx hb dX10_holds_205 (by decide) ?_
                refine lv_goto (tgt := 210) hx hb dX10_holds_206 (by decide) ?_
                subst hQ
                exact W.zret (v := 1) hx hb hr (rfl) (fun t ht hW => ⟨⟨1, (), rfl, ⟨rl_1.to (by decide), (fun _ => trivial), (fun h0 => trivial)⟩, by rw [ht]; exact hw.2.1, va_K.moved hW.alike hK, hw.2.2.1⟩, hw.2.2.2.1.F ht⟩) hw.2.2.2.1.2.2 dX10_holds_210
            · by_cases k_34_72 : v_13 = 72
              · refine lv_lookup (tgt := 211) (off := 177) hx hb dX10_holds_34 (by decide) (by rw [k_34_72]; decide) (by decide) ?_
                have r_v_13 : RI v_13 72 72 := by rw [k_34_72]; exact rl_72
                refine lv_aload_n hx hb dX10_holds_211 rfl (lv_at hl 3 rfl) ?_
                refine lv_iload_n hx hb dX10_holds_212 rfl (lv_at hl 5 rfl) ?_
                refine tk_ir (va_runV (As := [.int p2]) (rest := []) ⟨hx, hb, hml, hown, hts⟩ (c_X10_whatIs l D cy z s.heap.size Ps w0 hw.1 p0 p2 h_p0 r_p2) (cwV 1 hts (gV tw_1449 tw_1451 ts_69 tw_15 tw_1452) rfl rfl rfl (by decide +kernel) ⟨Nat.le_of_ble_eq_true rfl, Nat.le_of_ble_eq_true rfl⟩) (tg_preV hw hK hSD hA (ci := 10) (q := (RX10, TX10, 49)) rfl h_p0 rfl) rfl rfl hl.1 rfl (lv_room (Nat.le_of_ble_eq_true rfl)) dX10_holds_213 ⟨Nat.le_of_ble_eq_true rfl, Nat.le_of_ble_eq_true rfl⟩) hw hA (fun v_22  H locs hp_v_22 hw => ?_)
                have r_v_22 : RI v_22 (-1) 5 := hp_v_22.1
                by_cases c9_v_22 : v_22.toInt < 0
                · have r_v_22 : RI v_22 (-1) (-1) := by unfold RI at r_v_22 ⊢; omega
                  have x_NB_p0_p2 := (hp_v_22.2.2.2.2.1 (by omega)).1
                  refine lv_iload hx hb dX10_holds_216 (lv_at hl 1 rfl) ?_
                  refine lv_icmp_ne (tgt := 225) hx hb dX10_holds_218 (by decide) (fun c_218 => ?_) (fun c_218 => ?_)
                  · refine lv_iconst (v := 0) hx hb dX10_holds_225 (by decide) ?_
                    subst hQ
                    exact W.zret (v := 0) hx hb hr (rfl) (fun t ht hW => ⟨⟨0, (), rfl, ⟨rl_0.to (by decide), (fun h0 => trivial), (fun _ => trivial)⟩, by rw [ht]; exact hw.2.1, va_K.moved hW.alike hK, hw.2.2.1⟩, hw.2.2.2.1.F ht⟩) hw.2.2.2.1.2.2 dX10_holds_226
                  · have r_v_10 : RI v_10 (-1) (-1) := rc_eq2 r_v_22 r_v_10 (ti_eq c_218) (by decide)
                    refine lv_iconst (v := 1) hx hb dX10_holds_221 (by decide) ?_
                    refine lv_goto (tgt := 226) hx hb dX10_holds_222 (by decide) ?_
                    subst hQ
                    exact W.zret (v := 1) hx hb hr (rfl) (fun t ht hW => ⟨⟨1, (), rfl, ⟨rl_1.to (by decide), (fun _ => trivial), (fun h0 => trivial)⟩, by rw [ht]; exact hw.2.1, va_K.moved hW.alike hK, hw.2.2.1⟩, hw.2.2.2.1.F ht⟩) hw.2.2.2.1.2.2 dX10_holds_226
                · have r_v_22 : RI v_22 0 5 := by unfold RI at r_v_22 ⊢; omega
                  have x_WB_p0_p2_v_22 := (hp_v_22.2.2.2.2.2 (by omega)).1
                  refine lv_iload hx hb dX10_holds_216 (lv_at hl 1 rfl) ?_
                  refine lv_icmp_ne (tgt := 225) hx hb dX10_holds_218 (by decide) (fun c_218 => ?_) (fun c_218 => ?_)
                  · refine lv_iconst (v := 0) hx hb dX10_holds_225 (by decide) ?_
                    subst hQ
                    exact W.zret (v := 0) hx hb hr (rfl) (fun t ht hW => ⟨⟨0, (), rfl, ⟨rl_0.to (by decide), (fun h0 => trivial), (fun _ => trivial)⟩, by rw [ht]; exact hw.2.1, va_K.moved hW.alike hK, hw.2.2.1⟩, hw.2.2.2.1.F ht⟩) hw.2.2.2.1.2.2 dX10_holds_226
                  · have r_v_10 : RI v_10 0 5 := rc_eq2 r_v_22 r_v_10 (ti_eq c_218) (by decide)
                    refine lv_iconst (v := 1) hx hb dX10_holds_221 (by decide) ?_
                    refine lv_goto (tgt := 226) hx hb dX10_holds_222 (by decide) ?_
                    subst hQ
                    exact W.zret (v := 1) hx hb hr (rfl) (fun t ht hW => ⟨⟨1, (), rfl, ⟨rl_1.to (by decide), (fun _ => trivial), (fun h0 => trivial)⟩, by rw [ht]; exact hw.2.1, va_K.moved hW.alike hK, hw.2.2.1⟩, hw.2.2.2.1.F ht⟩) hw.2.2.2.1.2.2 dX10_holds_226
              · by_cases k_34_73 : v_13 = 73
                · refine lv_lookup (tgt := 227) (off := 193) hx hb dX10_holds_34 (by decide) (by rw [k_34_73]; decide) (by decide) ?_
                  have r_v_13 : RI v_13 73 73 := by rw [k_34_73]; exact rl_73
                  refine lv_aload_n hx hb dX10_holds_227 rfl (lv_at hl 3 rfl) ?_
                  refine tg_mem (ci := 10) (C := RX10) (T := TX10) (N := 49) hx hb hts inX10 hown hK hw 14 m_u_8 rfl (by decide) (hts _ tw_1151) (fun _ h9 => h9) dX10_holds_228 ?_
                  refine lv_bipush (v := 86) hx hb dX10_holds_231 (by decide) ?_
                  refine lv_iload_n hx hb dX10_holds_233 rfl (lv_at hl 5 rfl) ?_
                  refine lv_iadd hx hb dX10_holds_234 (lv_topi (fun v_23 e_v_23 => ?_))
                  obtain ⟨t_v_23, r_v_23⟩ := tq_add (lo := 86) (hi := 91) rl_86 r_p2 (by decide +kernel) e_v_23
                  have t_v_23 : v_23.toInt = 86 + p2.toInt := t_v_23
                  refine tg_iald (lo := (-2147483648)) (hi := 2147483647) hx hb hK hw h_vu_8 rfl 86 91 r_v_23 (by decide) (by decide +kernel) dX10_holds_235 (fun v_24 r_v_24 m_v_24 o_v_24 => ?_)
                  refine lv_iload hx hb dX10_holds_236 (lv_at hl 1 rfl) ?_
                  refine lv_icmp_ne (tgt := 245) hx hb dX10_holds_238 (by decide) (fun c_238 => ?_) (fun c_238 => ?_)
                  · refine lv_iconst (v := 0) hx hb dX10_holds_245 (by decide) ?_
                    subst hQ
                    exact W.zret (v := 0) hx hb hr (rfl) (fun t ht hW => ⟨⟨0, (), rfl, ⟨rl_0.to (by decide), (fun h0 => trivial), (fun _ => trivial)⟩, by rw [ht]; exact hw.2.1, va_K.moved hW.alike hK, hw.2.2.1⟩, hw.2.2.2.1.F ht⟩) hw.2.2.2.1.2.2 dX10_holds_246
                  · refine lv_iconst (v := 1) hx hb dX10_holds_241 (by decide) ?_
                    refine lv_goto (tgt := 246) hx hb dX10_holds_242 (by decide) ?_
                    subst hQ
                    exact W.zret (v := 1) hx hb hr (rfl) (fun t ht hW => ⟨⟨1, (), rfl, ⟨rl_1.to (by decide), (fun _ => trivial), (fun h0 => trivial)⟩, by rw [ht]; exact hw.2.1, va_K.moved hW.alike hK, hw.2.2.1⟩, hw.2.2.2.1.F ht⟩) hw.2.2.2.1.2.2 dX10_holds_246
                · refine lv_lookup (tgt := 247) (off := 213) hx hb dX10_holds_34 (by decide) ((lv_osw k_34_1 (by decide)).trans ((lv_osw k_34_2 (by decide)).trans ((lv_osw k_34_3 (by decide)).trans ((lv_osw k_34_69 (by decide)).trans ((lv_osw k_34_70 (by decide)).trans ((lv_osw k_34_71 (by decide)).trans ((lv_osw k_34_72 (by decide)).trans ((lv_osw k_34_73 (by decide)).trans (rfl))))))))) (by decide) ?_
                  refine lv_aload_n hx hb dX10_holds_247 rfl (lv_at hl 3 rfl) ?_
                  refine tg_mem (ci := 10) (C := RX10) (T := TX10) (N := 49) hx hb hts inX10 hown hK hw 14 m_u_8 rfl (by decide) (hts _ tw_1151) (fun _ h9 => h9) dX10_holds_248 ?_
                  refine lv_iload_n hx hb dX10_holds_251 rfl (lv_at hl 2 rfl) ?_
                  refine tg_imem hx hb hK hw h_vu_8 rfl r_v_7 (by decide) m_v_13 dX10_holds_252 ?_
                  refine lv_bipush (v := 50) hx hb dX10_holds_253 (by decide) ?_
                  refine lv_isub hx hb dX10_holds_255 (lv_topi (fun v_26 e_v_26 => ?_))
                  have r_v_26 := ri_any v_26
                  refine lv_istore (lv' := [(6, .int v_26), (5, .int v_12), (4, .int v_10), (3, .int v_7), (0, .ref p0), (1, .int p1), (2, .int p2)]) hx hb dX10_holds_256 hl (by decide) rfl (fun ls hl => ?_)
                  refine lv_iload hx hb dX10_holds_258 (lv_at hl 0 rfl) ?_
                  refine lv_bipush (v := 24) hx hb dX10_holds_260 (by decide) ?_
                  refine lv_icmp_ne (tgt := 273) hx hb dX10_holds_262 (by decide) (fun c_262 => ?_) (fun c_262 => ?_)
                  · refine lv_iload hx hb dX10_holds_273 (lv_at hl 0 rfl) ?_
                    refine lv_bipush (v := 25) hx hb dX10_holds_275 (by decide) ?_
                    refine lv_icmp_ne (tgt := 292) hx hb dX10_holds_277 (by decide) (fun c_277 => ?_) (fun c_277 => ?_)
                    · refine lv_iload hx hb dX10_holds_292 (lv_at hl 0 rfl) ?_
                      refine lv_bipush (v := 26) hx hb dX10_holds_294 (by decide) ?_
                      refine lv_icmp_ne (tgt := 311) hx hb dX10_holds_296 (by decide) (fun c_296 => ?_) (fun c_296 => ?_)
                      · refine lv_iload_n hx hb dX10_holds_311 rfl (lv_at hl 6 rfl) ?_
                        exact B312 v_7 v_10 v_12 v_26 p2 _ _ ls r_p1 r_p2 r_v_7 r_v_10 r_v_12 r_v_26 (r_p2.to (by decide)) hw (lv_sub hl [4, 5, 6, 3, 2, 1, 0] rfl)
                      · have r_v_26 : RI v_26 26 26 := rc_eq1 r_v_26 rl_26 (ti_eq c_296) (by decide)
                        refine lv_aload_n hx hb dX10_holds_299 rfl (lv_at hl 4 rfl) ?_
                        refine tg_mem (ci := 10) (C := RX10) (T := TX10) (N := 49) hx hb hts inX10 hown hK hw 14 m_u_8 rfl (by decide) (hts _ tw_1151) (fun _ h9 => h9) dX10_holds_300 ?_
                        refine lv_bipush (v := 98) hx hb dX10_holds_303 (by decide) ?_
                        refine lv_iload_n hx hb dX10_holds_305 rfl (lv_at hl 6 rfl) ?_
                        refine lv_iadd hx hb dX10_holds_306 (lv_topi (fun v_27 e_v_27 => ?_))
                        obtain ⟨t_v_27, r_v_27⟩ := tq_add (lo := 98) (hi := 103) rl_98 r_p2 (by decide +kernel) e_v_27
                        have t_v_27 : v_27.toInt = 98 + p2.toInt := t_v_27
                        refine tg_iald (lo := (-2147483648)) (hi := 2147483647) hx hb hK hw h_vu_8 rfl 98 103 r_v_27 (by decide) (by decide +kernel) dX10_holds_307 (fun v_28 r_v_28 m_v_28 o_v_28 => ?_)
                        refine lv_goto (tgt := 312) hx hb dX10_holds_308 (by decide) ?_
                        exact B312 v_7 v_10 v_12 v_26 v_28 _ _ ls r_p1 r_p2 r_v_7 r_v_10 r_v_12 (r_v_26.to (by decide)) r_v_28 hw (lv_sub hl [4, 5, 6, 3, 2, 1, 0] rfl)
                    · have r_v_26 : RI v_26 25 25 := rc_eq1 r_v_26 rl_25 (ti_eq c_277) (by decide)
                      refine lv_aload_n hx hb dX10_holds_280 rfl (lv_at hl 4 rfl) ?_
                      refine tg_mem (ci := 10) (C := RX10) (T := TX10) (N := 49) hx hb hts inX10 hown hK hw 14 m_u_8 rfl (by decide) (hts _ tw_1151) (fun _ h9 => h9) dX10_holds_281 ?_
                      refine lv_bipush (v := 92) hx hb dX10_holds_284 (by decide) ?_
                      refine lv_iload_n hx hb dX10_holds_286 rfl (lv_at hl 6 rfl) ?_
                      refine lv_iadd hx hb dX10_holds_287 (lv_topi (fun v_29 e_v_29 => ?_))
                      obtain ⟨t_v_29, r_v_29⟩ := tq_add (lo := 92) (hi := 97) rl_92 r_p2 (by decide +kernel) e_v_29
                      have t_v_29 : v_29.toInt = 92 + p2.toInt := t_v_29
                      refine tg_iald (lo := (-2147483648)) (hi := 2147483647) hx hb hK hw h_vu_8 rfl 92 97 r_v_29 (by decide) (by decide +kernel) dX10_holds_288 (fun v_30 r_v_30 m_v_30 o_v_30 => ?_)
                      refine lv_goto (tgt := 312) hx hb dX10_holds_289 (by decide) ?_
                      exact B312 v_7 v_10 v_12 v_26 v_30 _ _ ls r_p1 r_p2 r_v_7 r_v_10 r_v_12 (r_v_26.to (by decide)) r_v_30 hw (lv_sub hl [4, 5, 6, 3, 2, 1, 0] rfl)
                  · have r_v_26 : RI v_26 24 24 := rc_eq1 r_v_26 rl_24 (ti_eq c_262) (by decide)
                    refine lv_aload_n hx hb dX10_holds_265 rfl (lv_at hl 4 rfl) ?_
                    refine lv_iload_n hx hb dX10_holds_266 rfl (lv_at hl 6 rfl) ?_
                    refine tk_ir (va_runV (As := [.int p2]) (rest := []) ⟨hx, hb, hml, hown, hts⟩ (c_X10_sizeOf l D cy z s.heap.size Ps w0 hw.1 p0 p2 h_p0 r_p2) (cwV 1 hts (gV tw_1453 tw_1455 ts_70 tw_15 tw_1456) rfl rfl rfl (by decide +kernel) ⟨Nat.le_of_ble_eq_true rfl, Nat.le_of_ble_eq_true rfl⟩) (tg_preV hw hK hSD hA (ci := 10) (q := (RX10, TX10, 49)) rfl h_p0 rfl) rfl rfl hl.1 rfl (lv_room (Nat.le_of_ble_eq_true rfl)) dX10_holds_267 ⟨Nat.le_of_ble_eq_true rfl, Nat.le_of_ble_eq_true rfl⟩) hw hA (fun v_31  H locs hp_v_31 hw => ?_)
                    have r_v_31 : RI v_31 (-2147483648) 2147483647 := hp_v_31.1
                    refine lv_goto (tgt := 312) hx hb dX10_holds_270 (by decide) ?_
                    exact B312 v_7 v_10 v_12 v_26 v_31 _ _ ls r_p1 r_p2 r_v_7 r_v_10 r_v_12 (r_v_26.to (by decide)) r_v_31 hw (lv_sub hl [4, 5, 6, 3, 2, 1, 0] rfl)
abbrev wr_X10_holds__3 : List (Nat × Nat) := []
abbrev wa_X10_holds__3 : List Nat := []
set_option maxHeartbeats 4000000 in
set_option maxRecDepth 100000 in
theorem c_X10_holds__3 (l : Launch) (D : va_G) (cy : Nat → ClassId) (z : Nat → Nat) (sz : Nat) (Ps : PSI) (w0 : va_W) (hT : HT cy GG Ps w0) (p0 : Nat) (p1 : Int32) (p2 : Int32) (h_p0 : (p0, 55) ∈ Ps) (r_p1 : RI p1 0 56) (r_p2 : RI p2 0 5) : Met l yX10_holds (Cond.code yX10_holds cX10_holds 8 (some .boolean) :: gT) ({ frames := 59, cells := 0, slots := 0, locals := 11800 } : Room) (va_Pc [.ref p0, .int p1, .int p2] (PRE D cy z w0 sz)) (va_Qi (fun (r : Int32) (u : Unit) => RI r 0 1 ∧ (r = 0 → True) ∧ (¬ r = 0 → True)) (BB D cy (va_A w0 sz) (fun (u : Unit) => w0)) (va_A w0 sz)) 0 0 (va_A w0 sz) := by
  refine Met.ofW (cc := cX10_holds) (maxL := 8) (ret := (some .boolean)) (by decide) rfl ?_
  intro p e s m args below meth c s₁ B hml hv
  obtain ⟨rfl, hsz, hP, hK, hD0, hSD⟩ := hv
  have hx := B.exec
  have hb := B.bytes
  have hr := B.returns
  have hlocks := B.notSynchronized
  have hts : ∀ w ∈ gT, w.before _ s = true := fun w h => atoms_spec (ws := Cond.code yX10_holds cX10_holds 8 (some .boolean) :: gT) B.pre w (List.mem_cons_of_mem _ h)
  have hown : s.vm.findClass RX10 = some m.cls := findClass_of_methodNamed B.named
  subst hsz
  have hD := hD0.self (sz := s.heap.size)
  generalize hAe : va_A w0 s.heap.size = A at hD hSD ⊢
  have hA : ∀ q : Nat, s.heap.size ≤ q → A q := fun q h => by rw [← hAe]; exact Or.inr h
  have hl := lv_entry ([.ref p0, .int p1, .int p2]) (n := 8) (Nat.le_of_ble_eq_true rfl)
  rw [lg_entry_eq]
  generalize (lg_sl ([.ref p0, .int p1, .int p2]) ++ List.replicate (8 - (lg_sl ([.ref p0, .int p1, .int p2])).length) Slot.unset).toArray = ls at hl ⊢
  have hl : lv_has ls 8 [(0, .ref p0), (1, .int p1), (2, .int p2)] := hl
  refine nameQ (fun Q hQ => ?_)
  have hw : WD D cy GG A s wr_X10_holds__3 wa_X10_holds__3 Ps w0 Ps w0 s.heap [] := ⟨hT, hP, hD, va_S.rf, FR.rf, hT.1, [], (List.append_nil _).symm⟩
  have B312 : ∀ (x3 : Int32) (x4 : Int32) (x5 : Int32) (x6 : Int32) (y0 : Int32) (H : Heap) (locs : List Loc) (ls : Array Slot), RI p1 0 56 → RI p2 0 5 → RI x3 174 398 → RI x4 (-2147483648) 2147483647 → RI x5 (-2147483648) 2147483647 → RI x6 (-2147483648) 2147483647 → RI y0 (-2147483648) 2147483647 → WD D cy GG A s wr_X10_holds__3 wa_X10_holds__3 Ps w0 Ps w0 H locs → lv_has ls 8 [(0, .ref p0), (1, .int p1), (2, .int p2), (3, .int x3), (4, .int x4), (5, .int x5), (6, .int x6)] → W p l e (headSpec (Cond.code yX10_holds cX10_holds 8 (some .boolean) :: gT) ({ frames := 59, cells := 0, slots := 0, locals := 11800 } : Room)).room s m ([.ref p0, .int p1, .int p2] : List Value).toArray below meth c H locs 0 0 Q (F0 m 312 ls [.int y0]) := by
    intro x3 x4 x5 x6 y0 H locs ls r_p1 r_p2 r_x3 r_x4 r_x5 r_x6 r_y0 hw hl
    refine lv_istore (lv' := [(7, .int y0), (0, .ref p0), (1, .int p1), (2, .int p2), (3, .int x3), (4, .int x4), (5, .int x5), (6, .int x6)]) hx hb dX10_holds_312 hl (by decide) rfl (fun ls hl => ?_)
    refine lv_aload_n hx hb dX10_holds_314 rfl (lv_at hl 1 rfl) ?_
    refine tg_get (ci := 10) (ts := ty_MODEL) (C := RX10) (T := TX10) (N := 49) hx hb hts inX10 hown hK hw h_p0 rfl rfl 14 (by decide) (hts _ tw_1151) (fun _ h9 => h9) (ft := vR 34) rfl dX10_holds_315 (fun u_1 hv_u_1 m_u_1 => ?_)
    obtain ⟨vu_1, rfl, h_vu_1⟩ := hv_u_1
    refine lv_iload_n hx hb dX10_holds_318 rfl (lv_at hl 4 rfl) ?_
    refine lv_iconst (v := 3) hx hb dX10_holds_319 (by decide) ?_
    refine lv_iadd hx hb dX10_holds_320 (lv_topi (fun v_2 e_v_2 => ?_))
    obtain ⟨t_v_2, r_v_2⟩ := tq_add (lo := 177) (hi := 401) r_x3 rl_3 (by decide +kernel) e_v_2
    have t_v_2 : v_2.toInt = x3.toInt + 3 := t_v_2
    refine tg_iald (lo := (-2147483648)) (hi := 2147483647) hx hb hK hw h_vu_1 rfl 177 401 r_v_2 (by decide) (by decide +kernel) dX10_holds_321 (fun v_3 r_v_3 m_v_3 o_v_3 => ?_)
    refine lv_bipush (v := 60) hx hb dX10_holds_322 (by decide) ?_
    refine lv_icmp_ne (tgt := 342) hx hb dX10_holds_324 (by decide) (fun c_324 => ?_) (fun c_324 => ?_)
    · refine lv_aload_n hx hb dX10_holds_342 rfl (lv_at hl 1 rfl) ?_
      refine tg_mem (ci := 10) (C := RX10) (T := TX10) (N := 49) hx hb hts inX10 hown hK hw 14 m_u_1 rfl (by decide) (hts _ tw_1151) (fun _ h9 => h9) dX10_holds_343 ?_
      refine lv_iload_n hx hb dX10_holds_346 rfl (lv_at hl 4 rfl) ?_
      refine lv_iconst (v := 3) hx hb dX10_holds_347 (by decide) ?_
      refine lv_iadd hx hb dX10_holds_348 (lv_topi (fun v_4 e_v_4 => ?_))
      obtain ⟨t_v_4, r_v_4⟩ := tq_add (lo := 177) (hi := 401) r_x3 rl_3 (by decide +kernel) e_v_4
      have t_v_4 : v_4.toInt = x3.toInt + 3 := t_v_4
      refine tg_iald (lo := (-2147483648)) (hi := 2147483647) hx hb hK hw h_vu_1 rfl 177 401 r_v_4 (by decide) (by decide +kernel) dX10_holds_349 (fun v_5 r_v_5 m_v_5 o_v_5 => ?_)
      refine lv_bipush (v := 61) hx hb dX10_holds_350 (by decide) ?_
      refine lv_icmp_ne (tgt := 370) hx hb dX10_holds_352 (by decide) (fun c_352 => ?_) (fun c_352 => ?_)
      · refine lv_iload hx hb dX10_holds_370 (lv_at hl 0 rfl) ?_
        refine lv_iload hx hb dX10_holds_372 (lv_at hl 6 rfl) ?_
        refine lv_icmp_le (tgt := 381) hx hb dX10_holds_374 (by decide) (fun c_374 => ?_) (fun c_374 => ?_)
        · refine lv_iconst (v := 0) hx hb dX10_holds_381 (by decide) ?_
          subst hQ
          exact W.zret (v := 0) hx hb hr (rfl) (fun t ht hW => ⟨⟨0, (), rfl, ⟨rl_0.to (by decide), (fun h0 => trivial), (fun _ => trivial)⟩, by rw [ht]; exact hw.2.1, va_K.moved hW.alike hK, hw.2.2.1⟩, hw.2.2.2.1.F ht⟩) hw.2.2.2.1.2.2 dX10_holds_382
        · have r_x5 : RI x5 (-2147483648) 2147483646 := rc_lt1 r_x5 r_y0 (ti_nle c_374) (by decide)
          have r_y0 : RI y0 (-2147483647) 2147483647 := rc_lt2 r_x5 r_y0 (ti_nle c_374) (by decide)
          refine lv_iconst (v := 1) hx hb dX10_holds_377 (by decide) ?_
          refine lv_goto (tgt := 382) hx hb dX10_holds_378 (by decide) ?_
          subst hQ
          exact W.zret (v := 1) hx hb hr (rfl) (fun t ht hW => ⟨⟨1, (), rfl, ⟨rl_1.to (by decide), (fun _ => trivial), (fun h0 => trivial)⟩, by rw [ht]; exact hw.2.1, va_K.moved hW.alike hK, hw.2.2.1⟩, hw.2.2.2.1.F ht⟩) hw.2.2.2.1.2.2 dX10_holds_382
      · have r_v_5 : RI v_5 61 61 := rc_eq1 r_v_5 rl_61 (ti_eq c_352) (by decide)
        refine lv_iload hx hb dX10_holds_355 (lv_at hl 0 rfl) ?_
        refine lv_iload hx hb dX10_holds_357 (lv_at hl 6 rfl) ?_
        refine lv_icmp_ne (tgt := 366) hx hb dX10_holds_359 (by decide) (fun c_359 => ?_) (fun c_359 => ?_)
        · refine lv_iconst (v := 0) hx hb dX10_holds_366 (by decide) ?_
          refine lv_goto (tgt := 382) hx hb dX10_holds_367 (by decide) ?_
          subst hQ
          exact W.zret (v := 0) hx hb hr (rfl) (fun t ht hW => ⟨⟨0, (), rfl, ⟨rl_0.to (by decide), (fun h0 => trivial), (fun _ => trivial)⟩, by rw [ht]; exact hw.2.1, va_K.moved hW.alike hK, hw.2.2.1⟩, hw.2.2.2.1.F ht⟩) hw.2.2.2.1.2.2 dX10_holds_382
        · refine lv_iconst (v := 1) hx hb dX10_holds_362 (by decide) ?_
          refine lv_goto (tgt := 382) hx hb dX10_holds_363 (by decide) ?_
          subst hQ
          exact W.zret (v := 1) hx hb hr (rfl) (fun t ht hW => ⟨⟨1, (), rfl, ⟨rl_1.to (by decide), (fun _ => trivial), (fun h0 => trivial)⟩, by rw [ht]; exact hw.2.1, va_K.moved hW.alike hK, hw.2.2.1⟩, hw.2.2.2.1.F ht⟩) hw.2.2.2.1.2.2 dX10_holds_382
    · have r_v_3 : RI v_3 60 60 := rc_eq1 r_v_3 rl_60 (ti_eq c_324) (by decide)
      refine lv_iload hx hb dX10_holds_327 (lv_at hl 0 rfl) ?_
      refine lv_iload hx hb dX10_holds_329 (lv_at hl 6 rfl) ?_
      refine lv_icmp_ge (tgt := 338) hx hb dX10_holds_331 (by decide) (fun c_331 => ?_) (fun c_331 => ?_)
      · refine lv_iconst (v := 0) hx hb dX10_holds_338 (by decide) ?_
        refine lv_goto (tgt := 382) hx hb dX10_holds_339 (by decide) ?_
        subst hQ
        exact W.zret (v := 0) hx hb hr (rfl) (fun t ht hW => ⟨⟨0, (), rfl, ⟨rl_0.to (by decide), (fun h0 => trivial), (fun _ => trivial)⟩, by rw [ht]; exact hw.2.1, va_K.moved hW.alike hK, hw.2.2.1⟩, hw.2.2.2.1.F ht⟩) hw.2.2.2.1.2.2 dX10_holds_382
      · have r_y0 : RI y0 (-2147483648) 2147483646 := rc_lt1 r_y0 r_x5 (ti_nle c_331) (by decide)
        have r_x5 : RI x5 (-2147483647) 2147483647 := rc_lt2 r_y0 r_x5 (ti_nle c_331) (by decide)
        refine lv_iconst (v := 1) hx hb dX10_holds_334 (by decide) ?_
        refine lv_goto (tgt := 382) hx hb dX10_holds_335 (by decide) ?_
        subst hQ
        exact W.zret (v := 1) hx hb hr (rfl) (fun t ht hW => ⟨⟨1, (), rfl, ⟨rl_1.to (by decide), (fun _ => trivial), (fun h0 => trivial)⟩, by rw [ht]; exact hw.2.1, va_K.moved hW.alike hK, hw.2.2.1⟩, hw.2.2.2.1.F ht⟩) hw.2.2.2.1.2.2 dX10_holds_382
  refine lv_sipush (v := 174) hx hb dX10_holds_0 (by decide) ?_
  refine lv_iconst (v := 4) hx hb dX10_holds_3 (by decide) ?_
  refine lv_iload_n hx hb dX10_holds_4 rfl (lv_at hl 1 rfl) ?_
  refine lv_imul hx hb dX10_holds_5 (lv_topi (fun v_6 e_v_6 => ?_))
  obtain ⟨t_v_6, r_v_6⟩ := tq_mul (lo := 0) (hi := 224) rl_4 r_p1 (by decide +kernel) e_v_6
  have t_v_6 : v_6.toInt = 4 * p1.toInt := t_v_6
  refine lv_iadd hx hb dX10_holds_6 (lv_topi (fun v_7 e_v_7 => ?_))
  obtain ⟨t_v_7, r_v_7⟩ := tq_add (lo := 174) (hi := 398) rl_174 r_v_6 (by decide +kernel) e_v_7
  have t_v_7 : v_7.toInt = 174 + v_6.toInt := t_v_7
  refine lv_istore_n (lv' := [(3, .int v_7), (0, .ref p0), (1, .int p1), (2, .int p2)]) hx hb dX10_holds_7 rfl hl (by decide) rfl (fun ls hl => ?_)
  refine lv_aload_n hx hb dX10_holds_8 rfl (lv_at hl 1 rfl) ?_
  refine tg_get (ci := 10) (ts := ty_MODEL) (C := RX10) (T := TX10) (N := 49) hx hb hts inX10 hown hK hw h_p0 rfl rfl 14 (by decide) (hts _ tw_1151) (fun _ h9 => h9) (ft := vR 34) rfl dX10_holds_9 (fun u_8 hv_u_8 m_u_8 => ?_)
  obtain ⟨vu_8, rfl, h_vu_8⟩ := hv_u_8
  refine lv_iload_n hx hb dX10_holds_12 rfl (lv_at hl 0 rfl) ?_
  refine lv_iconst (v := 1) hx hb dX10_holds_13 (by decide) ?_
  refine lv_iadd hx hb dX10_holds_14 (lv_topi (fun v_9 e_v_9 => ?_))
  obtain ⟨t_v_9, r_v_9⟩ := tq_add (lo := 175) (hi := 399) r_v_7 rl_1 (by decide +kernel) e_v_9
  have t_v_9 : v_9.toInt = v_7.toInt + 1 := t_v_9
  refine tg_iald (lo := (-2147483648)) (hi := 2147483647) hx hb hK hw h_vu_8 rfl 175 399 r_v_9 (by decide) (by decide +kernel) dX10_holds_15 (fun v_10 r_v_10 m_v_10 o_v_10 => ?_)
  refine lv_istore (lv' := [(4, .int v_10), (3, .int v_7), (0, .ref p0), (1, .int p1), (2, .int p2)]) hx hb dX10_holds_16 hl (by decide) rfl (fun ls hl => ?_)
  refine lv_aload_n hx hb dX10_holds_18 rfl (lv_at hl 2 rfl) ?_
  refine tg_mem (ci := 10) (C := RX10) (T := TX10) (N := 49) hx hb hts inX10 hown hK hw 14 m_u_8 rfl (by decide) (hts _ tw_1151) (fun _ h9 => h9) dX10_holds_19 ?_
  refine lv_iload_n hx hb dX10_holds_22 rfl (lv_at hl 1 rfl) ?_
  refine lv_iconst (v := 2) hx hb dX10_holds_23 (by decide) ?_
  refine lv_iadd hx hb dX10_holds_24 (lv_topi (fun v_11 e_v_11 => ?_))
  obtain ⟨t_v_11, r_v_11⟩ := tq_add (lo := 176) (hi := 400) r_v_7 rl_2 (by decide +kernel) e_v_11
  have t_v_11 : v_11.toInt = v_7.toInt + 2 := t_v_11
  refine tg_iald (lo := (-2147483648)) (hi := 2147483647) hx hb hK hw h_vu_8 rfl 176 400 r_v_11 (by decide) (by decide +kernel) dX10_holds_25 (fun v_12 r_v_12 m_v_12 o_v_12 => ?_)
  refine lv_istore (lv' := [(5, .int v_12), (4, .int v_10), (3, .int v_7), (0, .ref p0), (1, .int p1), (2, .int p2)]) hx hb dX10_holds_26 hl (by decide) rfl (fun ls hl => ?_)
  refine lv_aload_n hx hb dX10_holds_28 rfl (lv_at hl 3 rfl) ?_
  refine tg_mem (ci := 10) (C := RX10) (T := TX10) (N := 49) hx hb hts inX10 hown hK hw 14 m_u_8 rfl (by decide) (hts _ tw_1151) (fun _ h9 => h9) dX10_holds_29 ?_
  refine lv_iload_n hx hb dX10_holds_32 rfl (lv_at hl 2 rfl) ?_
  refine tg_iald (lo := (-2147483648)) (hi := 2147483647) hx hb hK hw h_vu_8 rfl 174 398 r_v_7 (by decide) (by decide +kernel) dX10_holds_33 (fun v_13 r_v_13 m_v_13 o_v_13 => ?_)
  by_cases k_34_1 : v_13 = 1
  · refine lv_lookup (tgt := 108) (off := 74) hx hb dX10_holds_34 (by decide) (by rw [k_34_1]; decide) (by decide) ?_
    have r_v_13 : RI v_13 1 1 := by rw [k_34_1]; exact rl_1
    have g_v_10 : 0 ≤ v_10.toInt ∧ v_10.toInt < p1.toInt := by obtain ⟨_, f9, e8, e7, q9, _⟩ := ax_of (k := 14) (t := 34) hw h_p0 rfl (fun _ => rfl); cases FLD.inj hw.2.2.1 e8 m_u_8; have t9 := ARR.ael hw.2.2.1 e7 m_v_13; have x9 := ARR.ael hw.2.2.1 e7 m_v_10; rw [show Int32.toNatClampNeg v_7 = 174 + 4 * Int32.toNatClampNeg p1 from (by have k1 := r_v_7.cl (by decide); have k2 := r_p1.cl (by decide); omega)] at t9; rw [show Int32.toNatClampNeg v_9 = 175 + 4 * Int32.toNatClampNeg p1 from (by have k1 := r_v_9.cl (by decide); have k2 := r_p1.cl (by decide); omega)] at x9; exact RN_child q9 (r_p1.to (by decide)) t9 x9 (r_v_13.to (by decide))
    have r_v_10 : RI v_10 0 55 := ⟨g_v_10.1, by have k1 := r_p1.2; omega⟩
    refine lv_aload_n hx hb dX10_holds_108 rfl (lv_at hl 3 rfl) ?_
    refine lv_iload hx hb dX10_holds_109 (lv_at hl 1 rfl) ?_
    refine lv_iload_n hx hb dX10_holds_111 rfl (lv_at hl 5 rfl) ?_
    refine tk_ir (va_runV (As := [.int v_10, .int p2]) (rest := []) ⟨hx, hb, hml, hown, hts⟩ (c_X10_holds__4 l D cy z s.heap.size Ps w0 hw.1 p0 v_10 p2 h_p0 r_v_10 r_p2) (cwV 2 hts (gV tw_1787 tw_1789 ts_119 tw_15 tw_1790) rfl rfl rfl (by decide +kernel) ⟨Nat.le_of_ble_eq_true rfl, Nat.le_of_ble_eq_true rfl⟩) (tg_preV hw hK hSD hA (ci := 10) (q := (RX10, TX10, 49)) rfl h_p0 rfl) rfl rfl hl.1 rfl (lv_room (Nat.le_of_ble_eq_true rfl)) dX10_holds_112 ⟨Nat.le_of_ble_eq_true rfl, Nat.le_of_ble_eq_true rfl⟩) hw hA (fun v_14  H locs hp_v_14 hw => ?_)
    have r_v_14 : RI v_14 0 1 := hp_v_14.1
    refine lv_if_ne (tgt := 122) hx hb dX10_holds_115 (by decide) (fun c_115 => ?_) (fun c_115 => ?_)
    · have r_v_14 : RI v_14 1 1 := rc_neL r_v_14 rl_0 (ti_ne c_115) (by decide)
      refine lv_iconst (v := 0) hx hb dX10_holds_122 (by decide) ?_
      subst hQ
      exact W.zret (v := 0) hx hb hr (rfl) (fun t ht hW => ⟨⟨0, (), rfl, ⟨rl_0.to (by decide), (fun h0 => trivial), (fun _ => trivial)⟩, by rw [ht]; exact hw.2.1, va_K.moved hW.alike hK, hw.2.2.1⟩, hw.2.2.2.1.F ht⟩) hw.2.2.2.1.2.2 dX10_holds_123
    · have r_v_14 : RI v_14 0 0 := rc_eq1 r_v_14 rl_0 (ti_eq c_115) (by decide)
      refine lv_iconst (v := 1) hx hb dX10_holds_118 (by decide) ?_
      refine lv_goto (tgt := 123) hx hb dX10_holds_119 (by decide) ?_
      subst hQ
      exact W.zret (v := 1) hx hb hr (rfl) (fun t ht hW => ⟨⟨1, (), rfl, ⟨rl_1.to (by decide), (fun _ => trivial), (fun h0 => trivial)⟩, by rw [ht]; exact hw.2.1, va_K.moved hW.alike hK, hw.2.2.1⟩, hw.2.2.2.1.F ht⟩) hw.2.2.2.1.2.2 dX10_holds_123
  · by_cases k_34_2 : v_13 = 2
    · refine lv_lookup (tgt := 124) (off := 90) hx hb dX10_holds_34 (by decide) (by rw [k_34_2]; decide) (by decide) ?_
      have r_v_13 : RI v_13 2 2 := by rw [k_34_2]; exact rl_2
      have g_v_10 : 0 ≤ v_10.toInt ∧ v_10.toInt < p1.toInt := by obtain ⟨_, f9, e8, e7, q9, _⟩ := ax_of (k := 14) (t := 34) hw h_p0 rfl (fun _ => rfl); cases FLD.inj hw.2.2.1 e8 m_u_8; have t9 := ARR.ael hw.2.2.1 e7 m_v_13; have x9 := ARR.ael hw.2.2.1 e7 m_v_10; rw [show Int32.toNatClampNeg v_7 = 174 + 4 * Int32.toNatClampNeg p1 from (by have k1 := r_v_7.cl (by decide); have k2 := r_p1.cl (by decide); omega)] at t9; rw [show Int32.toNatClampNeg v_9 = 175 + 4 * Int32.toNatClampNeg p1 from (by have k1 := r_v_9.cl (by decide); have k2 := r_p1.cl (by decide); omega)] at x9; exact RN_child q9 (r_p1.to (by decide)) t9 x9 (r_v_13.to (by decide))
      have r_v_10 : RI v_10 0 55 := ⟨g_v_10.1, by have k1 := r_p1.2; omega⟩
      have g_v_12 : 0 ≤ v_12.toInt ∧ v_12.toInt < p1.toInt := by obtain ⟨_, f9, e8, e7, q9, _⟩ := ax_of (k := 14) (t := 34) hw h_p0 rfl (fun _ => rfl); cases FLD.inj hw.2.2.1 e8 m_u_8; have t9 := ARR.ael hw.2.2.1 e7 m_v_13; have x9 := ARR.ael hw.2.2.1 e7 m_v_12; rw [show Int32.toNatClampNeg v_7 = 174 + 4 * Int32.toNatClampNeg p1 from (by have k1 := r_v_7.cl (by decide); have k2 := r_p1.cl (by decide); omega)] at t9; rw [show Int32.toNatClampNeg v_11 = 176 + 4 * Int32.toNatClampNeg p1 from (by have k1 := r_v_11.cl (by decide); have k2 := r_p1.cl (by decide); omega)] at x9; exact RN_child2 q9 (r_p1.to (by decide)) t9 x9 (r_v_13.to (by decide))
      have r_v_12 : RI v_12 0 55 := ⟨g_v_12.1, by have k1 := r_p1.2; omega⟩
      refine lv_aload_n hx hb dX10_holds_124 rfl (lv_at hl 3 rfl) ?_
      refine lv_iload hx hb dX10_holds_125 (lv_at hl 1 rfl) ?_
      refine lv_iload_n hx hb dX10_holds_127 rfl (lv_at hl 5 rfl) ?_
      refine tk_ir (va_runV (As := [.int v_10, .int p2]) (rest := []) ⟨hx, hb, hml, hown, hts⟩ (c_X10_holds__4 l D cy z s.heap.size Ps w0 hw.1 p0 v_10 p2 h_p0 r_v_10 r_p2) (cwV 2 hts (gV tw_1787 tw_1789 ts_119 tw_15 tw_1790) rfl rfl rfl (by decide +kernel) ⟨Nat.le_of_ble_eq_true rfl, Nat.le_of_ble_eq_true rfl⟩) (tg_preV hw hK hSD hA (ci := 10) (q := (RX10, TX10, 49)) rfl h_p0 rfl) rfl rfl hl.1 rfl (lv_room (Nat.le_of_ble_eq_true rfl)) dX10_holds_128 ⟨Nat.le_of_ble_eq_true rfl, Nat.le_of_ble_eq_true rfl⟩) hw hA (fun v_15  H locs hp_v_15 hw => ?_)
      have r_v_15 : RI v_15 0 1 := hp_v_15.1
      refine lv_if_eq (tgt := 148) hx hb dX10_holds_131 (by decide) (fun c_131 => ?_) (fun c_131 => ?_)
      · have r_v_15 : RI v_15 0 0 := rc_eq1 r_v_15 rl_0 (ti_eq c_131) (by decide)
        refine lv_iconst (v := 0) hx hb dX10_holds_148 (by decide) ?_
        subst hQ
        exact W.zret (v := 0) hx hb hr (rfl) (fun t ht hW => ⟨⟨0, (), rfl, ⟨rl_0.to (by decide), (fun h0 => trivial), (fun _ => trivial)⟩, by rw [ht]; exact hw.2.1, va_K.moved hW.alike hK, hw.2.2.1⟩, hw.2.2.2.1.F ht⟩) hw.2.2.2.1.2.2 dX10_holds_149
      · have r_v_15 : RI v_15 1 1 := rc_neL r_v_15 rl_0 (ti_ne c_131) (by decide)
        refine lv_aload_n hx hb dX10_holds_134 rfl (lv_at hl 3 rfl) ?_
        refine lv_iload hx hb dX10_holds_135 (lv_at hl 0 rfl) ?_
        refine lv_iload_n hx hb dX10_holds_137 rfl (lv_at hl 5 rfl) ?_
        refine tk_ir (va_runV (As := [.int v_12, .int p2]) (rest := []) ⟨hx, hb, hml, hown, hts⟩ (c_X10_holds__4 l D cy z H.size Ps w0 hw.1 p0 v_12 p2 h_p0 r_v_12 r_p2) (cwV 2 hts (gV tw_1787 tw_1789 ts_119 tw_15 tw_1790) rfl rfl rfl (by decide +kernel) ⟨Nat.le_of_ble_eq_true rfl, Nat.le_of_ble_eq_true rfl⟩) (tg_preV hw hK hSD hA (ci := 10) (q := (RX10, TX10, 49)) rfl h_p0 rfl) rfl rfl hl.1 rfl (lv_room (Nat.le_of_ble_eq_true rfl)) dX10_holds_138 ⟨Nat.le_of_ble_eq_true rfl, Nat.le_of_ble_eq_true rfl⟩) hw hA (fun v_16  H locs hp_v_16 hw => ?_)
        have r_v_16 : RI v_16 0 1 := hp_v_16.1
        refine lv_if_eq (tgt := 148) hx hb dX10_holds_141 (by decide) (fun c_141 => ?_) (fun c_141 => ?_)
        · have r_v_16 : RI v_16 0 0 := rc_eq1 r_v_16 rl_0 (ti_eq c_141) (by decide)
          refine lv_iconst (v := 0) hx hb dX10_holds_148 (by decide) ?_
          subst hQ
          exact W.zret (v := 0) hx hb hr (rfl) (fun t ht hW => ⟨⟨0, (), rfl, ⟨rl_0.to (by decide), (fun h0 => trivial), (fun _ => trivial)⟩, by rw [ht]; exact hw.2.1, va_K.moved hW.alike hK, hw.2.2.1⟩, hw.2.2.2.1.F ht⟩) hw.2.2.2.1.2.2 dX10_holds_149
        · have r_v_16 : RI v_16 1 1 := rc_neL r_v_16 rl_0 (ti_ne c_141) (by decide)
          refine lv_iconst (v := 1) hx hb dX10_holds_144 (by decide) ?_
          refine lv_goto (tgt := 149) hx hb dX10_holds_145 (by decide) ?_
          subst hQ
          exact W.zret (v := 1) hx hb hr (rfl) (fun t ht hW => ⟨⟨1, (), rfl, ⟨rl_1.to (by decide), (fun _ => trivial), (fun h0 => trivial)⟩, by rw [ht]; exact hw.2.1, va_K.moved hW.alike hK, hw.2.2.1⟩, hw.2.2.2.1.F ht⟩) hw.2.2.2.1.2.2 dX10_holds_149
    · by_cases k_34_3 : v_13 = 3
      · refine lv_lookup (tgt := 150) (off := 116) hx hb dX10_holds_34 (by decide) (by rw [k_34_3]; decide) (by decide) ?_
        have r_v_13 : RI v_13 3 3 := by rw [k_34_3]; exact rl_3
        have g_v_10 : 0 ≤ v_10.toInt ∧ v_10.toInt < p1.toInt := by obtain ⟨_, f9, e8, e7, q9, _⟩ := ax_of (k := 14) (t := 34) hw h_p0 rfl (fun _ => rfl); cases FLD.inj hw.2.2.1 e8 m_u_8; have t9 := ARR.ael hw.2.2.1 e7 m_v_13; have x9 := ARR.ael hw.2.2.1 e7 m_v_10; rw [show Int32.toNatClampNeg v_7 = 174 + 4 * Int32.toNatClampNeg p1 from (by have k1 := r_v_7.cl (by decide); have k2 := r_p1.cl (by decide); omega)] at t9; rw [show Int32.toNatClampNeg v_9 = 175 + 4 * Int32.toNatClampNeg p1 from (by have k1 := r_v_9.cl (by decide); have k2 := r_p1.cl (by decide); omega)] at x9; exact RN_child q9 (r_p1.to (by decide)) t9 x9 (r_v_13.to (by decide))
        have r_v_10 : RI v_10 0 55 := ⟨g_v_10.1, by have k1 := r_p1.2; omega⟩
        have g_v_12 : 0 ≤ v_12.toInt ∧ v_12.toInt < p1.toInt := by obtain ⟨_, f9, e8, e7, q9, _⟩ := ax_of (k := 14) (t := 34) hw h_p0 rfl (fun _ => rfl); cases FLD.inj hw.2.2.1 e8 m_u_8; have t9 := ARR.ael hw.2.2.1 e7 m_v_13; have x9 := ARR.ael hw.2.2.1 e7 m_v_12; rw [show Int32.toNatClampNeg v_7 = 174 + 4 * Int32.toNatClampNeg p1 from (by have k1 := r_v_7.cl (by decide); have k2 := r_p1.cl (by decide); omega)] at t9; rw [show Int32.toNatClampNeg v_11 = 176 + 4 * Int32.toNatClampNeg p1 from (by have k1 := r_v_11.cl (by decide); have k2 := r_p1.cl (by decide); omega)] at x9; exact RN_child2 q9 (r_p1.to (by decide)) t9 x9 (r_v_13.to (by decide))
        have r_v_12 : RI v_12 0 55 := ⟨g_v_12.1, by have k1 := r_p1.2; omega⟩
        refine lv_aload_n hx hb dX10_holds_150 rfl (lv_at hl 3 rfl) ?_
        refine lv_iload hx hb dX10_holds_151 (lv_at hl 1 rfl) ?_
        refine lv_iload_n hx hb dX10_holds_153 rfl (lv_at hl 5 rfl) ?_
        refine tk_ir (va_runV (As := [.int v_10, .int p2]) (rest := []) ⟨hx, hb, hml, hown, hts⟩ (c_X10_holds__4 l D cy z s.heap.size Ps w0 hw.1 p0 v_10 p2 h_p0 r_v_10 r_p2) (cwV 2 hts (gV tw_1787 tw_1789 ts_119 tw_15 tw_1790) rfl rfl rfl (by decide +kernel) ⟨Nat.le_of_ble_eq_true rfl, Nat.le_of_ble_eq_true rfl⟩) (tg_preV hw hK hSD hA (ci := 10) (q := (RX10, TX10, 49)) rfl h_p0 rfl) rfl rfl hl.1 rfl (lv_room (Nat.le_of_ble_eq_true rfl)) dX10_holds_154 ⟨Nat.le_of_ble_eq_true rfl, Nat.le_of_ble_eq_true rfl⟩) hw hA (fun v_17  H locs hp_v_17 hw => ?_)
        have r_v_17 : RI v_17 0 1 := hp_v_17.1
        refine lv_if_ne (tgt := 170) hx hb dX10_holds_157 (by decide) (fun c_157 => ?_) (fun c_157 => ?_)
        · have r_v_17 : RI v_17 1 1 := rc_neL r_v_17 rl_0 (ti_ne c_157) (by decide)
          refine lv_iconst (v := 1) hx hb dX10_holds_170 (by decide) ?_
          refine lv_goto (tgt := 175) hx hb dX10_holds_171 (by decide) ?_
          subst hQ
          exact W.zret (v := 1) hx hb hr (rfl) (fun t ht hW => ⟨⟨1, (), rfl, ⟨rl_1.to (by decide), (fun _ => trivial), (fun h0 => trivial)⟩, by rw [ht]; exact hw.2.1, va_K.moved hW.alike hK, hw.2.2.1⟩, hw.2.2.2.1.F ht⟩) hw.2.2.2.1.2.2 dX10_holds_175
        · have r_v_17 : RI v_17 0 0 := rc_eq1 r_v_17 rl_0 (ti_eq c_157) (by decide)
          refine lv_aload_n hx hb dX10_holds_160 rfl (lv_at hl 3 rfl) ?_
          refine lv_iload hx hb dX10_holds_161 (lv_at hl 0 rfl) ?_
          refine lv_iload_n hx hb dX10_holds_163 rfl (lv_at hl 5 rfl) ?_
          refine tk_ir (va_runV (As := [.int v_12, .int p2]) (rest := []) ⟨hx, hb, hml, hown, hts⟩ (c_X10_holds__4 l D cy z H.size Ps w0 hw.1 p0 v_12 p2 h_p0 r_v_12 r_p2) (cwV 2 hts (gV tw_1787 tw_1789 ts_119 tw_15 tw_1790) rfl rfl rfl (by decide +kernel) ⟨Nat.le_of_ble_eq_true rfl, Nat.le_of_ble_eq_true rfl⟩) (tg_preV hw hK hSD hA (ci := 10) (q := (RX10, TX10, 49)) rfl h_p0 rfl) rfl rfl hl.1 rfl (lv_room (Nat.le_of_ble_eq_true rfl)) dX10_holds_164 ⟨Nat.le_of_ble_eq_true rfl, Nat.le_of_ble_eq_true rfl⟩) hw hA (fun v_18  H locs hp_v_18 hw => ?_)
          have r_v_18 : RI v_18 0 1 := hp_v_18.1
          refine lv_if_eq (tgt := 174) hx hb dX10_holds_167 (by decide) (fun c_167 => ?_) (fun c_167 => ?_)
          · have r_v_18 : RI v_18 0 0 := rc_eq1 r_v_18 rl_0 (ti_eq c_167) (by decide)
            refine lv_iconst (v := 0) hx hb dX10_holds_174 (by decide) ?_
            subst hQ
            exact W.zret (v := 0) hx hb hr (rfl) (fun t ht hW => ⟨⟨0, (), rfl, ⟨rl_0.to (by decide), (fun h0 => trivial), (fun _ => trivial)⟩, by rw [ht]; exact hw.2.1, va_K.moved hW.alike hK, hw.2.2.1⟩, hw.2.2.2.1.F ht⟩) hw.2.2.2.1.2.2 dX10_holds_175
          · have r_v_18 : RI v_18 1 1 := rc_neL r_v_18 rl_0 (ti_ne c_167) (by decide)
            refine lv_iconst (v := 1) hx hb dX10_holds_170 (by decide) ?_
            refine lv_goto (tgt := 175) hx hb dX10_holds_171 (by decide) ?_
            subst hQ
            exact W.zret (v := 1) hx hb hr (rfl) (fun t ht hW => ⟨⟨1, (), rfl, ⟨rl_1.to (by decide), (fun _ => trivial), (fun h0 => trivial)⟩, by rw [ht]; exact hw.2.1, va_K.moved hW.alike hK, hw.2.2.1⟩, hw.2.2.2.1.F ht⟩) hw.2.2.2.1.2.2 dX10_holds_175
      · by_cases k_34_69 : v_13 = 69
        · refine lv_lookup (tgt := 176) (off := 142) hx hb dX10_holds_34 (by decide) (by rw [k_34_69]; decide) (by decide) ?_
          have r_v_13 : RI v_13 69 69 := by rw [k_34_69]; exact rl_69
          refine lv_aload_n hx hb dX10_holds_176 rfl (lv_at hl 3 rfl) ?_
          refine lv_iload_n hx hb dX10_holds_177 rfl (lv_at hl 5 rfl) ?_
          refine tk_ir (va_runV (As := [.int p2]) (rest := []) ⟨hx, hb, hml, hown, hts⟩ (c_X10_isOpen l D cy z s.heap.size Ps w0 hw.1 p0 p2 h_p0 (r_p2.to (by decide))) (cwV 1 hts (gV tw_1457 tw_1459 ts_71 tw_15 tw_1460) rfl rfl rfl (by decide +kernel) ⟨Nat.le_of_ble_eq_true rfl, Nat.le_of_ble_eq_true rfl⟩) (tg_preV hw hK hSD hA (ci := 10) (q := (RX10, TX10, 49)) rfl h_p0 rfl) rfl rfl hl.1 rfl (lv_room (Nat.le_of_ble_eq_true rfl)) dX10_holds_178 ⟨Nat.le_of_ble_eq_true rfl, Nat.le_of_ble_eq_true rfl⟩) hw hA (fun v_19  H locs hp_v_19 hw => ?_)
          have r_v_19 : RI v_19 0 1 := hp_v_19.1
          subst hQ
          exact W.zret (v := v_19) hx hb hr (tq_nz (r_v_19.to (by decide))) (fun t ht hW => ⟨⟨v_19, (), rfl, ⟨r_v_19.to (by decide), (fun h0 => trivial), (fun h0 => trivial)⟩, by rw [ht]; exact hw.2.1, va_K.moved hW.alike hK, hw.2.2.1⟩, hw.2.2.2.1.F ht⟩) hw.2.2.2.1.2.2 dX10_holds_181
        · by_cases k_34_70 : v_13 = 70
          · refine lv_lookup (tgt := 182) (off := 148) hx hb dX10_holds_34 (by decide) (by rw [k_34_70]; decide) (by decide) ?_
            have r_v_13 : RI v_13 70 70 := by rw [k_34_70]; exact rl_70
            refine lv_aload_n hx hb dX10_holds_182 rfl (lv_at hl 3 rfl) ?_
            refine lv_iload_n hx hb dX10_holds_183 rfl (lv_at hl 5 rfl) ?_
            refine tk_ir (va_runV (As := [.int p2]) (rest := []) ⟨hx, hb, hml, hown, hts⟩ (c_X10_whatIs l D cy z s.heap.size Ps w0 hw.1 p0 p2 h_p0 r_p2) (cwV 1 hts (gV tw_1449 tw_1451 ts_69 tw_15 tw_1452) rfl rfl rfl (by decide +kernel) ⟨Nat.le_of_ble_eq_true rfl, Nat.le_of_ble_eq_true rfl⟩) (tg_preV hw hK hSD hA (ci := 10) (q := (RX10, TX10, 49)) rfl h_p0 rfl) rfl rfl hl.1 rfl (lv_room (Nat.le_of_ble_eq_true rfl)) dX10_holds_184 ⟨Nat.le_of_ble_eq_true rfl, Nat.le_of_ble_eq_true rfl⟩) hw hA (fun v_20  H locs hp_v_20 hw => ?_)
            have r_v_20 : RI v_20 (-1) 5 := hp_v_20.1
            by_cases c9_v_20 : v_20.toInt < 0
            · have r_v_20 : RI v_20 (-1) (-1) := by unfold RI at r_v_20 ⊢; omega
              have x_NB_p0_p2 := (hp_v_20.2.2.2.2.1 (by omega)).1
              refine lv_iconst (v := (-1)) hx hb dX10_holds_187 (by decide) ?_
              refine lv_icmp_ne (tgt := 195) hx hb dX10_holds_188 (by decide) (fun c_188 => ?_) (fun c_188 => ?_)
              · exact absurd (r_v_20.eq.trans rl_m1.eq.symm) ((ti_ne c_188))
              · refine lv_iconst (v := 1) hx hb dX10_holds_191 (by decide) ?_
                refine lv_goto (tgt := 196) hx hb dX10_holds_192 (by decide) ?_
                subst hQ
                exact W.zret (v := 1) hx hb hr (rfl) (fun t ht hW => ⟨⟨1, (), rfl, ⟨rl_1.to (by decide), (fun _ => trivial), (fun h0 => trivial)⟩, by rw [ht]; exact hw.2.1, va_K.moved hW.alike hK, hw.2.2.1⟩, hw.2.2.2.1.F ht⟩) hw.2.2.2.1.2.2 dX10_holds_196
            · have r_v_20 : RI v_20 0 5 := by unfold RI at r_v_20 ⊢; omega
              have x_WB_p0_p2_v_20 := (hp_v_20.2.2.2.2.2 (by omega)).1
              refine lv_iconst (v := (-1)) hx hb dX10_holds_187 (by decide) ?_
              refine lv_icmp_ne (tgt := 195) hx hb dX10_holds_188 (by decide) (fun c_188 => ?_) (fun c_188 => ?_)
              · refine lv_iconst (v := 0) hx hb dX10_holds_195 (by decide) ?_
                subst hQ
                exact W.zret (v := 0) hx hb hr (rfl) (fun t ht hW => ⟨⟨0, (), rfl, ⟨rl_0.to (by decide), (fun h0 => trivial), (fun _ => trivial)⟩, by rw [ht]; exact hw.2.1, va_K.moved hW.alike hK, hw.2.2.1⟩, hw.2.2.2.1.F ht⟩) hw.2.2.2.1.2.2 dX10_holds_196
              · have r_v_20 : RI v_20 0 (-1) := rc_eq1 r_v_20 rl_m1 (ti_eq c_188) (by decide)
                exact (r_v_20.no (by decide)).elim
          · by_cases k_34_71 : v_13 = 71
            · refine lv_lookup (tgt := 197) (off := 163) hx hb dX10_holds_34 (by decide) (by rw [k_34_71]; decide) (by decide) ?_
              have r_v_13 : RI v_13 71 71 := by rw [k_34_71]; exact rl_71
              refine lv_aload_n hx hb dX10_holds_197 rfl (lv_at hl 3 rfl) ?_
              refine lv_iload_n hx hb dX10_holds_198 rfl (lv_at hl 5 rfl) ?_
              refine tk_ir (va_runV (As := [.int p2]) (rest := []) ⟨hx, hb, hml, hown, hts⟩ (c_X10_sittersOf l D cy z s.heap.size Ps w0 hw.1 p0 p2 h_p0 (r_p2.to (by decide))) (cwV 1 hts (gV tw_1461 tw_1463 ts_72 tw_15 tw_1464) rfl rfl rfl (by decide +kernel) ⟨Nat.le_of_ble_eq_true rfl, Nat.le_of_ble_eq_true rfl⟩) (tg_preV hw hK hSD hA (ci := 10) (q := (RX10, TX10, 49)) rfl h_p0 rfl) rfl rfl hl.1 rfl (lv_room (Nat.le_of_ble_eq_true rfl)) dX10_holds_199 ⟨Nat.le_of_ble_eq_true rfl, Nat.le_of_ble_eq_true rfl⟩) hw hA (fun v_21  H locs hp_v_21 hw => ?_)
              have r_v_21 : RI v_21 (-2147483648) 2147483647 := hp_v_21.1
              refine lv_if_eq (tgt := 209) hx hb dX10_holds_202 (by decide) (fun c_202 => ?_) (fun c_202 => ?_)
              · have r_v_21 : RI v_21 0 0 := rc_eq1 r_v_21 rl_0 (ti_eq c_202) (by decide)
                refine lv_iconst (v := 0) hx hb dX10_holds_209 (by decide) ?_
                subst hQ
                exact W.zret (v := 0) hx hb hr (rfl) (fun t ht hW => ⟨⟨0, (), rfl, ⟨rl_0.to (by decide), (fun h0 => trivial), (fun _ => trivial)⟩, by rw [ht]; exact hw.2.1, va_K.moved hW.alike hK, hw.2.2.1⟩, hw.2.2.2.1.F ht⟩) hw.2.2.2.1.2.2 dX10_holds_210
              · refine lv_iconst (v := 1) hx hb dX10_holds_205 (by decide) ?_
                refine lv_goto (tgt := 210) hx hb dX10_holds_206 (by decide) ?_
                subst hQ
                exact W.zret (v := 1) hx hb hr (rfl) (fun t ht hW => ⟨⟨1, (), rfl, ⟨rl_1.to (by decide), (fun _ => trivial), (fun h0 => trivial)⟩, by rw [ht]; exact hw.2.1, va_K.moved hW.alike hK, hw.2.2.1⟩, hw.2.2.2.1.F ht⟩) hw.2.2.2.1.2.2 dX10_holds_210
            · by_cases k_34_72 : v_13 = 72
              · refine lv_lookup (tgt := 211) (off := 177) hx hb dX10_holds_34 (by decide) (by rw [k_34_72]; decide) (by decide) ?_
                have r_v_13 : RI v_13 72 72 := by rw [k_34_72]; exact rl_72
                refine lv_aload_n hx hb dX10_holds_211 rfl (lv_at hl 3 rfl) ?_
                refine lv_iload_n hx hb dX10_holds_212 rfl (lv_at hl 5 rfl) ?_
                refine tk_ir (va_runV (As := [.int p2]) (rest := []) ⟨hx, hb, hml, hown, hts⟩ (c_X10_whatIs l D cy z s.heap.size Ps w0 hw.1 p0 p2 h_p0 r_p2) (cwV 1 hts (gV tw_1449 tw_1451 ts_69 tw_15 tw_1452) rfl rfl rfl (by decide +kernel) ⟨Nat.le_of_ble_eq_true rfl, Nat.le_of_ble_eq_true rfl⟩) (tg_preV hw hK hSD hA (ci := 10) (q := (RX10, TX10, 49)) rfl h_p0 rfl) rfl rfl hl.1 rfl (lv_room (Nat.le_of_ble_eq_true rfl)) dX10_holds_213 ⟨Nat.le_of_ble_eq_true rfl, Nat.le_of_ble_eq_true rfl⟩) hw hA (fun v_22  H locs hp_v_22 hw => ?_)
                have r_v_22 : RI v_22 (-1) 5 := hp_v_22.1
                by_cases c9_v_22 : v_22.toInt < 0
                · have r_v_22 : RI v_22 (-1) (-1) := by unfold RI at r_v_22 ⊢; omega
                  have x_NB_p0_p2 := (hp_v_22.2.2.2.2.1 (by omega)).1
                  refine lv_iload hx hb dX10_holds_216 (lv_at hl 1 rfl) ?_
                  refine lv_icmp_ne (tgt := 225) hx hb dX10_holds_218 (by decide) (fun c_218 => ?_) (fun c_218 => ?_)
                  · refine lv_iconst (v := 0) hx hb dX10_holds_225 (by decide) ?_
                    subst hQ
                    exact W.zret (v := 0) hx hb hr (rfl) (fun t ht hW => ⟨⟨0, (), rfl, ⟨rl_0.to (by decide), (fun h0 => trivial), (fun _ => trivial)⟩, by rw [ht]; exact hw.2.1, va_K.moved hW.alike hK, hw.2.2.1⟩, hw.2.2.2.1.F ht⟩) hw.2.2.2.1.2.2 dX10_holds_226
                  · have r_v_10 : RI v_10 (-1) (-1) := rc_eq2 r_v_22 r_v_10 (ti_eq c_218) (by decide)
                    refine lv_iconst (v := 1) hx hb dX10_holds_221 (by decide) ?_
                    refine lv_goto (tgt := 226) hx hb dX10_holds_222 (by decide) ?_
                    subst hQ
                    exact W.zret (v := 1) hx hb hr (rfl) (fun t ht hW => ⟨⟨1, (), rfl, ⟨rl_1.to (by decide), (fun _ => trivial), (fun h0 => trivial)⟩, by rw [ht]; exact hw.2.1, va_K.moved hW.alike hK, hw.2.2.1⟩, hw.2.2.2.1.F ht⟩) hw.2.2.2.1.2.2 dX10_holds_226
                · have r_v_22 : RI v_22 0 5 := by unfold RI at r_v_22 ⊢; omega
                  have x_WB_p0_p2_v_22 := (hp_v_22.2.2.2.2.2 (by omega)).1
                  refine lv_iload hx hb dX10_holds_216 (lv_at hl 1 rfl) ?_
                  refine lv_icmp_ne (tgt := 225) hx hb dX10_holds_218 (by decide) (fun c_218 => ?_) (fun c_218 => ?_)
                  · refine lv_iconst (v := 0) hx hb dX10_holds_225 (by decide) ?_
                    subst hQ
                    exact W.zret (v := 0) hx hb hr (rfl) (fun t ht hW => ⟨⟨0, (), rfl, ⟨rl_0.to (by decide), (fun h0 => trivial), (fun _ => trivial)⟩, by rw [ht]; exact hw.2.1, va_K.moved hW.alike hK, hw.2.2.1⟩, hw.2.2.2.1.F ht⟩) hw.2.2.2.1.2.2 dX10_holds_226
                  · have r_v_10 : RI v_10 0 5 := rc_eq2 r_v_22 r_v_10 (ti_eq c_218) (by decide)
                    refine lv_iconst (v := 1) hx hb dX10_holds_221 (by decide) ?_
                    refine lv_goto (tgt := 226) hx hb dX10_holds_222 (by decide) ?_
                    subst hQ
                    exact W.zret (v := 1) hx hb hr (rfl) (fun t ht hW => ⟨⟨1, (), rfl, ⟨rl_1.to (by decide), (fun _ => trivial), (fun h0 => trivial)⟩, by rw [ht]; exact hw.2.1, va_K.moved hW.alike hK, hw.2.2.1⟩, hw.2.2.2.1.F ht⟩) hw.2.2.2.1.2.2 dX10_holds_226
              · by_cases k_34_73 : v_13 = 73
                · refine lv_lookup (tgt := 227) (off := 193) hx hb dX10_holds_34 (by decide) (by rw [k_34_73]; decide) (by decide) ?_
                  have r_v_13 : RI v_13 73 73 := by rw [k_34_73]; exact rl_73
                  refine lv_aload_n hx hb dX10_holds_227 rfl (lv_at hl 3 rfl) ?_
                  refine tg_mem (ci := 10) (C := RX10) (T := TX10) (N := 49) hx hb hts inX10 hown hK hw 14 m_u_8 rfl (by decide) (hts _ tw_1151) (fun _ h9 => h9) dX10_holds_228 ?_
                  refine lv_bipush (v := 86) hx hb dX10_holds_231 (by decide) ?_
                  refine lv_iload_n hx hb dX10_holds_233 rfl (lv_at hl 5 rfl) ?_
                  refine lv_iadd hx hb dX10_holds_234 (lv_topi (fun v_23 e_v_23 => ?_))
                  obtain ⟨t_v_23, r_v_23⟩ := tq_add (lo := 86) (hi := 91) rl_86 r_p2 (by decide +kernel) e_v_23
                  have t_v_23 : v_23.toInt = 86 + p2.toInt := t_v_23
                  refine tg_iald (lo := (-2147483648)) (hi := 2147483647) hx hb hK hw h_vu_8 rfl 86 91 r_v_23 (by decide) (by decide +kernel) dX10_holds_235 (fun v_24 r_v_24 m_v_24 o_v_24 => ?_)
                  refine lv_iload hx hb dX10_holds_236 (lv_at hl 1 rfl) ?_
                  refine lv_icmp_ne (tgt := 245) hx hb dX10_holds_238 (by decide) (fun c_238 => ?_) (fun c_238 => ?_)
                  · refine lv_iconst (v := 0) hx hb dX10_holds_245 (by decide) ?_
                    subst hQ
                    exact W.zret (v := 0) hx hb hr (rfl) (fun t ht hW => ⟨⟨0, (), rfl, ⟨rl_0.to (by decide), (fun h0 => trivial), (fun _ => trivial)⟩, by rw [ht]; exact hw.2.1, va_K.moved hW.alike hK, hw.2.2.1⟩, hw.2.2.2.1.F ht⟩) hw.2.2.2.1.2.2 dX10_holds_246
                  · refine lv_iconst (v := 1) hx hb dX10_holds_241 (by decide) ?_
                    refine lv_goto (tgt := 246) hx hb dX10_holds_242 (by decide) ?_
                    subst hQ
                    exact W.zret (v := 1) hx hb hr (rfl) (fun t ht hW => ⟨⟨1, (), rfl, ⟨rl_1.to (by decide), (fun _ => trivial), (fun h0 => trivial)⟩, by rw [ht]; exact hw.2.1, va_K.moved hW.alike hK, hw.2.2.1⟩, hw.2.2.2.1.F ht⟩) hw.2.2.2.1.2.2 dX10_holds_246
                · refine lv_lookup (tgt := 247) (off := 213) hx hb dX10_holds_34 (by decide) ((lv_osw k_34_1 (by decide)).trans ((lv_osw k_34_2 (by decide)).trans ((lv_osw k_34_3 (by decide)).trans ((lv_osw k_34_69 (by decide)).trans ((lv_osw k_34_70 (by decide)).trans ((lv_osw k_34_71 (by decide)).trans ((lv_osw k_34_72 (by decide)).trans ((lv_osw k_34_73 (by decide)).trans (rfl))))))))) (by decide) ?_
                  refine lv_aload_n hx hb dX10_holds_247 rfl (lv_at hl 3 rfl) ?_
                  refine tg_mem (ci := 10) (C := RX10) (T := TX10) (N := 49) hx hb hts inX10 hown hK hw 14 m_u_8 rfl (by decide) (hts _ tw_1151) (fun _ h9 => h9) dX10_holds_248 ?_
                  refine lv_iload_n hx hb dX10_holds_251 rfl (lv_at hl 2 rfl) ?_
                  refine tg_imem hx hb hK hw h_vu_8 rfl r_v_7 (by decide) m_v_13 dX10_holds_252 ?_
                  refine lv_bipush (v := 50) hx hb dX10_holds_253 (by decide) ?_
                  refine lv_isub hx hb dX10_holds_255 (lv_topi (fun v_26 e_v_26 => ?_))
                  have r_v_26 := ri_any v_26
                  refine lv_istore (lv' := [(6, .int v_26), (5, .int v_12), (4, .int v_10), (3, .int v_7), (0, .ref p0), (1, .int p1), (2, .int p2)]) hx hb dX10_holds_256 hl (by decide) rfl (fun ls hl => ?_)
                  refine lv_iload hx hb dX10_holds_258 (lv_at hl 0 rfl) ?_
                  refine lv_bipush (v := 24) hx hb dX10_holds_260 (by decide) ?_
                  refine lv_icmp_ne (tgt := 273) hx hb dX10_holds_262 (by decide) (fun c_262 => ?_) (fun c_262 => ?_)
                  · refine lv_iload hx hb dX10_holds_273 (lv_at hl 0 rfl) ?_
                    refine lv_bipush (v := 25) hx hb dX10_holds_275 (by decide) ?_
                    refine lv_icmp_ne (tgt := 292) hx hb dX10_holds_277 (by decide) (fun c_277 => ?_) (fun c_277 => ?_)
                    · refine lv_iload hx hb dX10_holds_292 (lv_at hl 0 rfl) ?_
                      refine lv_bipush (v := 26) hx hb dX10_holds_294 (by decide) ?_
                      refine lv_icmp_ne (tgt := 311) hx hb dX10_holds_296 (by decide) (fun c_296 => ?_) (fun c_296 => ?_)
                      · refine lv_iload_n hx hb dX10_holds_311 rfl (lv_at hl 6 rfl) ?_
                        exact B312 v_7 v_10 v_12 v_26 p2 _ _ ls r_p1 r_p2 r_v_7 r_v_10 r_v_12 r_v_26 (r_p2.to (by decide)) hw (lv_sub hl [4, 5, 6, 3, 2, 1, 0] rfl)
                      · have r_v_26 : RI v_26 26 26 := rc_eq1 r_v_26 rl_26 (ti_eq c_296) (by decide)
                        refine lv_aload_n hx hb dX10_holds_299 rfl (lv_at hl 4 rfl) ?_
                        refine tg_mem (ci := 10) (C := RX10) (T := TX10) (N := 49) hx hb hts inX10 hown hK hw 14 m_u_8 rfl (by decide) (hts _ tw_1151) (fun _ h9 => h9) dX10_holds_300 ?_
                        refine lv_bipush (v := 98) hx hb dX10_holds_303 (by decide) ?_
                        refine lv_iload_n hx hb dX10_holds_305 rfl (lv_at hl 6 rfl) ?_
                        refine lv_iadd hx hb dX10_holds_306 (lv_topi (fun v_27 e_v_27 => ?_))
                        obtain ⟨t_v_27, r_v_27⟩ := tq_add (lo := 98) (hi := 103) rl_98 r_p2 (by decide +kernel) e_v_27
                        have t_v_27 : v_27.toInt = 98 + p2.toInt := t_v_27
                        refine tg_iald (lo := (-2147483648)) (hi := 2147483647) hx hb hK hw h_vu_8 rfl 98 103 r_v_27 (by decide) (by decide +kernel) dX10_holds_307 (fun v_28 r_v_28 m_v_28 o_v_28 => ?_)
                        refine lv_goto (tgt := 312) hx hb dX10_holds_308 (by decide) ?_
                        exact B312 v_7 v_10 v_12 v_26 v_28 _ _ ls r_p1 r_p2 r_v_7 r_v_10 r_v_12 (r_v_26.to (by decide)) r_v_28 hw (lv_sub hl [4, 5, 6, 3, 2, 1, 0] rfl)
                    · have r_v_26 : RI v_26 25 25 := rc_eq1 r_v_26 rl_25 (ti_eq c_277) (by decide)
                      refine lv_aload_n hx hb dX10_holds_280 rfl (lv_at hl 4 rfl) ?_
                      refine tg_mem (ci := 10) (C := RX10) (T := TX10) (N := 49) hx hb hts inX10 hown hK hw 14 m_u_8 rfl (by decide) (hts _ tw_1151) (fun _ h9 => h9) dX10_holds_281 ?_
                      refine lv_bipush (v := 92) hx hb dX10_holds_284 (by decide) ?_
                      refine lv_iload_n hx hb dX10_holds_286 rfl (lv_at hl 6 rfl) ?_
                      refine lv_iadd hx hb dX10_holds_287 (lv_topi (fun v_29 e_v_29 => ?_))
                      obtain ⟨t_v_29, r_v_29⟩ := tq_add (lo := 92) (hi := 97) rl_92 r_p2 (by decide +kernel) e_v_29
                      have t_v_29 : v_29.toInt = 92 + p2.toInt := t_v_29
                      refine tg_iald (lo := (-2147483648)) (hi := 2147483647) hx hb hK hw h_vu_8 rfl 92 97 r_v_29 (by decide) (by decide +kernel) dX10_holds_288 (fun v_30 r_v_30 m_v_30 o_v_30 => ?_)
                      refine lv_goto (tgt := 312) hx hb dX10_holds_289 (by decide) ?_
                      exact B312 v_7 v_10 v_12 v_26 v_30 _ _ ls r_p1 r_p2 r_v_7 r_v_10 r_v_12 (r_v_26.to (by decide)) r_v_30 hw (lv_sub hl [4, 5, 6, 3, 2, 1, 0] rfl)
                  · have r_v_26 : RI v_26 24 24 := rc_eq1 r_v_26 rl_24 (ti_eq c_262) (by decide)
                    refine lv_aload_n hx hb dX10_holds_265 rfl (lv_at hl 4 rfl) ?_
                    refine lv_iload_n hx hb dX10_holds_266 rfl (lv_at hl 6 rfl) ?_
                    refine tk_ir (va_runV (As := [.int p2]) (rest := []) ⟨hx, hb, hml, hown, hts⟩ (c_X10_sizeOf l D cy z s.heap.size Ps w0 hw.1 p0 p2 h_p0 r_p2) (cwV 1 hts (gV tw_1453 tw_1455 ts_70 tw_15 tw_1456) rfl rfl rfl (by decide +kernel) ⟨Nat.le_of_ble_eq_true rfl, Nat.le_of_ble_eq_true rfl⟩) (tg_preV hw hK hSD hA (ci := 10) (q := (RX10, TX10, 49)) rfl h_p0 rfl) rfl rfl hl.1 rfl (lv_room (Nat.le_of_ble_eq_true rfl)) dX10_holds_267 ⟨Nat.le_of_ble_eq_true rfl, Nat.le_of_ble_eq_true rfl⟩) hw hA (fun v_31  H locs hp_v_31 hw => ?_)
                    have r_v_31 : RI v_31 (-2147483648) 2147483647 := hp_v_31.1
                    refine lv_goto (tgt := 312) hx hb dX10_holds_270 (by decide) ?_
                    exact B312 v_7 v_10 v_12 v_26 v_31 _ _ ls r_p1 r_p2 r_v_7 r_v_10 r_v_12 (r_v_26.to (by decide)) r_v_31 hw (lv_sub hl [4, 5, 6, 3, 2, 1, 0] rfl)
abbrev wr_X10_holds__2 : List (Nat × Nat) := []
abbrev wa_X10_holds__2 : List Nat := []
set_option maxHeartbeats 4000000 in
set_option maxRecDepth 100000 in
theorem c_X10_holds__2 (l : Launch) (D : va_G) (cy : Nat → ClassId) (z : Nat → Nat) (sz : Nat) (Ps : PSI) (w0 : va_W) (hT : HT cy GG Ps w0) (p0 : Nat) (p1 : Int32) (p2 : Int32) (h_p0 : (p0, 55) ∈ Ps) (r_p1 : RI p1 0 57) (r_p2 : RI p2 0 5) : Met l yX10_holds (Cond.code yX10_holds cX10_holds 8 (some .boolean) :: gT) ({ frames := 60, cells := 0, slots := 0, locals := 12000 } : Room) (va_Pc [.ref p0, .int p1, .int p2] (PRE D cy z w0 sz)) (va_Qi (fun (r : Int32) (u : Unit) => RI r 0 1 ∧ (r = 0 → True) ∧ (¬ r = 0 → True)) (BB D cy (va_A w0 sz) (fun (u : Unit) => w0)) (va_A w0 sz)) 0 0 (va_A w0 sz) := by
  refine Met.ofW (cc := cX10_holds) (maxL := 8) (ret := (some .boolean)) (by decide) rfl ?_
  intro p e s m args below meth c s₁ B hml hv
  obtain ⟨rfl, hsz, hP, hK, hD0, hSD⟩ := hv
  have hx := B.exec
  have hb := B.bytes
  have hr := B.returns
  have hlocks := B.notSynchronized
  have hts : ∀ w ∈ gT, w.before _ s = true := fun w h => atoms_spec (ws := Cond.code yX10_holds cX10_holds 8 (some .boolean) :: gT) B.pre w (List.mem_cons_of_mem _ h)
  have hown : s.vm.findClass RX10 = some m.cls := findClass_of_methodNamed B.named
  subst hsz
  have hD := hD0.self (sz := s.heap.size)
  generalize hAe : va_A w0 s.heap.size = A at hD hSD ⊢
  have hA : ∀ q : Nat, s.heap.size ≤ q → A q := fun q h => by rw [← hAe]; exact Or.inr h
  have hl := lv_entry ([.ref p0, .int p1, .int p2]) (n := 8) (Nat.le_of_ble_eq_true rfl)
  rw [lg_entry_eq]
  generalize (lg_sl ([.ref p0, .int p1, .int p2]) ++ List.replicate (8 - (lg_sl ([.ref p0, .int p1, .int p2])).length) Slot.unset).toArray = ls at hl ⊢
  have hl : lv_has ls 8 [(0, .ref p0), (1, .int p1), (2, .int p2)] := hl
  refine nameQ (fun Q hQ => ?_)
  have hw : WD D cy GG A s wr_X10_holds__2 wa_X10_holds__2 Ps w0 Ps w0 s.heap [] := ⟨hT, hP, hD, va_S.rf, FR.rf, hT.1, [], (List.append_nil _).symm⟩
  have B312 : ∀ (x3 : Int32) (x4 : Int32) (x5 : Int32) (x6 : Int32) (y0 : Int32) (H : Heap) (locs : List Loc) (ls : Array Slot), RI p1 0 57 → RI p2 0 5 → RI x3 174 402 → RI x4 (-2147483648) 2147483647 → RI x5 (-2147483648) 2147483647 → RI x6 (-2147483648) 2147483647 → RI y0 (-2147483648) 2147483647 → WD D cy GG A s wr_X10_holds__2 wa_X10_holds__2 Ps w0 Ps w0 H locs → lv_has ls 8 [(0, .ref p0), (1, .int p1), (2, .int p2), (3, .int x3), (4, .int x4), (5, .int x5), (6, .int x6)] → W p l e (headSpec (Cond.code yX10_holds cX10_holds 8 (some .boolean) :: gT) ({ frames := 60, cells := 0, slots := 0, locals := 12000 } : Room)).room s m ([.ref p0, .int p1, .int p2] : List Value).toArray below meth c H locs 0 0 Q (F0 m 312 ls [.int y0]) := by
    intro x3 x4 x5 x6 y0 H locs ls r_p1 r_p2 r_x3 r_x4 r_x5 r_x6 r_y0 hw hl
    refine lv_istore (lv' := [(7, .int y0), (0, .ref p0), (1, .int p1), (2, .int p2), (3, .int x3), (4, .int x4), (5, .int x5), (6, .int x6)]) hx hb dX10_holds_312 hl (by decide) rfl (fun ls hl => ?_)
    refine lv_aload_n hx hb dX10_holds_314 rfl (lv_at hl 1 rfl) ?_
    refine tg_get (ci := 10) (ts := ty_MODEL) (C := RX10) (T := TX10) (N := 49) hx hb hts inX10 hown hK hw h_p0 rfl rfl 14 (by decide) (hts _ tw_1151) (fun _ h9 => h9) (ft := vR 34) rfl dX10_holds_315 (fun u_1 hv_u_1 m_u_1 => ?_)
    obtain ⟨vu_1, rfl, h_vu_1⟩ := hv_u_1
    refine lv_iload_n hx hb dX10_holds_318 rfl (lv_at hl 4 rfl) ?_
    refine lv_iconst (v := 3) hx hb dX10_holds_319 (by decide) ?_
    refine lv_iadd hx hb dX10_holds_320 (lv_topi (fun v_2 e_v_2 => ?_))
    obtain ⟨t_v_2, r_v_2⟩ := tq_add (lo := 177) (hi := 405) r_x3 rl_3 (by decide +kernel) e_v_2
    have t_v_2 : v_2.toInt = x3.toInt + 3 := t_v_2
    refine tg_iald (lo := (-2147483648)) (hi := 2147483647) hx hb hK hw h_vu_1 rfl 177 405 r_v_2 (by decide) (by decide +kernel) dX10_holds_321 (fun v_3 r_v_3 m_v_3 o_v_3 => ?_)
    refine lv_bipush (v := 60) hx hb dX10_holds_322 (by decide) ?_
    refine lv_icmp_ne (tgt := 342) hx hb dX10_holds_324 (by decide) (fun c_324 => ?_) (fun c_324 => ?_)
    · refine lv_aload_n hx hb dX10_holds_342 rfl (lv_at hl 1 rfl) ?_
      refine tg_mem (ci := 10) (C := RX10) (T := TX10) (N := 49) hx hb hts inX10 hown hK hw 14 m_u_1 rfl (by decide) (hts _ tw_1151) (fun _ h9 => h9) dX10_holds_343 ?_
      refine lv_iload_n hx hb dX10_holds_346 rfl (lv_at hl 4 rfl) ?_
      refine lv_iconst (v := 3) hx hb dX10_holds_347 (by decide) ?_
      refine lv_iadd hx hb dX10_holds_348 (lv_topi (fun v_4 e_v_4 => ?_))
      obtain ⟨t_v_4, r_v_4⟩ := tq_add (lo := 177) (hi := 405) r_x3 rl_3 (by decide +kernel) e_v_4
      have t_v_4 : v_4.toInt = x3.toInt + 3 := t_v_4
      refine tg_iald (lo := (-2147483648)) (hi := 2147483647) hx hb hK hw h_vu_1 rfl 177 405 r_v_4 (by decide) (by decide +kernel) dX10_holds_349 (fun v_5 r_v_5 m_v_5 o_v_5 => ?_)
      refine lv_bipush (v := 61) hx hb dX10_holds_350 (by decide) ?_
      refine lv_icmp_ne (tgt := 370) hx hb dX10_holds_352 (by decide) (fun c_352 => ?_) (fun c_352 => ?_)
      · refine lv_iload hx hb dX10_holds_370 (lv_at hl 0 rfl) ?_
        refine lv_iload hx hb dX10_holds_372 (lv_at hl 6 rfl) ?_
        refine lv_icmp_le (tgt := 381) hx hb dX10_holds_374 (by decide) (fun c_374 => ?_) (fun c_374 => ?_)
        · refine lv_iconst (v := 0) hx hb dX10_holds_381 (by decide) ?_
          subst hQ
          exact W.zret (v := 0) hx hb hr (rfl) (fun t ht hW => ⟨⟨0, (), rfl, ⟨rl_0.to (by decide), (fun h0 => trivial), (fun _ => trivial)⟩, by rw [ht]; exact hw.2.1, va_K.moved hW.alike hK, hw.2.2.1⟩, hw.2.2.2.1.F ht⟩) hw.2.2.2.1.2.2 dX10_holds_382
        · have r_x5 : RI x5 (-2147483648) 2147483646 := rc_lt1 r_x5 r_y0 (ti_nle c_374) (by decide)
          have r_y0 : RI y0 (-2147483647) 2147483647 := rc_lt2 r_x5 r_y0 (ti_nle c_374) (by decide)
          refine lv_iconst (v := 1) hx hb dX10_holds_377 (by decide) ?_
          refine lv_goto (tgt := 382) hx hb dX10_holds_378 (by decide) ?_
          subst hQ
          exact W.zret (v := 1) hx hb hr (rfl) (fun t ht hW => ⟨⟨1, (), rfl, ⟨rl_1.to (by decide), (fun _ => trivial), (fun h0 => trivial)⟩, by rw [ht]; exact hw.2.1, va_K.moved hW.alike hK, hw.2.2.1⟩, hw.2.2.2.1.F ht⟩) hw.2.2.2.1.2.2 dX10_holds_382
      · have r_v_5 : RI v_5 61 61 := rc_eq1 r_v_5 rl_61 (ti_eq c_352) (by decide)
        refine lv_iload hx hb dX10_holds_355 (lv_at hl 0 rfl) ?_
        refine lv_iload hx hb dX10_holds_357 (lv_at hl 6 rfl) ?_
        refine lv_icmp_ne (tgt := 366) hx hb dX10_holds_359 (by decide) (fun c_359 => ?_) (fun c_359 => ?_)
        · refine lv_iconst (v := 0) hx hb dX10_holds_366 (by decide) ?_
          refine lv_goto (tgt := 382) hx hb dX10_holds_367 (by decide) ?_
          subst hQ
          exact W.zret (v := 0) hx hb hr (rfl) (fun t ht hW => ⟨⟨0, (), rfl, ⟨rl_0.to (by decide), (fun h0 => trivial), (fun _ => trivial)⟩, by rw [ht]; exact hw.2.1, va_K.moved hW.alike hK, hw.2.2.1⟩, hw.2.2.2.1.F ht⟩) hw.2.2.2.1.2.2 dX10_holds_382
        · refine lv_iconst (v := 1) hx hb dX10_holds_362 (by decide) ?_
          refine lv_goto (tgt := 382) hx hb dX10_holds_363 (by decide) ?_
          subst hQ
          exact W.zret (v := 1) hx hb hr (rfl) (fun t ht hW => ⟨⟨1, (), rfl, ⟨rl_1.to (by decide), (fun _ => trivial), (fun h0 => trivial)⟩, by rw [ht]; exact hw.2.1, va_K.moved hW.alike hK, hw.2.2.1⟩, hw.2.2.2.1.F ht⟩) hw.2.2.2.1.2.2 dX10_holds_382
    · have r_v_3 : RI v_3 60 60 := rc_eq1 r_v_3 rl_60 (ti_eq c_324) (by decide)
      refine lv_iload hx hb dX10_holds_327 (lv_at hl 0 rfl) ?_
      refine lv_iload hx hb dX10_holds_329 (lv_at hl 6 rfl) ?_
      refine lv_icmp_ge (tgt := 338) hx hb dX10_holds_331 (by decide) (fun c_331 => ?_) (fun c_331 => ?_)
      · refine lv_iconst (v := 0) hx hb dX10_holds_338 (by decide) ?_
        refine lv_goto (tgt := 382) hx hb dX10_holds_339 (by decide) ?_
        subst hQ
        exact W.zret (v := 0) hx hb hr (rfl) (fun t ht hW => ⟨⟨0, (), rfl, ⟨rl_0.to (by decide), (fun h0 => trivial), (fun _ => trivial)⟩, by rw [ht]; exact hw.2.1, va_K.moved hW.alike hK, hw.2.2.1⟩, hw.2.2.2.1.F ht⟩) hw.2.2.2.1.2.2 dX10_holds_382
      · have r_y0 : RI y0 (-2147483648) 2147483646 := rc_lt1 r_y0 r_x5 (ti_nle c_331) (by decide)
        have r_x5 : RI x5 (-2147483647) 2147483647 := rc_lt2 r_y0 r_x5 (ti_nle c_331) (by decide)
        refine lv_iconst (v := 1) hx hb dX10_holds_334 (by decide) ?_
        refine lv_goto (tgt := 382) hx hb dX10_holds_335 (by decide) ?_
        subst hQ
        exact W.zret (v := 1) hx hb hr (rfl) (fun t ht hW => ⟨⟨1, (), rfl, ⟨rl_1.to (by decide), (fun _ => trivial), (fun h0 => trivial)⟩, by rw [ht]; exact hw.2.1, va_K.moved hW.alike hK, hw.2.2.1⟩, hw.2.2.2.1.F ht⟩) hw.2.2.2.1.2.2 dX10_holds_382
  refine lv_sipush (v := 174) hx hb dX10_holds_0 (by decide) ?_
  refine lv_iconst (v := 4) hx hb dX10_holds_3 (by decide) ?_
  refine lv_iload_n hx hb dX10_holds_4 rfl (lv_at hl 1 rfl) ?_
  refine lv_imul hx hb dX10_holds_5 (lv_topi (fun v_6 e_v_6 => ?_))
  obtain ⟨t_v_6, r_v_6⟩ := tq_mul (lo := 0) (hi := 228) rl_4 r_p1 (by decide +kernel) e_v_6
  have t_v_6 : v_6.toInt = 4 * p1.toInt := t_v_6
  refine lv_iadd hx hb dX10_holds_6 (lv_topi (fun v_7 e_v_7 => ?_))
  obtain ⟨t_v_7, r_v_7⟩ := tq_add (lo := 174) (hi := 402) rl_174 r_v_6 (by decide +kernel) e_v_7
  have t_v_7 : v_7.toInt = 174 + v_6.toInt := t_v_7
  refine lv_istore_n (lv' := [(3, .int v_7), (0, .ref p0), (1, .int p1), (2, .int p2)]) hx hb dX10_holds_7 rfl hl (by decide) rfl (fun ls hl => ?_)
  refine lv_aload_n hx hb dX10_holds_8 rfl (lv_at hl 1 rfl) ?_
  refine tg_get (ci := 10) (ts := ty_MODEL) (C := RX10) (T := TX10) (N := 49) hx hb hts inX10 hown hK hw h_p0 rfl rfl 14 (by decide) (hts _ tw_1151) (fun _ h9 => h9) (ft := vR 34) rfl dX10_holds_9 (fun u_8 hv_u_8 m_u_8 => ?_)
  obtain ⟨vu_8, rfl, h_vu_8⟩ := hv_u_8
  refine lv_iload_n hx hb dX10_holds_12 rfl (lv_at hl 0 rfl) ?_
  refine lv_iconst (v := 1) hx hb dX10_holds_13 (by decide) ?_
  refine lv_iadd hx hb dX10_holds_14 (lv_topi (fun v_9 e_v_9 => ?_))
  obtain ⟨t_v_9, r_v_9⟩ := tq_add (lo := 175) (hi := 403) r_v_7 rl_1 (by decide +kernel) e_v_9
  have t_v_9 : v_9.toInt = v_7.toInt + 1 := t_v_9
  refine tg_iald (lo := (-2147483648)) (hi := 2147483647) hx hb hK hw h_vu_8 rfl 175 403 r_v_9 (by decide) (by decide +kernel) dX10_holds_15 (fun v_10 r_v_10 m_v_10 o_v_10 => ?_)
  refine lv_istore (lv' := [(4, .int v_10), (3, .int v_7), (0, .ref p0), (1, .int p1), (2, .int p2)]) hx hb dX10_holds_16 hl (by decide) rfl (fun ls hl => ?_)
  refine lv_aload_n hx hb dX10_holds_18 rfl (lv_at hl 2 rfl) ?_
  refine tg_mem (ci := 10) (C := RX10) (T := TX10) (N := 49) hx hb hts inX10 hown hK hw 14 m_u_8 rfl (by decide) (hts _ tw_1151) (fun _ h9 => h9) dX10_holds_19 ?_
  refine lv_iload_n hx hb dX10_holds_22 rfl (lv_at hl 1 rfl) ?_
  refine lv_iconst (v := 2) hx hb dX10_holds_23 (by decide) ?_
  refine lv_iadd hx hb dX10_holds_24 (lv_topi (fun v_11 e_v_11 => ?_))
  obtain ⟨t_v_11, r_v_11⟩ := tq_add (lo := 176) (hi := 404) r_v_7 rl_2 (by decide +kernel) e_v_11
  have t_v_11 : v_11.toInt = v_7.toInt + 2 := t_v_11
  refine tg_iald (lo := (-2147483648)) (hi := 2147483647) hx hb hK hw h_vu_8 rfl 176 404 r_v_11 (by decide) (by decide +kernel) dX10_holds_25 (fun v_12 r_v_12 m_v_12 o_v_12 => ?_)
  refine lv_istore (lv' := [(5, .int v_12), (4, .int v_10), (3, .int v_7), (0, .ref p0), (1, .int p1), (2, .int p2)]) hx hb dX10_holds_26 hl (by decide) rfl (fun ls hl => ?_)
  refine lv_aload_n hx hb dX10_holds_28 rfl (lv_at hl 3 rfl) ?_
  refine tg_mem (ci := 10) (C := RX10) (T := TX10) (N := 49) hx hb hts inX10 hown hK hw 14 m_u_8 rfl (by decide) (hts _ tw_1151) (fun _ h9 => h9) dX10_holds_29 ?_
  refine lv_iload_n hx hb dX10_holds_32 rfl (lv_at hl 2 rfl) ?_
  refine tg_iald (lo := (-2147483648)) (hi := 2147483647) hx hb hK hw h_vu_8 rfl 174 402 r_v_7 (by decide) (by decide +kernel) dX10_holds_33 (fun v_13 r_v_13 m_v_13 o_v_13 => ?_)
  by_cases k_34_1 : v_13 = 1
  · refine lv_lookup (tgt := 108) (off := 74) hx hb dX10_holds_34 (by decide) (by rw [k_34_1]; decide) (by decide) ?_
    have r_v_13 : RI v_13 1 1 := by rw [k_34_1]; exact rl_1
    have g_v_10 : 0 ≤ v_10.toInt ∧ v_10.toInt < p1.toInt := by obtain ⟨_, f9, e8, e7, q9, _⟩ := ax_of (k := 14) (t := 34) hw h_p0 rfl (fun _ => rfl); cases FLD.inj hw.2.2.1 e8 m_u_8; have t9 := ARR.ael hw.2.2.1 e7 m_v_13; have x9 := ARR.ael hw.2.2.1 e7 m_v_10; rw [show Int32.toNatClampNeg v_7 = 174 + 4 * Int32.toNatClampNeg p1 from (by have k1 := r_v_7.cl (by decide); have k2 := r_p1.cl (by decide); omega)] at t9; rw [show Int32.toNatClampNeg v_9 = 175 + 4 * Int32.toNatClampNeg p1 from (by have k1 := r_v_9.cl (by decide); have k2 := r_p1.cl (by decide); omega)] at x9; exact RN_child q9 (r_p1.to (by decide)) t9 x9 (r_v_13.to (by decide))
    have r_v_10 : RI v_10 0 56 := ⟨g_v_10.1, by have k1 := r_p1.2; omega⟩
    refine lv_aload_n hx hb dX10_holds_108 rfl (lv_at hl 3 rfl) ?_
    refine lv_iload hx hb dX10_holds_109 (lv_at hl 1 rfl) ?_
    refine lv_iload_n hx hb dX10_holds_111 rfl (lv_at hl 5 rfl) ?_
    refine tk_ir (va_runV (As := [.int v_10, .int p2]) (rest := []) ⟨hx, hb, hml, hown, hts⟩ (c_X10_holds__3 l D cy z s.heap.size Ps w0 hw.1 p0 v_10 p2 h_p0 r_v_10 r_p2) (cwV 2 hts (gV tw_1787 tw_1789 ts_119 tw_15 tw_1790) rfl rfl rfl (by decide +kernel) ⟨Nat.le_of_ble_eq_true rfl, Nat.le_of_ble_eq_true rfl⟩) (tg_preV hw hK hSD hA (ci := 10) (q := (RX10, TX10, 49)) rfl h_p0 rfl) rfl rfl hl.1 rfl (lv_room (Nat.le_of_ble_eq_true rfl)) dX10_holds_112 ⟨Nat.le_of_ble_eq_true rfl, Nat.le_of_ble_eq_true rfl⟩) hw hA (fun v_14  H locs hp_v_14 hw => ?_)
    have r_v_14 : RI v_14 0 1 := hp_v_14.1
    refine lv_if_ne (tgt := 122) hx hb dX10_holds_115 (by decide) (fun c_115 => ?_) (fun c_115 => ?_)
    · have r_v_14 : RI v_14 1 1 := rc_neL r_v_14 rl_0 (ti_ne c_115) (by decide)
      refine lv_iconst (v := 0) hx hb dX10_holds_122 (by decide) ?_
      subst hQ
      exact W.zret (v := 0) hx hb hr (rfl) (fun t ht hW => ⟨⟨0, (), rfl, ⟨rl_0.to (by decide), (fun h0 => trivial), (fun _ => trivial)⟩, by rw [ht]; exact hw.2.1, va_K.moved hW.alike hK, hw.2.2.1⟩, hw.2.2.2.1.F ht⟩) hw.2.2.2.1.2.2 dX10_holds_123
    · have r_v_14 : RI v_14 0 0 := rc_eq1 r_v_14 rl_0 (ti_eq c_115) (by decide)
      refine lv_iconst (v := 1) hx hb dX10_holds_118 (by decide) ?_
      refine lv_goto (tgt := 123) hx hb dX10_holds_119 (by decide) ?_
      subst hQ
      exact W.zret (v := 1) hx hb hr (rfl) (fun t ht hW => ⟨⟨1, (), rfl, ⟨rl_1.to (by decide), (fun _ => trivial), (fun h0 => trivial)⟩, by rw [ht]; exact hw.2.1, va_K.moved hW.alike hK, hw.2.2.1⟩, hw.2.2.2.1.F ht⟩) hw.2.2.2.1.2.2 dX10_holds_123
  · by_cases k_34_2 : v_13 = 2
    · refine lv_lookup (tgt := 124) (off := 90) hx hb dX10_holds_34 (by decide) (by rw [k_34_2]; decide) (by decide) ?_
      have r_v_13 : RI v_13 2 2 := by rw [k_34_2]; exact rl_2
      have g_v_10 : 0 ≤ v_10.toInt ∧ v_10.toInt < p1.toInt := by obtain ⟨_, f9, e8, e7, q9, _⟩ := ax_of (k := 14) (t := 34) hw h_p0 rfl (fun _ => rfl); cases FLD.inj hw.2.2.1 e8 m_u_8; have t9 := ARR.ael hw.2.2.1 e7 m_v_13; have x9 := ARR.ael hw.2.2.1 e7 m_v_10; rw [show Int32.toNatClampNeg v_7 = 174 + 4 * Int32.toNatClampNeg p1 from (by have k1 := r_v_7.cl (by decide); have k2 := r_p1.cl (by decide); omega)] at t9; rw [show Int32.toNatClampNeg v_9 = 175 + 4 * Int32.toNatClampNeg p1 from (by have k1 := r_v_9.cl (by decide); have k2 := r_p1.cl (by decide); omega)] at x9; exact RN_child q9 (r_p1.to (by decide)) t9 x9 (r_v_13.to (by decide))
      have r_v_10 : RI v_10 0 56 := ⟨g_v_10.1, by have k1 := r_p1.2; omega⟩
      have g_v_12 : 0 ≤ v_12.toInt ∧ v_12.toInt < p1.toInt := by obtain ⟨_, f9, e8, e7, q9, _⟩ := ax_of (k := 14) (t := 34) hw h_p0 rfl (fun _ => rfl); cases FLD.inj hw.2.2.1 e8 m_u_8; have t9 := ARR.ael hw.2.2.1 e7 m_v_13; have x9 := ARR.ael hw.2.2.1 e7 m_v_12; rw [show Int32.toNatClampNeg v_7 = 174 + 4 * Int32.toNatClampNeg p1 from (by have k1 := r_v_7.cl (by decide); have k2 := r_p1.cl (by decide); omega)] at t9; rw [show Int32.toNatClampNeg v_11 = 176 + 4 * Int32.toNatClampNeg p1 from (by have k1 := r_v_11.cl (by decide); have k2 := r_p1.cl (by decide); omega)] at x9; exact RN_child2 q9 (r_p1.to (by decide)) t9 x9 (r_v_13.to (by decide))
      have r_v_12 : RI v_12 0 56 := ⟨g_v_12.1, by have k1 := r_p1.2; omega⟩
      refine lv_aload_n hx hb dX10_holds_124 rfl (lv_at hl 3 rfl) ?_
      refine lv_iload hx hb dX10_holds_125 (lv_at hl 1 rfl) ?_
      refine lv_iload_n hx hb dX10_holds_127 rfl (lv_at hl 5 rfl) ?_
      refine tk_ir (va_runV (As := [.int v_10, .int p2]) (rest := []) ⟨hx, hb, hml, hown, hts⟩ (c_X10_holds__3 l D cy z s.heap.size Ps w0 hw.1 p0 v_10 p2 h_p0 r_v_10 r_p2) (cwV 2 hts (gV tw_1787 tw_1789 ts_119 tw_15 tw_1790) rfl rfl rfl (by decide +kernel) ⟨Nat.le_of_ble_eq_true rfl, Nat.le_of_ble_eq_true rfl⟩) (tg_preV hw hK hSD hA (ci := 10) (q := (RX10, TX10, 49)) rfl h_p0 rfl) rfl rfl hl.1 rfl (lv_room (Nat.le_of_ble_eq_true rfl)) dX10_holds_128 ⟨Nat.le_of_ble_eq_true rfl, Nat.le_of_ble_eq_true rfl⟩) hw hA (fun v_15  H locs hp_v_15 hw => ?_)
      have r_v_15 : RI v_15 0 1 := hp_v_15.1
      refine lv_if_eq (tgt := 148) hx hb dX10_holds_131 (by decide) (fun c_131 => ?_) (fun c_131 => ?_)
      · have r_v_15 : RI v_15 0 0 := rc_eq1 r_v_15 rl_0 (ti_eq c_131) (by decide)
        refine lv_iconst (v := 0) hx hb dX10_holds_148 (by decide) ?_
        subst hQ
        exact W.zret (v := 0) hx hb hr (rfl) (fun t ht hW => ⟨⟨0, (), rfl, ⟨rl_0.to (by decide), (fun h0 => trivial), (fun _ => trivial)⟩, by rw [ht]; exact hw.2.1, va_K.moved hW.alike hK, hw.2.2.1⟩, hw.2.2.2.1.F ht⟩) hw.2.2.2.1.2.2 dX10_holds_149
      · have r_v_15 : RI v_15 1 1 := rc_neL r_v_15 rl_0 (ti_ne c_131) (by decide)
        refine lv_aload_n hx hb dX10_holds_134 rfl (lv_at hl 3 rfl) ?_
        refine lv_iload hx hb dX10_holds_135 (lv_at hl 0 rfl) ?_
        refine lv_iload_n hx hb dX10_holds_137 rfl (lv_at hl 5 rfl) ?_
        refine tk_ir (va_runV (As := [.int v_12, .int p2]) (rest := []) ⟨hx, hb, hml, hown, hts⟩ (c_X10_holds__3 l D cy z H.size Ps w0 hw.1 p0 v_12 p2 h_p0 r_v_12 r_p2) (cwV 2 hts (gV tw_1787 tw_1789 ts_119 tw_15 tw_1790) rfl rfl rfl (by decide +kernel) ⟨Nat.le_of_ble_eq_true rfl, Nat.le_of_ble_eq_true rfl⟩) (tg_preV hw hK hSD hA (ci := 10) (q := (RX10, TX10, 49)) rfl h_p0 rfl) rfl rfl hl.1 rfl (lv_room (Nat.le_of_ble_eq_true rfl)) dX10_holds_138 ⟨Nat.le_of_ble_eq_true rfl, Nat.le_of_ble_eq_true rfl⟩) hw hA (fun v_16  H locs hp_v_16 hw => ?_)
        have r_v_16 : RI v_16 0 1 := hp_v_16.1
        refine lv_if_eq (tgt := 148) hx hb dX10_holds_141 (by decide) (fun c_141 => ?_) (fun c_141 => ?_)
        · have r_v_16 : RI v_16 0 0 := rc_eq1 r_v_16 rl_0 (ti_eq c_141) (by decide)
          refine lv_iconst (v := 0) hx hb dX10_holds_148 (by decide) ?_
          subst hQ
          exact W.zret (v := 0) hx hb hr (rfl) (fun t ht hW => ⟨⟨0, (), rfl, ⟨rl_0.to (by decide), (fun h0 => trivial), (fun _ => trivial)⟩, by rw [ht]; exact hw.2.1, va_K.moved hW.alike hK, hw.2.2.1⟩, hw.2.2.2.1.F ht⟩) hw.2.2.2.1.2.2 dX10_holds_149
        · have r_v_16 : RI v_16 1 1 := rc_neL r_v_16 rl_0 (ti_ne c_141) (by decide)
          refine lv_iconst (v := 1) hx hb dX10_holds_144 (by decide) ?_
          refine lv_goto (tgt := 149) hx hb dX10_holds_145 (by decide) ?_
          subst hQ
          exact W.zret (v := 1) hx hb hr (rfl) (fun t ht hW => ⟨⟨1, (), rfl, ⟨rl_1.to (by decide), (fun _ => trivial), (fun h0 => trivial)⟩, by rw [ht]; exact hw.2.1, va_K.moved hW.alike hK, hw.2.2.1⟩, hw.2.2.2.1.F ht⟩) hw.2.2.2.1.2.2 dX10_holds_149
    · by_cases k_34_3 : v_13 = 3
      · refine lv_lookup (tgt := 150) (off := 116) hx hb dX10_holds_34 (by decide) (by rw [k_34_3]; decide) (by decide) ?_
        have r_v_13 : RI v_13 3 3 := by rw [k_34_3]; exact rl_3
        have g_v_10 : 0 ≤ v_10.toInt ∧ v_10.toInt < p1.toInt := by obtain ⟨_, f9, e8, e7, q9, _⟩ := ax_of (k := 14) (t := 34) hw h_p0 rfl (fun _ => rfl); cases FLD.inj hw.2.2.1 e8 m_u_8; have t9 := ARR.ael hw.2.2.1 e7 m_v_13; have x9 := ARR.ael hw.2.2.1 e7 m_v_10; rw [show Int32.toNatClampNeg v_7 = 174 + 4 * Int32.toNatClampNeg p1 from (by have k1 := r_v_7.cl (by decide); have k2 := r_p1.cl (by decide); omega)] at t9; rw [show Int32.toNatClampNeg v_9 = 175 + 4 * Int32.toNatClampNeg p1 from (by have k1 := r_v_9.cl (by decide); have k2 := r_p1.cl (by decide); omega)] at x9; exact RN_child q9 (r_p1.to (by decide)) t9 x9 (r_v_13.to (by decide))
        have r_v_10 : RI v_10 0 56 := ⟨g_v_10.1, by have k1 := r_p1.2; omega⟩
        have g_v_12 : 0 ≤ v_12.toInt ∧ v_12.toInt < p1.toInt := by obtain ⟨_, f9, e8, e7, q9, _⟩ := ax_of (k := 14) (t := 34) hw h_p0 rfl (fun _ => rfl); cases FLD.inj hw.2.2.1 e8 m_u_8; have t9 := ARR.ael hw.2.2.1 e7 m_v_13; have x9 := ARR.ael hw.2.2.1 e7 m_v_12; rw [show Int32.toNatClampNeg v_7 = 174 + 4 * Int32.toNatClampNeg p1 from (by have k1 := r_v_7.cl (by decide); have k2 := r_p1.cl (by decide); omega)] at t9; rw [show Int32.toNatClampNeg v_11 = 176 + 4 * Int32.toNatClampNeg p1 from (by have k1 := r_v_11.cl (by decide); have k2 := r_p1.cl (by decide); omega)] at x9; exact RN_child2 q9 (r_p1.to (by decide)) t9 x9 (r_v_13.to (by decide))
        have r_v_12 : RI v_12 0 56 := ⟨g_v_12.1, by have k1 := r_p1.2; omega⟩
        refine lv_aload_n hx hb dX10_holds_150 rfl (lv_at hl 3 rfl) ?_
        refine lv_iload hx hb dX10_holds_151 (lv_at hl 1 rfl) ?_
        refine lv_iload_n hx hb dX10_holds_153 rfl (lv_at hl 5 rfl) ?_
        refine tk_ir (va_runV (As := [.int v_10, .int p2]) (rest := []) ⟨hx, hb, hml, hown, hts⟩ (c_X10_holds__3 l D cy z s.heap.size Ps w0 hw.1 p0 v_10 p2 h_p0 r_v_10 r_p2) (cwV 2 hts (gV tw_1787 tw_1789 ts_119 tw_15 tw_1790) rfl rfl rfl (by decide +kernel) ⟨Nat.le_of_ble_eq_true rfl, Nat.le_of_ble_eq_true rfl⟩) (tg_preV hw hK hSD hA (ci := 10) (q := (RX10, TX10, 49)) rfl h_p0 rfl) rfl rfl hl.1 rfl (lv_room (Nat.le_of_ble_eq_true rfl)) dX10_holds_154 ⟨Nat.le_of_ble_eq_true rfl, Nat.le_of_ble_eq_true rfl⟩) hw hA (fun v_17  H locs hp_v_17 hw => ?_)
        have r_v_17 : RI v_17 0 1 := hp_v_17.1
        refine lv_if_ne (tgt := 170) hx hb dX10_holds_157 (by decide) (fun c_157 => ?_) (fun c_157 => ?_)
        · have r_v_17 : RI v_17 1 1 := rc_neL r_v_17 rl_0 (ti_ne c_157) (by decide)
          refine lv_iconst (v := 1) hx hb dX10_holds_170 (by decide) ?_
          refine lv_goto (tgt := 175) hx hb dX10_holds_171 (by decide) ?_
          subst hQ
          exact W.zret (v := 1) hx hb hr (rfl) (fun t ht hW => ⟨⟨1, (), rfl, ⟨rl_1.to (by decide), (fun _ => trivial), (fun h0 => trivial)⟩, by rw [ht]; exact hw.2.1, va_K.moved hW.alike hK, hw.2.2.1⟩, hw.2.2.2.1.F ht⟩) hw.2.2.2.1.2.2 dX10_holds_175
        · have r_v_17 : RI v_17 0 0 := rc_eq1 r_v_17 rl_0 (ti_eq c_157) (by decide)
          refine lv_aload_n hx hb dX10_holds_160 rfl (lv_at hl 3 rfl) ?_
          refine lv_iload hx hb dX10_holds_161 (lv_at hl 0 rfl) ?_
          refine lv_iload_n hx hb dX10_holds_163 rfl (lv_at hl 5 rfl) ?_
          refine tk_ir (va_runV (As := [.int v_12, .int p2]) (rest := []) ⟨hx, hb, hml, hown, hts⟩ (c_X10_holds__3 l D cy z H.size Ps w0 hw.1 p0 v_12 p2 h_p0 r_v_12 r_p2) (cwV 2 hts (gV tw_1787 tw_1789 ts_119 tw_15 tw_1790) rfl rfl rfl (by decide +kernel) ⟨Nat.le_of_ble_eq_true rfl, Nat.le_of_ble_eq_true rfl⟩) (tg_preV hw hK hSD hA (ci := 10) (q := (RX10, TX10, 49)) rfl h_p0 rfl) rfl rfl hl.1 rfl (lv_room (Nat.le_of_ble_eq_true rfl)) dX10_holds_164 ⟨Nat.le_of_ble_eq_true rfl, Nat.le_of_ble_eq_true rfl⟩) hw hA (fun v_18  H locs hp_v_18 hw => ?_)
          have r_v_18 : RI v_18 0 1 := hp_v_18.1
          refine lv_if_eq (tgt := 174) hx hb dX10_holds_167 (by decide) (fun c_167 => ?_) (fun c_167 => ?_)
          · have r_v_18 : RI v_18 0 0 := rc_eq1 r_v_18 rl_0 (ti_eq c_167) (by decide)
            refine lv_iconst (v := 0) hx hb dX10_holds_174 (by decide) ?_
            subst hQ
            exact W.zret (v := 0) hx hb hr (rfl) (fun t ht hW => ⟨⟨0, (), rfl, ⟨rl_0.to (by decide), (fun h0 => trivial), (fun _ => trivial)⟩, by rw [ht]; exact hw.2.1, va_K.moved hW.alike hK, hw.2.2.1⟩, hw.2.2.2.1.F ht⟩) hw.2.2.2.1.2.2 dX10_holds_175
          · have r_v_18 : RI v_18 1 1 := rc_neL r_v_18 rl_0 (ti_ne c_167) (by decide)
            refine lv_iconst (v := 1) hx hb dX10_holds_170 (by decide) ?_
            refine lv_goto (tgt := 175) hx hb dX10_holds_171 (by decide) ?_
            subst hQ
            exact W.zret (v := 1) hx hb hr (rfl) (fun t ht hW => ⟨⟨1, (), rfl, ⟨rl_1.to (by decide), (fun _ => trivial), (fun h0 => trivial)⟩, by rw [ht]; exact hw.2.1, va_K.moved hW.alike hK, hw.2.2.1⟩, hw.2.2.2.1.F ht⟩) hw.2.2.2.1.2.2 dX10_holds_175
      · by_cases k_34_69 : v_13 = 69
        · refine lv_lookup (tgt := 176) (off := 142) hx hb dX10_holds_34 (by decide) (by rw [k_34_69]; decide) (by decide) ?_
          have r_v_13 : RI v_13 69 69 := by rw [k_34_69]; exact rl_69
          refine lv_aload_n hx hb dX10_holds_176 rfl (lv_at hl 3 rfl) ?_
          refine lv_iload_n hx hb dX10_holds_177 rfl (lv_at hl 5 rfl) ?_
          refine tk_ir (va_runV (As := [.int p2]) (rest := []) ⟨hx, hb, hml, hown, hts⟩ (c_X10_isOpen l D cy z s.heap.size Ps w0 hw.1 p0 p2 h_p0 (r_p2.to (by decide))) (cwV 1 hts (gV tw_1457 tw_1459 ts_71 tw_15 tw_1460) rfl rfl rfl (by decide +kernel) ⟨Nat.le_of_ble_eq_true rfl, Nat.le_of_ble_eq_true rfl⟩) (tg_preV hw hK hSD hA (ci := 10) (q := (RX10, TX10, 49)) rfl h_p0 rfl) rfl rfl hl.1 rfl (lv_room (Nat.le_of_ble_eq_true rfl)) dX10_holds_178 ⟨Nat.le_of_ble_eq_true rfl, Nat.le_of_ble_eq_true rfl⟩) hw hA (fun v_19  H locs hp_v_19 hw => ?_)
          have r_v_19 : RI v_19 0 1 := hp_v_19.1
          subst hQ
          exact W.zret (v := v_19) hx hb hr (tq_nz (r_v_19.to (by decide))) (fun t ht hW => ⟨⟨v_19, (), rfl, ⟨r_v_19.to (by decide), (fun h0 => trivial), (fun h0 => trivial)⟩, by rw [ht]; exact hw.2.1, va_K.moved hW.alike hK, hw.2.2.1⟩, hw.2.2.2.1.F ht⟩) hw.2.2.2.1.2.2 dX10_holds_181
        · by_cases k_34_70 : v_13 = 70
          · refine lv_lookup (tgt := 182) (off := 148) hx hb dX10_holds_34 (by decide) (by rw [k_34_70]; decide) (by decide) ?_
            have r_v_13 : RI v_13 70 70 := by rw [k_34_70]; exact rl_70
            refine lv_aload_n hx hb dX10_holds_182 rfl (lv_at hl 3 rfl) ?_
            refine lv_iload_n hx hb dX10_holds_183 rfl (lv_at hl 5 rfl) ?_
            refine tk_ir (va_runV (As := [.int p2]) (rest := []) ⟨hx, hb, hml, hown, hts⟩ (c_X10_whatIs l D cy z s.heap.size Ps w0 hw.1 p0 p2 h_p0 r_p2) (cwV 1 hts (gV tw_1449 tw_1451 ts_69 tw_15 tw_1452) rfl rfl rfl (by decide +kernel) ⟨Nat.le_of_ble_eq_true rfl, Nat.le_of_ble_eq_true rfl⟩) (tg_preV hw hK hSD hA (ci := 10) (q := (RX10, TX10, 49)) rfl h_p0 rfl) rfl rfl hl.1 rfl (lv_room (Nat.le_of_ble_eq_true rfl)) dX10_holds_184 ⟨Nat.le_of_ble_eq_true rfl, Nat.le_of_ble_eq_true rfl⟩) hw hA (fun v_20  H locs hp_v_20 hw => ?_)
            have r_v_20 : RI v_20 (-1) 5 := hp_v_20.1
            by_cases c9_v_20 : v_20.toInt < 0
            · have r_v_20 : RI v_20 (-1) (-1) := by unfold RI at r_v_20 ⊢; omega
              have x_NB_p0_p2 := (hp_v_20.2.2.2.2.1 (by omega)).1
              refine lv_iconst (v := (-1)) hx hb dX10_holds_187 (by decide) ?_
              refine lv_icmp_ne (tgt := 195) hx hb dX10_holds_188 (by decide) (fun c_188 => ?_) (fun c_188 => ?_)
              · exact absurd (r_v_20.eq.trans rl_m1.eq.symm) ((ti_ne c_188))
              · refine lv_iconst (v := 1) hx hb dX10_holds_191 (by decide) ?_
                refine lv_goto (tgt := 196) hx hb dX10_holds_192 (by decide) ?_
                subst hQ
                exact W.zret (v := 1) hx hb hr (rfl) (fun t ht hW => ⟨⟨1, (), rfl, ⟨rl_1.to (by decide), (fun _ => trivial), (fun h0 => trivial)⟩, by rw [ht]; exact hw.2.1, va_K.moved hW.alike hK, hw.2.2.1⟩, hw.2.2.2.1.F ht⟩) hw.2.2.2.1.2.2 dX10_holds_196
            · have r_v_20 : RI v_20 0 5 := by unfold RI at r_v_20 ⊢; omega
              have x_WB_p0_p2_v_20 := (hp_v_20.2.2.2.2.2 (by omega)).1
              refine lv_iconst (v := (-1)) hx hb dX10_holds_187 (by decide) ?_
              refine lv_icmp_ne (tgt := 195) hx hb dX10_holds_188 (by decide) (fun c_188 => ?_) (fun c_188 => ?_)
              · refine lv_iconst (v := 0) hx hb dX10_holds_195 (by decide) ?_
                subst hQ
                exact W.zret (v := 0) hx hb hr (rfl) (fun t ht hW => ⟨⟨0, (), rfl, ⟨rl_0.to (by decide), (fun h0 => trivial), (fun _ => trivial)⟩, by rw [ht]; exact hw.2.1, va_K.moved hW.alike hK, hw.2.2.1⟩, hw.2.2.2.1.F ht⟩) hw.2.2.2.1.2.2 dX10_holds_196
              · have r_v_20 : RI v_20 0 (-1) := rc_eq1 r_v_20 rl_m1 (ti_eq c_188) (by decide)
                exact (r_v_20.no (by decide)).elim
          · by_cases k_34_71 : v_13 = 71
            · refine lv_lookup (tgt := 197) (off := 163) hx hb dX10_holds_34 (by decide) (by rw [k_34_71]; decide) (by decide) ?_
              have r_v_13 : RI v_13 71 71 := by rw [k_34_71]; exact rl_71
              refine lv_aload_n hx hb dX10_holds_197 rfl (lv_at hl 3 rfl) ?_
              refine lv_iload_n hx hb dX10_holds_198 rfl (lv_at hl 5 rfl) ?_
              refine tk_ir (va_runV (As := [.int p2]) (rest := []) ⟨hx, hb, hml, hown, hts⟩ (c_X10_sittersOf l D cy z s.heap.size Ps w0 hw.1 p0 p2 h_p0 (r_p2.to (by decide))) (cwV 1 hts (gV tw_1461 tw_1463 ts_72 tw_15 tw_1464) rfl rfl rfl (by decide +kernel) ⟨Nat.le_of_ble_eq_true rfl, Nat.le_of_ble_eq_true rfl⟩) (tg_preV hw hK hSD hA (ci := 10) (q := (RX10, TX10, 49)) rfl h_p0 rfl) rfl rfl hl.1 rfl (lv_room (Nat.le_of_ble_eq_true rfl)) dX10_holds_199 ⟨Nat.le_of_ble_eq_true rfl, Nat.le_of_ble_eq_true rfl⟩) hw hA (fun v_21  H locs hp_v_21 hw => ?_)
              have r_v_21 : RI v_21 (-2147483648) 2147483647 := hp_v_21.1
              refine lv_if_eq (tgt := 209) hx hb dX10_holds_202 (by decide) (fun c_202 => ?_) (fun c_202 => ?_)
              · have r_v_21 : RI v_21 0 0 := rc_eq1 r_v_21 rl_0 (ti_eq c_202) (by decide)
                refine lv_iconst (v := 0) hx hb dX10_holds_209 (by decide) ?_
                subst hQ
                exact W.zret (v := 0) hx hb hr (rfl) (fun t ht hW => ⟨⟨0, (), rfl, ⟨rl_0.to (by decide), (fun h0 => trivial), (fun _ => trivial)⟩, by rw [ht]; exact hw.2.1, va_K.moved hW.alike hK, hw.2.2.1⟩, hw.2.2.2.1.F ht⟩) hw.2.2.2.1.2.2 dX10_holds_210
              · refine lv_iconst (v := 1) hx hb dX10_holds_205 (by decide) ?_
                refine lv_goto (tgt := 210) hx hb dX10_holds_206 (by decide) ?_
                subst hQ
                exact W.zret (v := 1) hx hb hr (rfl) (fun t ht hW => ⟨⟨1, (), rfl, ⟨rl_1.to (by decide), (fun _ => trivial), (fun h0 => trivial)⟩, by rw [ht]; exact hw.2.1, va_K.moved hW.alike hK, hw.2.2.1⟩, hw.2.2.2.1.F ht⟩) hw.2.2.2.1.2.2 dX10_holds_210
            · by_cases k_34_72 : v_13 = 72
              · refine lv_lookup (tgt := 211) (off := 177) hx hb dX10_holds_34 (by decide) (by rw [k_34_72]; decide) (by decide) ?_
                have r_v_13 : RI v_13 72 72 := by rw [k_34_72]; exact rl_72
                refine lv_aload_n hx hb dX10_holds_211 rfl (lv_at hl 3 rfl) ?_
                refine lv_iload_n hx hb dX10_holds_212 rfl (lv_at hl 5 rfl) ?_
                refine tk_ir (va_runV (As := [.int p2]) (rest := []) ⟨hx, hb, hml, hown, hts⟩ (c_X10_whatIs l D cy z s.heap.size Ps w0 hw.1 p0 p2 h_p0 r_p2) (cwV 1 hts (gV tw_1449 tw_1451 ts_69 tw_15 tw_1452) rfl rfl rfl (by decide +kernel) ⟨Nat.le_of_ble_eq_true rfl, Nat.le_of_ble_eq_true rfl⟩) (tg_preV hw hK hSD hA (ci := 10) (q := (RX10, TX10, 49)) rfl h_p0 rfl) rfl rfl hl.1 rfl (lv_room (Nat.le_of_ble_eq_true rfl)) dX10_holds_213 ⟨Nat.le_of_ble_eq_true rfl, Nat.le_of_ble_eq_true rfl⟩) hw hA (fun v_22  H locs hp_v_22 hw => ?_)
                have r_v_22 : RI v_22 (-1) 5 := hp_v_22.1
                by_cases c9_v_22 : v_22.toInt < 0
                · have r_v_22 : RI v_22 (-1) (-1) := by unfold RI at r_v_22 ⊢; omega
                  have x_NB_p0_p2 := (hp_v_22.2.2.2.2.1 (by omega)).1
                  refine lv_iload hx hb dX10_holds_216 (lv_at hl 1 rfl) ?_
                  refine lv_icmp_ne (tgt := 225) hx hb dX10_holds_218 (by decide) (fun c_218 => ?_) (fun c_218 => ?_)
                  · refine lv_iconst (v := 0) hx hb dX10_holds_225 (by decide) ?_
                    subst hQ
                    exact W.zret (v := 0) hx hb hr (rfl) (fun t ht hW => ⟨⟨0, (), rfl, ⟨rl_0.to (by decide), (fun h0 => trivial), (fun _ => trivial)⟩, by rw [ht]; exact hw.2.1, va_K.moved hW.alike hK, hw.2.2.1⟩, hw.2.2.2.1.F ht⟩) hw.2.2.2.1.2.2 dX10_holds_226
                  · have r_v_10 : RI v_10 (-1) (-1) := rc_eq2 r_v_22 r_v_10 (ti_eq c_218) (by decide)
                    refine lv_iconst (v := 1) hx hb dX10_holds_221 (by decide) ?_
                    refine lv_goto (tgt := 226) hx hb dX10_holds_222 (by decide) ?_
                    subst hQ
                    exact W.zret (v := 1) hx hb hr (rfl) (fun t ht hW => ⟨⟨1, (), rfl, ⟨rl_1.to (by decide), (fun _ => trivial), (fun h0 => trivial)⟩, by rw [ht]; exact hw.2.1, va_K.moved hW.alike hK, hw.2.2.1⟩, hw.2.2.2.1.F ht⟩) hw.2.2.2.1.2.2 dX10_holds_226
                · have r_v_22 : RI v_22 0 5 := by unfold RI at r_v_22 ⊢; omega
                  have x_WB_p0_p2_v_22 := (hp_v_22.2.2.2.2.2 (by omega)).1
                  refine lv_iload hx hb dX10_holds_216 (lv_at hl 1 rfl) ?_
                  refine lv_icmp_ne (tgt := 225) hx hb dX10_holds_218 (by decide) (fun c_218 => ?_) (fun c_218 => ?_)
                  · refine lv_iconst (v := 0) hx hb dX10_holds_225 (by decide) ?_
                    subst hQ
                    exact W.zret (v := 0) hx hb hr (rfl) (fun t ht hW => ⟨⟨0, (), rfl, ⟨rl_0.to (by decide), (fun h0 => trivial), (fun _ => trivial)⟩, by rw [ht]; exact hw.2.1, va_K.moved hW.alike hK, hw.2.2.1⟩, hw.2.2.2.1.F ht⟩) hw.2.2.2.1.2.2 dX10_holds_226
                  · have r_v_10 : RI v_10 0 5 := rc_eq2 r_v_22 r_v_10 (ti_eq c_218) (by decide)
                    refine lv_iconst (v := 1) hx hb dX10_holds_221 (by decide) ?_
                    refine lv_goto (tgt := 226) hx hb dX10_holds_222 (by decide) ?_
                    subst hQ
                    exact W.zret (v := 1) hx hb hr (rfl) (fun t ht hW => ⟨⟨1, (), rfl, ⟨rl_1.to (by decide), (fun _ => trivial), (fun h0 => trivial)⟩, by rw [ht]; exact hw.2.1, va_K.moved hW.alike hK, hw.2.2.1⟩, hw.2.2.2.1.F ht⟩) hw.2.2.2.1.2.2 dX10_holds_226
              · by_cases k_34_73 : v_13 = 73
                · refine lv_lookup (tgt := 227) (off := 193) hx hb dX10_holds_34 (by decide) (by rw [k_34_73]; decide) (by decide) ?_
                  have r_v_13 : RI v_13 73 73 := by rw [k_34_73]; exact rl_73
                  refine lv_aload_n hx hb dX10_holds_227 rfl (lv_at hl 3 rfl) ?_
                  refine tg_mem (ci := 10) (C := RX10) (T := TX10) (N := 49) hx hb hts inX10 hown hK hw 14 m_u_8 rfl (by decide) (hts _ tw_1151) (fun _ h9 => h9) dX10_holds_228 ?_
                  refine lv_bipush (v := 86) hx hb dX10_holds_231 (by decide) ?_
                  refine lv_iload_n hx hb dX10_holds_233 rfl (lv_at hl 5 rfl) ?_
                  refine lv_iadd hx hb dX10_holds_234 (lv_topi (fun v_23 e_v_23 => ?_))
                  obtain ⟨t_v_23, r_v_23⟩ := tq_add (lo := 86) (hi := 91) rl_86 r_p2 (by decide +kernel) e_v_23
                  have t_v_23 : v_23.toInt = 86 + p2.toInt := t_v_23
                  refine tg_iald (lo := (-2147483648)) (hi := 2147483647) hx hb hK hw h_vu_8 rfl 86 91 r_v_23 (by decide) (by decide +kernel) dX10_holds_235 (fun v_24 r_v_24 m_v_24 o_v_24 => ?_)
                  refine lv_iload hx hb dX10_holds_236 (lv_at hl 1 rfl) ?_
                  refine lv_icmp_ne (tgt := 245) hx hb dX10_holds_238 (by decide) (fun c_238 => ?_) (fun c_238 => ?_)
                  · refine lv_iconst (v := 0) hx hb dX10_holds_245 (by decide) ?_
                    subst hQ
                    exact W.zret (v := 0) hx hb hr (rfl) (fun t ht hW => ⟨⟨0, (), rfl, ⟨rl_0.to (by decide), (fun h0 => trivial), (fun _ => trivial)⟩, by rw [ht]; exact hw.2.1, va_K.moved hW.alike hK, hw.2.2.1⟩, hw.2.2.2.1.F ht⟩) hw.2.2.2.1.2.2 dX10_holds_246
                  · refine lv_iconst (v := 1) hx hb dX10_holds_241 (by decide) ?_
                    refine lv_goto (tgt := 246) hx hb dX10_holds_242 (by decide) ?_
                    subst hQ
                    exact W.zret (v := 1) hx hb hr (rfl) (fun t ht hW => ⟨⟨1, (), rfl, ⟨rl_1.to (by decide), (fun _ => trivial), (fun h0 => trivial)⟩, by rw [ht]; exact hw.2.1, va_K.moved hW.alike hK, hw.2.2.1⟩, hw.2.2.2.1.F ht⟩) hw.2.2.2.1.2.2 dX10_holds_246
                · refine lv_lookup (tgt := 247) (off := 213) hx hb dX10_holds_34 (by decide) ((lv_osw k_34_1 (by decide)).trans ((lv_osw k_34_2 (by decide)).trans ((lv_osw k_34_3 (by decide)).trans ((lv_osw k_34_69 (by decide)).trans ((lv_osw k_34_70 (by decide)).trans ((lv_osw k_34_71 (by decide)).trans ((lv_osw k_34_72 (by decide)).trans ((lv_osw k_34_73 (by decide)).trans (rfl))))))))) (by decide) ?_
                  refine lv_aload_n hx hb dX10_holds_247 rfl (lv_at hl 3 rfl) ?_
                  refine tg_mem (ci := 10) (C := RX10) (T := TX10) (N := 49) hx hb hts inX10 hown hK hw 14 m_u_8 rfl (by decide) (hts _ tw_1151) (fun _ h9 => h9) dX10_holds_248 ?_
                  refine lv_iload_n hx hb dX10_holds_251 rfl (lv_at hl 2 rfl) ?_
                  refine tg_imem hx hb hK hw h_vu_8 rfl r_v_7 (by decide) m_v_13 dX10_holds_252 ?_
                  refine lv_bipush (v := 50) hx hb dX10_holds_253 (by decide) ?_
                  refine lv_isub hx hb dX10_holds_255 (lv_topi (fun v_26 e_v_26 => ?_))
                  have r_v_26 := ri_any v_26
                  refine lv_istore (lv' := [(6, .int v_26), (5, .int v_12), (4, .int v_10), (3, .int v_7), (0, .ref p0), (1, .int p1), (2, .int p2)]) hx hb dX10_holds_256 hl (by decide) rfl (fun ls hl => ?_)
                  refine lv_iload hx hb dX10_holds_258 (lv_at hl 0 rfl) ?_
                  refine lv_bipush (v := 24) hx hb dX10_holds_260 (by decide) ?_
                  refine lv_icmp_ne (tgt := 273) hx hb dX10_holds_262 (by decide) (fun c_262 => ?_) (fun c_262 => ?_)
                  · refine lv_iload hx hb dX10_holds_273 (lv_at hl 0 rfl) ?_
                    refine lv_bipush (v := 25) hx hb dX10_holds_275 (by decide) ?_
                    refine lv_icmp_ne (tgt := 292) hx hb dX10_holds_277 (by decide) (fun c_277 => ?_) (fun c_277 => ?_)
                    · refine lv_iload hx hb dX10_holds_292 (lv_at hl 0 rfl) ?_
                      refine lv_bipush (v := 26) hx hb dX10_holds_294 (by decide) ?_
                      refine lv_icmp_ne (tgt := 311) hx hb dX10_holds_296 (by decide) (fun c_296 => ?_) (fun c_296 => ?_)
                      · refine lv_iload_n hx hb dX10_holds_311 rfl (lv_at hl 6 rfl) ?_
                        exact B312 v_7 v_10 v_12 v_26 p2 _ _ ls r_p1 r_p2 r_v_7 r_v_10 r_v_12 r_v_26 (r_p2.to (by decide)) hw (lv_sub hl [4, 5, 6, 3, 2, 1, 0] rfl)
                      · have r_v_26 : RI v_26 26 26 := rc_eq1 r_v_26 rl_26 (ti_eq c_296) (by decide)
                        refine lv_aload_n hx hb dX10_holds_299 rfl (lv_at hl 4 rfl) ?_
                        refine tg_mem (ci := 10) (C := RX10) (T := TX10) (N := 49) hx hb hts inX10 hown hK hw 14 m_u_8 rfl (by decide) (hts _ tw_1151) (fun _ h9 => h9) dX10_holds_300 ?_
                        refine lv_bipush (v := 98) hx hb dX10_holds_303 (by decide) ?_
                        refine lv_iload_n hx hb dX10_holds_305 rfl (lv_at hl 6 rfl) ?_
                        refine lv_iadd hx hb dX10_holds_306 (lv_topi (fun v_27 e_v_27 => ?_))
                        obtain ⟨t_v_27, r_v_27⟩ := tq_add (lo := 98) (hi := 103) rl_98 r_p2 (by decide +kernel) e_v_27
                        have t_v_27 : v_27.toInt = 98 + p2.toInt := t_v_27
                        refine tg_iald (lo := (-2147483648)) (hi := 2147483647) hx hb hK hw h_vu_8 rfl 98 103 r_v_27 (by decide) (by decide +kernel) dX10_holds_307 (fun v_28 r_v_28 m_v_28 o_v_28 => ?_)
                        refine lv_goto (tgt := 312) hx hb dX10_holds_308 (by decide) ?_
                        exact B312 v_7 v_10 v_12 v_26 v_28 _ _ ls r_p1 r_p2 r_v_7 r_v_10 r_v_12 (r_v_26.to (by decide)) r_v_28 hw (lv_sub hl [4, 5, 6, 3, 2, 1, 0] rfl)
                    · have r_v_26 : RI v_26 25 25 := rc_eq1 r_v_26 rl_25 (ti_eq c_277) (by decide)
                      refine lv_aload_n hx hb dX10_holds_280 rfl (lv_at hl 4 rfl) ?_
                      refine tg_mem (ci := 10) (C := RX10) (T := TX10) (N := 49) hx hb hts inX10 hown hK hw 14 m_u_8 rfl (by decide) (hts _ tw_1151) (fun _ h9 => h9) dX10_holds_281 ?_
                      refine lv_bipush (v := 92) hx hb dX10_holds_284 (by decide) ?_
                      refine lv_iload_n hx hb dX10_holds_286 rfl (lv_at hl 6 rfl) ?_
                      refine lv_iadd hx hb dX10_holds_287 (lv_topi (fun v_29 e_v_29 => ?_))
                      obtain ⟨t_v_29, r_v_29⟩ := tq_add (lo := 92) (hi := 97) rl_92 r_p2 (by decide +kernel) e_v_29
                      have t_v_29 : v_29.toInt = 92 + p2.toInt := t_v_29
                      refine tg_iald (lo := (-2147483648)) (hi := 2147483647) hx hb hK hw h_vu_8 rfl 92 97 r_v_29 (by decide) (by decide +kernel) dX10_holds_288 (fun v_30 r_v_30 m_v_30 o_v_30 => ?_)
                      refine lv_goto (tgt := 312) hx hb dX10_holds_289 (by decide) ?_
                      exact B312 v_7 v_10 v_12 v_26 v_30 _ _ ls r_p1 r_p2 r_v_7 r_v_10 r_v_12 (r_v_26.to (by decide)) r_v_30 hw (lv_sub hl [4, 5, 6, 3, 2, 1, 0] rfl)
                  · have r_v_26 : RI v_26 24 24 := rc_eq1 r_v_26 rl_24 (ti_eq c_262) (by decide)
                    refine lv_aload_n hx hb dX10_holds_265 rfl (lv_at hl 4 rfl) ?_
                    refine lv_iload_n hx hb dX10_holds_266 rfl (lv_at hl 6 rfl) ?_
                    refine tk_ir (va_runV (As := [.int p2]) (rest := []) ⟨hx, hb, hml, hown, hts⟩ (c_X10_sizeOf l D cy z s.heap.size Ps w0 hw.1 p0 p2 h_p0 r_p2) (cwV 1 hts (gV tw_1453 tw_1455 ts_70 tw_15 tw_1456) rfl rfl rfl (by decide +kernel) ⟨Nat.le_of_ble_eq_true rfl, Nat.le_of_ble_eq_true rfl⟩) (tg_preV hw hK hSD hA (ci := 10) (q := (RX10, TX10, 49)) rfl h_p0 rfl) rfl rfl hl.1 rfl (lv_room (Nat.le_of_ble_eq_true rfl)) dX10_holds_267 ⟨Nat.le_of_ble_eq_true rfl, Nat.le_of_ble_eq_true rfl⟩) hw hA (fun v_31  H locs hp_v_31 hw => ?_)
                    have r_v_31 : RI v_31 (-2147483648) 2147483647 := hp_v_31.1
                    refine lv_goto (tgt := 312) hx hb dX10_holds_270 (by decide) ?_
                    exact B312 v_7 v_10 v_12 v_26 v_31 _ _ ls r_p1 r_p2 r_v_7 r_v_10 r_v_12 (r_v_26.to (by decide)) r_v_31 hw (lv_sub hl [4, 5, 6, 3, 2, 1, 0] rfl)
abbrev wr_X10_holds__1 : List (Nat × Nat) := []
abbrev wa_X10_holds__1 : List Nat := []
set_option maxHeartbeats 4000000 in
set_option maxRecDepth 100000 in
theorem c_X10_holds__1 (l : Launch) (D : va_G) (cy : Nat → ClassId) (z : Nat → Nat) (sz : Nat) (Ps : PSI) (w0 : va_W) (hT : HT cy GG Ps w0) (p0 : Nat) (p1 : Int32) (p2 : Int32) (h_p0 : (p0, 55) ∈ Ps) (r_p1 : RI p1 0 58) (r_p2 : RI p2 0 5) : Met l yX10_holds (Cond.code yX10_holds cX10_holds 8 (some .boolean) :: gT) ({ frames := 61, cells := 0, slots := 0, locals := 12200 } : Room) (va_Pc [.ref p0, .int p1, .int p2] (PRE D cy z w0 sz)) (va_Qi (fun (r : Int32) (u : Unit) => RI r 0 1 ∧ (r = 0 → True) ∧ (¬ r = 0 → True)) (BB D cy (va_A w0 sz) (fun (u : Unit) => w0)) (va_A w0 sz)) 0 0 (va_A w0 sz) := by
  refine Met.ofW (cc := cX10_holds) (maxL := 8) (ret := (some .boolean)) (by decide) rfl ?_
  intro p e s m args below meth c s₁ B hml hv
  obtain ⟨rfl, hsz, hP, hK, hD0, hSD⟩ := hv
  have hx := B.exec
  have hb := B.bytes
  have hr := B.returns
  have hlocks := B.notSynchronized
  have hts : ∀ w ∈ gT, w.before _ s = true := fun w h => atoms_spec (ws := Cond.code yX10_holds cX10_holds 8 (some .boolean) :: gT) B.pre w (List.mem_cons_of_mem _ h)
  have hown : s.vm.findClass RX10 = some m.cls := findClass_of_methodNamed B.named
  subst hsz
  have hD := hD0.self (sz := s.heap.size)
  generalize hAe : va_A w0 s.heap.size = A at hD hSD ⊢
  have hA : ∀ q : Nat, s.heap.size ≤ q → A q := fun q h => by rw [← hAe]; exact Or.inr h
  have hl := lv_entry ([.ref p0, .int p1, .int p2]) (n := 8) (Nat.le_of_ble_eq_true rfl)
  rw [lg_entry_eq]
  generalize (lg_sl ([.ref p0, .int p1, .int p2]) ++ List.replicate (8 - (lg_sl ([.ref p0, .int p1, .int p2])).length) Slot.unset).toArray = ls at hl ⊢
  have hl : lv_has ls 8 [(0, .ref p0), (1, .int p1), (2, .int p2)] := hl
  refine nameQ (fun Q hQ => ?_)
  have hw : WD D cy GG A s wr_X10_holds__1 wa_X10_holds__1 Ps w0 Ps w0 s.heap [] := ⟨hT, hP, hD, va_S.rf, FR.rf, hT.1, [], (List.append_nil _).symm⟩
  have B312 : ∀ (x3 : Int32) (x4 : Int32) (x5 : Int32) (x6 : Int32) (y0 : Int32) (H : Heap) (locs : List Loc) (ls : Array Slot), RI p1 0 58 → RI p2 0 5 → RI x3 174 406 → RI x4 (-2147483648) 2147483647 → RI x5 (-2147483648) 2147483647 → RI x6 (-2147483648) 2147483647 → RI y0 (-2147483648) 2147483647 → WD D cy GG A s wr_X10_holds__1 wa_X10_holds__1 Ps w0 Ps w0 H locs → lv_has ls 8 [(0, .ref p0), (1, .int p1), (2, .int p2), (3, .int x3), (4, .int x4), (5, .int x5), (6, .int x6)] → W p l e (headSpec (Cond.code yX10_holds cX10_holds 8 (some .boolean) :: gT) ({ frames := 61, cells := 0, slots := 0, locals := 12200 } : Room)).room s m ([.ref p0, .int p1, .int p2] : List Value).toArray below meth c H locs 0 0 Q (F0 m 312 ls [.int y0]) := by
    intro x3 x4 x5 x6 y0 H locs ls r_p1 r_p2 r_x3 r_x4 r_x5 r_x6 r_y0 hw hl
    refine lv_istore (lv' := [(7, .int y0), (0, .ref p0), (1, .int p1), (2, .int p2), (3, .int x3), (4, .int x4), (5, .int x5), (6, .int x6)]) hx hb dX10_holds_312 hl (by decide) rfl (fun ls hl => ?_)
    refine lv_aload_n hx hb dX10_holds_314 rfl (lv_at hl 1 rfl) ?_
    refine tg_get (ci := 10) (ts := ty_MODEL) (C := RX10) (T := TX10) (N := 49) hx hb hts inX10 hown hK hw h_p0 rfl rfl 14 (by decide) (hts _ tw_1151) (fun _ h9 => h9) (ft := vR 34) rfl dX10_holds_315 (fun u_1 hv_u_1 m_u_1 => ?_)
    obtain ⟨vu_1, rfl, h_vu_1⟩ := hv_u_1
    refine lv_iload_n hx hb dX10_holds_318 rfl (lv_at hl 4 rfl) ?_
    refine lv_iconst (v := 3) hx hb dX10_holds_319 (by decide) ?_
    refine lv_iadd hx hb dX10_holds_320 (lv_topi (fun v_2 e_v_2 => ?_))
    obtain ⟨t_v_2, r_v_2⟩ := tq_add (lo := 177) (hi := 409) r_x3 rl_3 (by decide +kernel) e_v_2
    have t_v_2 : v_2.toInt = x3.toInt + 3 := t_v_2
    refine tg_iald (lo := (-2147483648)) (hi := 2147483647) hx hb hK hw h_vu_1 rfl 177 409 r_v_2 (by decide) (by decide +kernel) dX10_holds_321 (fun v_3 r_v_3 m_v_3 o_v_3 => ?_)
    refine lv_bipush (v := 60) hx hb dX10_holds_322 (by decide) ?_
    refine lv_icmp_ne (tgt := 342) hx hb dX10_holds_324 (by decide) (fun c_324 => ?_) (fun c_324 => ?_)
    · refine lv_aload_n hx hb dX10_holds_342 rfl (lv_at hl 1 rfl) ?_
      refine tg_mem (ci := 10) (C := RX10) (T := TX10) (N := 49) hx hb hts inX10 hown hK hw 14 m_u_1 rfl (by decide) (hts _ tw_1151) (fun _ h9 => h9) dX10_holds_343 ?_
      refine lv_iload_n hx hb dX10_holds_346 rfl (lv_at hl 4 rfl) ?_
      refine lv_iconst (v := 3) hx hb dX10_holds_347 (by decide) ?_
      refine lv_iadd hx hb dX10_holds_348 (lv_topi (fun v_4 e_v_4 => ?_))
      obtain ⟨t_v_4, r_v_4⟩ := tq_add (lo := 177) (hi := 409) r_x3 rl_3 (by decide +kernel) e_v_4
      have t_v_4 : v_4.toInt = x3.toInt + 3 := t_v_4
      refine tg_iald (lo := (-2147483648)) (hi := 2147483647) hx hb hK hw h_vu_1 rfl 177 409 r_v_4 (by decide) (by decide +kernel) dX10_holds_349 (fun v_5 r_v_5 m_v_5 o_v_5 => ?_)
      refine lv_bipush (v := 61) hx hb dX10_holds_350 (by decide) ?_
      refine lv_icmp_ne (tgt := 370) hx hb dX10_holds_352 (by decide) (fun c_352 => ?_) (fun c_352 => ?_)
      · refine lv_iload hx hb dX10_holds_370 (lv_at hl 0 rfl) ?_
        refine lv_iload hx hb dX10_holds_372 (lv_at hl 6 rfl) ?_
        refine lv_icmp_le (tgt := 381) hx hb dX10_holds_374 (by decide) (fun c_374 => ?_) (fun c_374 => ?_)
        · refine lv_iconst (v := 0) hx hb dX10_holds_381 (by decide) ?_
          subst hQ
          exact W.zret (v := 0) hx hb hr (rfl) (fun t ht hW => ⟨⟨0, (), rfl, ⟨rl_0.to (by decide), (fun h0 => trivial), (fun _ => trivial)⟩, by rw [ht]; exact hw.2.1, va_K.moved hW.alike hK, hw.2.2.1⟩, hw.2.2.2.1.F ht⟩) hw.2.2.2.1.2.2 dX10_holds_382
        · have r_x5 : RI x5 (-2147483648) 2147483646 := rc_lt1 r_x5 r_y0 (ti_nle c_374) (by decide)
          have r_y0 : RI y0 (-2147483647) 2147483647 := rc_lt2 r_x5 r_y0 (ti_nle c_374) (by decide)
          refine lv_iconst (v := 1) hx hb dX10_holds_377 (by decide) ?_
          refine lv_goto (tgt := 382) hx hb dX10_holds_378 (by decide) ?_
          subst hQ
          exact W.zret (v := 1) hx hb hr (rfl) (fun t ht hW => ⟨⟨1, (), rfl, ⟨rl_1.to (by decide), (fun _ => trivial), (fun h0 => trivial)⟩, by rw [ht]; exact hw.2.1, va_K.moved hW.alike hK, hw.2.2.1⟩, hw.2.2.2.1.F ht⟩) hw.2.2.2.1.2.2 dX10_holds_382
      · have r_v_5 : RI v_5 61 61 := rc_eq1 r_v_5 rl_61 (ti_eq c_352) (by decide)
        refine lv_iload hx hb dX10_holds_355 (lv_at hl 0 rfl) ?_
        refine lv_iload hx hb dX10_holds_357 (lv_at hl 6 rfl) ?_
        refine lv_icmp_ne (tgt := 366) hx hb dX10_holds_359 (by decide) (fun c_359 => ?_) (fun c_359 => ?_)
        · refine lv_iconst (v := 0) hx hb dX10_holds_366 (by decide) ?_
          refine lv_goto (tgt := 382) hx hb dX10_holds_367 (by decide) ?_
          subst hQ
          exact W.zret (v := 0) hx hb hr (rfl) (fun t ht hW => ⟨⟨0, (), rfl, ⟨rl_0.to (by decide), (fun h0 => trivial), (fun _ => trivial)⟩, by rw [ht]; exact hw.2.1, va_K.moved hW.alike hK, hw.2.2.1⟩, hw.2.2.2.1.F ht⟩) hw.2.2.2.1.2.2 dX10_holds_382
        · refine lv_iconst (v := 1) hx hb dX10_holds_362 (by decide) ?_
          refine lv_goto (tgt := 382) hx hb dX10_holds_363 (by decide) ?_
          subst hQ
          exact W.zret (v := 1) hx hb hr (rfl) (fun t ht hW => ⟨⟨1, (), rfl, ⟨rl_1.to (by decide), (fun _ => trivial), (fun h0 => trivial)⟩, by rw [ht]; exact hw.2.1, va_K.moved hW.alike hK, hw.2.2.1⟩, hw.2.2.2.1.F ht⟩) hw.2.2.2.1.2.2 dX10_holds_382
    · have r_v_3 : RI v_3 60 60 := rc_eq1 r_v_3 rl_60 (ti_eq c_324) (by decide)
      refine lv_iload hx hb dX10_holds_327 (lv_at hl 0 rfl) ?_
      refine lv_iload hx hb dX10_holds_329 (lv_at hl 6 rfl) ?_
      refine lv_icmp_ge (tgt := 338) hx hb dX10_holds_331 (by decide) (fun c_331 => ?_) (fun c_331 => ?_)
      · refine lv_iconst (v := 0) hx hb dX10_holds_338 (by decide) ?_
        refine lv_goto (tgt := 382) hx hb dX10_holds_339 (by decide) ?_
        subst hQ
        exact W.zret (v := 0) hx hb hr (rfl) (fun t ht hW => ⟨⟨0, (), rfl, ⟨rl_0.to (by decide), (fun h0 => trivial), (fun _ => trivial)⟩, by rw [ht]; exact hw.2.1, va_K.moved hW.alike hK, hw.2.2.1⟩, hw.2.2.2.1.F ht⟩) hw.2.2.2.1.2.2 dX10_holds_382
      · have r_y0 : RI y0 (-2147483648) 2147483646 := rc_lt1 r_y0 r_x5 (ti_nle c_331) (by decide)
        have r_x5 : RI x5 (-2147483647) 2147483647 := rc_lt2 r_y0 r_x5 (ti_nle c_331) (by decide)
        refine lv_iconst (v := 1) hx hb dX10_holds_334 (by decide) ?_
        refine lv_goto (tgt := 382) hx hb dX10_holds_335 (by decide) ?_
        subst hQ
        exact W.zret (v := 1) hx hb hr (rfl) (fun t ht hW => ⟨⟨1, (), rfl, ⟨rl_1.to (by decide), (fun _ => trivial), (fun h0 => trivial)⟩, by rw [ht]; exact hw.2.1, va_K.moved hW.alike hK, hw.2.2.1⟩, hw.2.2.2.1.F ht⟩) hw.2.2.2.1.2.2 dX10_holds_382
  refine lv_sipush (v := 174) hx hb dX10_holds_0 (by decide) ?_
  refine lv_iconst (v := 4) hx hb dX10_holds_3 (by decide) ?_
  refine lv_iload_n hx hb dX10_holds_4 rfl (lv_at hl 1 rfl) ?_
  refine lv_imul hx hb dX10_holds_5 (lv_topi (fun v_6 e_v_6 => ?_))
  obtain ⟨t_v_6, r_v_6⟩ := tq_mul (lo := 0) (hi := 232) rl_4 r_p1 (by decide +kernel) e_v_6
  have t_v_6 : v_6.toInt = 4 * p1.toInt := t_v_6
  refine lv_iadd hx hb dX10_holds_6 (lv_topi (fun v_7 e_v_7 => ?_))
  obtain ⟨t_v_7, r_v_7⟩ := tq_add (lo := 174) (hi := 406) rl_174 r_v_6 (by decide +kernel) e_v_7
  have t_v_7 : v_7.toInt = 174 + v_6.toInt := t_v_7
  refine lv_istore_n (lv' := [(3, .int v_7), (0, .ref p0), (1, .int p1), (2, .int p2)]) hx hb dX10_holds_7 rfl hl (by decide) rfl (fun ls hl => ?_)
  refine lv_aload_n hx hb dX10_holds_8 rfl (lv_at hl 1 rfl) ?_
  refine tg_get (ci := 10) (ts := ty_MODEL) (C := RX10) (T := TX10) (N := 49) hx hb hts inX10 hown hK hw h_p0 rfl rfl 14 (by decide) (hts _ tw_1151) (fun _ h9 => h9) (ft := vR 34) rfl dX10_holds_9 (fun u_8 hv_u_8 m_u_8 => ?_)
  obtain ⟨vu_8, rfl, h_vu_8⟩ := hv_u_8
  refine lv_iload_n hx hb dX10_holds_12 rfl (lv_at hl 0 rfl) ?_
  refine lv_iconst (v := 1) hx hb dX10_holds_13 (by decide) ?_
  refine lv_iadd hx hb dX10_holds_14 (lv_topi (fun v_9 e_v_9 => ?_))
  obtain ⟨t_v_9, r_v_9⟩ := tq_add (lo := 175) (hi := 407) r_v_7 rl_1 (by decide +kernel) e_v_9
  have t_v_9 : v_9.toInt = v_7.toInt + 1 := t_v_9
  refine tg_iald (lo := (-2147483648)) (hi := 2147483647) hx hb hK hw h_vu_8 rfl 175 407 r_v_9 (by decide) (by decide +kernel) dX10_holds_15 (fun v_10 r_v_10 m_v_10 o_v_10 => ?_)
  refine lv_istore (lv' := [(4, .int v_10), (3, .int v_7), (0, .ref p0), (1, .int p1), (2, .int p2)]) hx hb dX10_holds_16 hl (by decide) rfl (fun ls hl => ?_)
  refine lv_aload_n hx hb dX10_holds_18 rfl (lv_at hl 2 rfl) ?_
  refine tg_mem (ci := 10) (C := RX10) (T := TX10) (N := 49) hx hb hts inX10 hown hK hw 14 m_u_8 rfl (by decide) (hts _ tw_1151) (fun _ h9 => h9) dX10_holds_19 ?_
  refine lv_iload_n hx hb dX10_holds_22 rfl (lv_at hl 1 rfl) ?_
  refine lv_iconst (v := 2) hx hb dX10_holds_23 (by decide) ?_
  refine lv_iadd hx hb dX10_holds_24 (lv_topi (fun v_11 e_v_11 => ?_))
  obtain ⟨t_v_11, r_v_11⟩ := tq_add (lo := 176) (hi := 408) r_v_7 rl_2 (by decide +kernel) e_v_11
  have t_v_11 : v_11.toInt = v_7.toInt + 2 := t_v_11
  refine tg_iald (lo := (-2147483648)) (hi := 2147483647) hx hb hK hw h_vu_8 rfl 176 408 r_v_11 (by decide) (by decide +kernel) dX10_holds_25 (fun v_12 r_v_12 m_v_12 o_v_12 => ?_)
  refine lv_istore (lv' := [(5, .int v_12), (4, .int v_10), (3, .int v_7), (0, .ref p0), (1, .int p1), (2, .int p2)]) hx hb dX10_holds_26 hl (by decide) rfl (fun ls hl => ?_)
  refine lv_aload_n hx hb dX10_holds_28 rfl (lv_at hl 3 rfl) ?_
  refine tg_mem (ci := 10) (C := RX10) (T := TX10) (N := 49) hx hb hts inX10 hown hK hw 14 m_u_8 rfl (by decide) (hts _ tw_1151) (fun _ h9 => h9) dX10_holds_29 ?_
  refine lv_iload_n hx hb dX10_holds_32 rfl (lv_at hl 2 rfl) ?_
  refine tg_iald (lo := (-2147483648)) (hi := 2147483647) hx hb hK hw h_vu_8 rfl 174 406 r_v_7 (by decide) (by decide +kernel) dX10_holds_33 (fun v_13 r_v_13 m_v_13 o_v_13 => ?_)
  by_cases k_34_1 : v_13 = 1
  · refine lv_lookup (tgt := 108) (off := 74) hx hb dX10_holds_34 (by decide) (by rw [k_34_1]; decide) (by decide) ?_
    have r_v_13 : RI v_13 1 1 := by rw [k_34_1]; exact rl_1
    have g_v_10 : 0 ≤ v_10.toInt ∧ v_10.toInt < p1.toInt := by obtain ⟨_, f9, e8, e7, q9, _⟩ := ax_of (k := 14) (t := 34) hw h_p0 rfl (fun _ => rfl); cases FLD.inj hw.2.2.1 e8 m_u_8; have t9 := ARR.ael hw.2.2.1 e7 m_v_13; have x9 := ARR.ael hw.2.2.1 e7 m_v_10; rw [show Int32.toNatClampNeg v_7 = 174 + 4 * Int32.toNatClampNeg p1 from (by have k1 := r_v_7.cl (by decide); have k2 := r_p1.cl (by decide); omega)] at t9; rw [show Int32.toNatClampNeg v_9 = 175 + 4 * Int32.toNatClampNeg p1 from (by have k1 := r_v_9.cl (by decide); have k2 := r_p1.cl (by decide); omega)] at x9; exact RN_child q9 (r_p1.to (by decide)) t9 x9 (r_v_13.to (by decide))
    have r_v_10 : RI v_10 0 57 := ⟨g_v_10.1, by have k1 := r_p1.2; omega⟩
    refine lv_aload_n hx hb dX10_holds_108 rfl (lv_at hl 3 rfl) ?_
    refine lv_iload hx hb dX10_holds_109 (lv_at hl 1 rfl) ?_
    refine lv_iload_n hx hb dX10_holds_111 rfl (lv_at hl 5 rfl) ?_
    refine tk_ir (va_runV (As := [.int v_10, .int p2]) (rest := []) ⟨hx, hb, hml, hown, hts⟩ (c_X10_holds__2 l D cy z s.heap.size Ps w0 hw.1 p0 v_10 p2 h_p0 r_v_10 r_p2) (cwV 2 hts (gV tw_1787 tw_1789 ts_119 tw_15 tw_1790) rfl rfl rfl (by decide +kernel) ⟨Nat.le_of_ble_eq_true rfl, Nat.le_of_ble_eq_true rfl⟩) (tg_preV hw hK hSD hA (ci := 10) (q := (RX10, TX10, 49)) rfl h_p0 rfl) rfl rfl hl.1 rfl (lv_room (Nat.le_of_ble_eq_true rfl)) dX10_holds_112 ⟨Nat.le_of_ble_eq_true rfl, Nat.le_of_ble_eq_true rfl⟩) hw hA (fun v_14  H locs hp_v_14 hw => ?_)
    have r_v_14 : RI v_14 0 1 := hp_v_14.1
    refine lv_if_ne (tgt := 122) hx hb dX10_holds_115 (by decide) (fun c_115 => ?_) (fun c_115 => ?_)
    · have r_v_14 : RI v_14 1 1 := rc_neL r_v_14 rl_0 (ti_ne c_115) (by decide)
      refine lv_iconst (v := 0) hx hb dX10_holds_122 (by decide) ?_
      subst hQ
      exact W.zret (v := 0) hx hb hr (rfl) (fun t ht hW => ⟨⟨0, (), rfl, ⟨rl_0.to (by decide), (fun h0 => trivial), (fun _ => trivial)⟩, by rw [ht]; exact hw.2.1, va_K.moved hW.alike hK, hw.2.2.1⟩, hw.2.2.2.1.F ht⟩) hw.2.2.2.1.2.2 dX10_holds_123
    · have r_v_14 : RI v_14 0 0 := rc_eq1 r_v_14 rl_0 (ti_eq c_115) (by decide)
      refine lv_iconst (v := 1) hx hb dX10_holds_118 (by decide) ?_
      refine lv_goto (tgt := 123) hx hb dX10_holds_119 (by decide) ?_
      subst hQ
      exact W.zret (v := 1) hx hb hr (rfl) (fun t ht hW => ⟨⟨1, (), rfl, ⟨rl_1.to (by decide), (fun _ => trivial), (fun h0 => trivial)⟩, by rw [ht]; exact hw.2.1, va_K.moved hW.alike hK, hw.2.2.1⟩, hw.2.2.2.1.F ht⟩) hw.2.2.2.1.2.2 dX10_holds_123
  · by_cases k_34_2 : v_13 = 2
    · refine lv_lookup (tgt := 124) (off := 90) hx hb dX10_holds_34 (by decide) (by rw [k_34_2]; decide) (by decide) ?_
      have r_v_13 : RI v_13 2 2 := by rw [k_34_2]; exact rl_2
      have g_v_10 : 0 ≤ v_10.toInt ∧ v_10.toInt < p1.toInt := by obtain ⟨_, f9, e8, e7, q9, _⟩ := ax_of (k := 14) (t := 34) hw h_p0 rfl (fun _ => rfl); cases FLD.inj hw.2.2.1 e8 m_u_8; have t9 := ARR.ael hw.2.2.1 e7 m_v_13; have x9 := ARR.ael hw.2.2.1 e7 m_v_10; rw [show Int32.toNatClampNeg v_7 = 174 + 4 * Int32.toNatClampNeg p1 from (by have k1 := r_v_7.cl (by decide); have k2 := r_p1.cl (by decide); omega)] at t9; rw [show Int32.toNatClampNeg v_9 = 175 + 4 * Int32.toNatClampNeg p1 from (by have k1 := r_v_9.cl (by decide); have k2 := r_p1.cl (by decide); omega)] at x9; exact RN_child q9 (r_p1.to (by decide)) t9 x9 (r_v_13.to (by decide))
      have r_v_10 : RI v_10 0 57 := ⟨g_v_10.1, by have k1 := r_p1.2; omega⟩
      have g_v_12 : 0 ≤ v_12.toInt ∧ v_12.toInt < p1.toInt := by obtain ⟨_, f9, e8, e7, q9, _⟩ := ax_of (k := 14) (t := 34) hw h_p0 rfl (fun _ => rfl); cases FLD.inj hw.2.2.1 e8 m_u_8; have t9 := ARR.ael hw.2.2.1 e7 m_v_13; have x9 := ARR.ael hw.2.2.1 e7 m_v_12; rw [show Int32.toNatClampNeg v_7 = 174 + 4 * Int32.toNatClampNeg p1 from (by have k1 := r_v_7.cl (by decide); have k2 := r_p1.cl (by decide); omega)] at t9; rw [show Int32.toNatClampNeg v_11 = 176 + 4 * Int32.toNatClampNeg p1 from (by have k1 := r_v_11.cl (by decide); have k2 := r_p1.cl (by decide); omega)] at x9; exact RN_child2 q9 (r_p1.to (by decide)) t9 x9 (r_v_13.to (by decide))
      have r_v_12 : RI v_12 0 57 := ⟨g_v_12.1, by have k1 := r_p1.2; omega⟩
      refine lv_aload_n hx hb dX10_holds_124 rfl (lv_at hl 3 rfl) ?_
      refine lv_iload hx hb dX10_holds_125 (lv_at hl 1 rfl) ?_
      refine lv_iload_n hx hb dX10_holds_127 rfl (lv_at hl 5 rfl) ?_
      refine tk_ir (va_runV (As := [.int v_10, .int p2]) (rest := []) ⟨hx, hb, hml, hown, hts⟩ (c_X10_holds__2 l D cy z s.heap.size Ps w0 hw.1 p0 v_10 p2 h_p0 r_v_10 r_p2) (cwV 2 hts (gV tw_1787 tw_1789 ts_119 tw_15 tw_1790) rfl rfl rfl (by decide +kernel) ⟨Nat.le_of_ble_eq_true rfl, Nat.le_of_ble_eq_true rfl⟩) (tg_preV hw hK hSD hA (ci := 10) (q := (RX10, TX10, 49)) rfl h_p0 rfl) rfl rfl hl.1 rfl (lv_room (Nat.le_of_ble_eq_true rfl)) dX10_holds_128 ⟨Nat.le_of_ble_eq_true rfl, Nat.le_of_ble_eq_true rfl⟩) hw hA (fun v_15  H locs hp_v_15 hw => ?_)
      have r_v_15 : RI v_15 0 1 := hp_v_15.1
      refine lv_if_eq (tgt := 148) hx hb dX10_holds_131 (by decide) (fun c_131 => ?_) (fun c_131 => ?_)
      · have r_v_15 : RI v_15 0 0 := rc_eq1 r_v_15 rl_0 (ti_eq c_131) (by decide)
        refine lv_iconst (v := 0) hx hb dX10_holds_148 (by decide) ?_
        subst hQ
        exact W.zret (v := 0) hx hb hr (rfl) (fun t ht hW => ⟨⟨0, (), rfl, ⟨rl_0.to (by decide), (fun h0 => trivial), (fun _ => trivial)⟩, by rw [ht]; exact hw.2.1, va_K.moved hW.alike hK, hw.2.2.1⟩, hw.2.2.2.1.F ht⟩) hw.2.2.2.1.2.2 dX10_holds_149
      · have r_v_15 : RI v_15 1 1 := rc_neL r_v_15 rl_0 (ti_ne c_131) (by decide)
        refine lv_aload_n hx hb dX10_holds_134 rfl (lv_at hl 3 rfl) ?_
        refine lv_iload hx hb dX10_holds_135 (lv_at hl 0 rfl) ?_
        refine lv_iload_n hx hb dX10_holds_137 rfl (lv_at hl 5 rfl) ?_
        refine tk_ir (va_runV (As := [.int v_12, .int p2]) (rest := []) ⟨hx, hb, hml, hown, hts⟩ (c_X10_holds__2 l D cy z H.size Ps w0 hw.1 p0 v_12 p2 h_p0 r_v_12 r_p2) (cwV 2 hts (gV tw_1787 tw_1789 ts_119 tw_15 tw_1790) rfl rfl rfl (by decide +kernel) ⟨Nat.le_of_ble_eq_true rfl, Nat.le_of_ble_eq_true rfl⟩) (tg_preV hw hK hSD hA (ci := 10) (q := (RX10, TX10, 49)) rfl h_p0 rfl) rfl rfl hl.1 rfl (lv_room (Nat.le_of_ble_eq_true rfl)) dX10_holds_138 ⟨Nat.le_of_ble_eq_true rfl, Nat.le_of_ble_eq_true rfl⟩) hw hA (fun v_16  H locs hp_v_16 hw => ?_)
        have r_v_16 : RI v_16 0 1 := hp_v_16.1
        refine lv_if_eq (tgt := 148) hx hb dX10_holds_141 (by decide) (fun c_141 => ?_) (fun c_141 => ?_)
        · have r_v_16 : RI v_16 0 0 := rc_eq1 r_v_16 rl_0 (ti_eq c_141) (by decide)
          refine lv_iconst (v := 0) hx hb dX10_holds_148 (by decide) ?_
          subst hQ
          exact W.zret (v := 0) hx hb hr (rfl) (fun t ht hW => ⟨⟨0, (), rfl, ⟨rl_0.to (by decide), (fun h0 => trivial), (fun _ => trivial)⟩, by rw [ht]; exact hw.2.1, va_K.moved hW.alike hK, hw.2.2.1⟩, hw.2.2.2.1.F ht⟩) hw.2.2.2.1.2.2 dX10_holds_149
        · have r_v_16 : RI v_16 1 1 := rc_neL r_v_16 rl_0 (ti_ne c_141) (by decide)
          refine lv_iconst (v := 1) hx hb dX10_holds_144 (by decide) ?_
          refine lv_goto (tgt := 149) hx hb dX10_holds_145 (by decide) ?_
          subst hQ
          exact W.zret (v := 1) hx hb hr (rfl) (fun t ht hW => ⟨⟨1, (), rfl, ⟨rl_1.to (by decide), (fun _ => trivial), (fun h0 => trivial)⟩, by rw [ht]; exact hw.2.1, va_K.moved hW.alike hK, hw.2.2.1⟩, hw.2.2.2.1.F ht⟩) hw.2.2.2.1.2.2 dX10_holds_149
    · by_cases k_34_3 : v_13 = 3
      · refine lv_lookup (tgt := 150) (off := 116) hx hb dX10_holds_34 (by decide) (by rw [k_34_3]; decide) (by decide) ?_
        have r_v_13 : RI v_13 3 3 := by rw [k_34_3]; exact rl_3
        have g_v_10 : 0 ≤ v_10.toInt ∧ v_10.toInt < p1.toInt := by obtain ⟨_, f9, e8, e7, q9, _⟩ := ax_of (k := 14) (t := 34) hw h_p0 rfl (fun _ => rfl); cases FLD.inj hw.2.2.1 e8 m_u_8; have t9 := ARR.ael hw.2.2.1 e7 m_v_13; have x9 := ARR.ael hw.2.2.1 e7 m_v_10; rw [show Int32.toNatClampNeg v_7 = 174 + 4 * Int32.toNatClampNeg p1 from (by have k1 := r_v_7.cl (by decide); have k2 := r_p1.cl (by decide); omega)] at t9; rw [show Int32.toNatClampNeg v_9 = 175 + 4 * Int32.toNatClampNeg p1 from (by have k1 := r_v_9.cl (by decide); have k2 := r_p1.cl (by decide); omega)] at x9; exact RN_child q9 (r_p1.to (by decide)) t9 x9 (r_v_13.to (by decide))
        have r_v_10 : RI v_10 0 57 := ⟨g_v_10.1, by have k1 := r_p1.2; omega⟩
        have g_v_12 : 0 ≤ v_12.toInt ∧ v_12.toInt < p1.toInt := by obtain ⟨_, f9, e8, e7, q9, _⟩ := ax_of (k := 14) (t := 34) hw h_p0 rfl (fun _ => rfl); cases FLD.inj hw.2.2.1 e8 m_u_8; have t9 := ARR.ael hw.2.2.1 e7 m_v_13; have x9 := ARR.ael hw.2.2.1 e7 m_v_12; rw [show Int32.toNatClampNeg v_7 = 174 + 4 * Int32.toNatClampNeg p1 from (by have k1 := r_v_7.cl (by decide); have k2 := r_p1.cl (by decide); omega)] at t9; rw [show Int32.toNatClampNeg v_11 = 176 + 4 * Int32.toNatClampNeg p1 from (by have k1 := r_v_11.cl (by decide); have k2 := r_p1.cl (by decide); omega)] at x9; exact RN_child2 q9 (r_p1.to (by decide)) t9 x9 (r_v_13.to (by decide))
        have r_v_12 : RI v_12 0 57 := ⟨g_v_12.1, by have k1 := r_p1.2; omega⟩
        refine lv_aload_n hx hb dX10_holds_150 rfl (lv_at hl 3 rfl) ?_
        refine lv_iload hx hb dX10_holds_151 (lv_at hl 1 rfl) ?_
        refine lv_iload_n hx hb dX10_holds_153 rfl (lv_at hl 5 rfl) ?_
        refine tk_ir (va_runV (As := [.int v_10, .int p2]) (rest := []) ⟨hx, hb, hml, hown, hts⟩ (c_X10_holds__2 l D cy z s.heap.size Ps w0 hw.1 p0 v_10 p2 h_p0 r_v_10 r_p2) (cwV 2 hts (gV tw_1787 tw_1789 ts_119 tw_15 tw_1790) rfl rfl rfl (by decide +kernel) ⟨Nat.le_of_ble_eq_true rfl, Nat.le_of_ble_eq_true rfl⟩) (tg_preV hw hK hSD hA (ci := 10) (q := (RX10, TX10, 49)) rfl h_p0 rfl) rfl rfl hl.1 rfl (lv_room (Nat.le_of_ble_eq_true rfl)) dX10_holds_154 ⟨Nat.le_of_ble_eq_true rfl, Nat.le_of_ble_eq_true rfl⟩) hw hA (fun v_17  H locs hp_v_17 hw => ?_)
        have r_v_17 : RI v_17 0 1 := hp_v_17.1
        refine lv_if_ne (tgt := 170) hx hb dX10_holds_157 (by decide) (fun c_157 => ?_) (fun c_157 => ?_)
        · have r_v_17 : RI v_17 1 1 := rc_neL r_v_17 rl_0 (ti_ne c_157) (by decide)
          refine lv_iconst (v := 1) hx hb dX10_holds_170 (by decide) ?_
          refine lv_goto (tgt := 175) hx hb dX10_holds_171 (by decide) ?_
          subst hQ
          exact W.zret (v := 1) hx hb hr (rfl) (fun t ht hW => ⟨⟨1, (), rfl, ⟨rl_1.to (by decide), (fun _ => trivial), (fun h0 => trivial)⟩, by rw [ht]; exact hw.2.1, va_K.moved hW.alike hK, hw.2.2.1⟩, hw.2.2.2.1.F ht⟩) hw.2.2.2.1.2.2 dX10_holds_175
        · have r_v_17 : RI v_17 0 0 := rc_eq1 r_v_17 rl_0 (ti_eq c_157) (by decide)
          refine lv_aload_n hx hb dX10_holds_160 rfl (lv_at hl 3 rfl) ?_
          refine lv_iload hx hb dX10_holds_161 (lv_at hl 0 rfl) ?_
          refine lv_iload_n hx hb dX10_holds_163 rfl (lv_at hl 5 rfl) ?_
          refine tk_ir (va_runV (As := [.int v_12, .int p2]) (rest := []) ⟨hx, hb, hml, hown, hts⟩ (c_X10_holds__2 l D cy z H.size Ps w0 hw.1 p0 v_12 p2 h_p0 r_v_12 r_p2) (cwV 2 hts (gV tw_1787 tw_1789 ts_119 tw_15 tw_1790) rfl rfl rfl (by decide +kernel) ⟨Nat.le_of_ble_eq_true rfl, Nat.le_of_ble_eq_true rfl⟩) (tg_preV hw hK hSD hA (ci := 10) (q := (RX10, TX10, 49)) rfl h_p0 rfl) rfl rfl hl.1 rfl (lv_room (Nat.le_of_ble_eq_true rfl)) dX10_holds_164 ⟨Nat.le_of_ble_eq_true rfl, Nat.le_of_ble_eq_true rfl⟩) hw hA (fun v_18  H locs hp_v_18 hw => ?_)
          have r_v_18 : RI v_18 0 1 := hp_v_18.1
          refine lv_if_eq (tgt := 174) hx hb dX10_holds_167 (by decide) (fun c_167 => ?_) (fun c_167 => ?_)
          · have r_v_18 : RI v_18 0 0 := rc_eq1 r_v_18 rl_0 (ti_eq c_167) (by decide)
            refine lv_iconst (v := 0) hx hb dX10_holds_174 (by decide) ?_
            subst hQ
            exact W.zret (v := 0) hx hb hr (rfl) (fun t ht hW => ⟨⟨0, (), rfl, ⟨rl_0.to (by decide), (fun h0 => trivial), (fun _ => trivial)⟩, by rw [ht]; exact hw.2.1, va_K.moved hW.alike hK, hw.2.2.1⟩, hw.2.2.2.1.F ht⟩) hw.2.2.2.1.2.2 dX10_holds_175
          · have r_v_18 : RI v_18 1 1 := rc_neL r_v_18 rl_0 (ti_ne c_167) (by decide)
            refine lv_iconst (v := 1) hx hb dX10_holds_170 (by decide) ?_
            refine lv_goto (tgt := 175) hx hb dX10_holds_171 (by decide) ?_
            subst hQ
            exact W.zret (v := 1) hx hb hr (rfl) (fun t ht hW => ⟨⟨1, (), rfl, ⟨rl_1.to (by decide), (fun _ => trivial), (fun h0 => trivial)⟩, by rw [ht]; exact hw.2.1, va_K.moved hW.alike hK, hw.2.2.1⟩, hw.2.2.2.1.F ht⟩) hw.2.2.2.1.2.2 dX10_holds_175
      · by_cases k_34_69 : v_13 = 69
        · refine lv_lookup (tgt := 176) (off := 142) hx hb dX10_holds_34 (by decide) (by rw [k_34_69]; decide) (by decide) ?_
          have r_v_13 : RI v_13 69 69 := by rw [k_34_69]; exact rl_69
          refine lv_aload_n hx hb dX10_holds_176 rfl (lv_at hl 3 rfl) ?_
          refine lv_iload_n hx hb dX10_holds_177 rfl (lv_at hl 5 rfl) ?_
          refine tk_ir (va_runV (As := [.int p2]) (rest := []) ⟨hx, hb, hml, hown, hts⟩ (c_X10_isOpen l D cy z s.heap.size Ps w0 hw.1 p0 p2 h_p0 (r_p2.to (by decide))) (cwV 1 hts (gV tw_1457 tw_1459 ts_71 tw_15 tw_1460) rfl rfl rfl (by decide +kernel) ⟨Nat.le_of_ble_eq_true rfl, Nat.le_of_ble_eq_true rfl⟩) (tg_preV hw hK hSD hA (ci := 10) (q := (RX10, TX10, 49)) rfl h_p0 rfl) rfl rfl hl.1 rfl (lv_room (Nat.le_of_ble_eq_true rfl)) dX10_holds_178 ⟨Nat.le_of_ble_eq_true rfl, Nat.le_of_ble_eq_true rfl⟩) hw hA (fun v_19  H locs hp_v_19 hw => ?_)
          have r_v_19 : RI v_19 0 1 := hp_v_19.1
          subst hQ
          exact W.zret (v := v_19) hx hb hr (tq_nz (r_v_19.to (by decide))) (fun t ht hW => ⟨⟨v_19, (), rfl, ⟨r_v_19.to (by decide), (fun h0 => trivial), (fun h0 => trivial)⟩, by rw [ht]; exact hw.2.1, va_K.moved hW.alike hK, hw.2.2.1⟩, hw.2.2.2.1.F ht⟩) hw.2.2.2.1.2.2 dX10_holds_181
        · by_cases k_34_70 : v_13 = 70
          · refine lv_lookup (tgt := 182) (off := 148) hx hb dX10_holds_34 (by decide) (by rw [k_34_70]; decide) (by decide) ?_
            have r_v_13 : RI v_13 70 70 := by rw [k_34_70]; exact rl_70
            refine lv_aload_n hx hb dX10_holds_182 rfl (lv_at hl 3 rfl) ?_
            refine lv_iload_n hx hb dX10_holds_183 rfl (lv_at hl 5 rfl) ?_
            refine tk_ir (va_runV (As := [.int p2]) (rest := []) ⟨hx, hb, hml, hown, hts⟩ (c_X10_whatIs l D cy z s.heap.size Ps w0 hw.1 p0 p2 h_p0 r_p2) (cwV 1 hts (gV tw_1449 tw_1451 ts_69 tw_15 tw_1452) rfl rfl rfl (by decide +kernel) ⟨Nat.le_of_ble_eq_true rfl, Nat.le_of_ble_eq_true rfl⟩) (tg_preV hw hK hSD hA (ci := 10) (q := (RX10, TX10, 49)) rfl h_p0 rfl) rfl rfl hl.1 rfl (lv_room (Nat.le_of_ble_eq_true rfl)) dX10_holds_184 ⟨Nat.le_of_ble_eq_true rfl, Nat.le_of_ble_eq_true rfl⟩) hw hA (fun v_20  H locs hp_v_20 hw => ?_)
            have r_v_20 : RI v_20 (-1) 5 := hp_v_20.1
            by_cases c9_v_20 : v_20.toInt < 0
            · have r_v_20 : RI v_20 (-1) (-1) := by unfold RI at r_v_20 ⊢; omega
              have x_NB_p0_p2 := (hp_v_20.2.2.2.2.1 (by omega)).1
              refine lv_iconst (v := (-1)) hx hb dX10_holds_187 (by decide) ?_
              refine lv_icmp_ne (tgt := 195) hx hb dX10_holds_188 (by decide) (fun c_188 => ?_) (fun c_188 => ?_)
              · exact absurd (r_v_20.eq.trans rl_m1.eq.symm) ((ti_ne c_188))
              · refine lv_iconst (v := 1) hx hb dX10_holds_191 (by decide) ?_
                refine lv_goto (tgt := 196) hx hb dX10_holds_192 (by decide) ?_
                subst hQ
                exact W.zret (v := 1) hx hb hr (rfl) (fun t ht hW => ⟨⟨1, (), rfl, ⟨rl_1.to (by decide), (fun _ => trivial), (fun h0 => trivial)⟩, by rw [ht]; exact hw.2.1, va_K.moved hW.alike hK, hw.2.2.1⟩, hw.2.2.2.1.F ht⟩) hw.2.2.2.1.2.2 dX10_holds_196
            · have r_v_20 : RI v_20 0 5 := by unfold RI at r_v_20 ⊢; omega
              have x_WB_p0_p2_v_20 := (hp_v_20.2.2.2.2.2 (by omega)).1
              refine lv_iconst (v := (-1)) hx hb dX10_holds_187 (by decide) ?_
              refine lv_icmp_ne (tgt := 195) hx hb dX10_holds_188 (by decide) (fun c_188 => ?_) (fun c_188 => ?_)
              · refine lv_iconst (v := 0) hx hb dX10_holds_195 (by decide) ?_
                subst hQ
                exact W.zret (v := 0) hx hb hr (rfl) (fun t ht hW => ⟨⟨0, (), rfl, ⟨rl_0.to (by decide), (fun h0 => trivial), (fun _ => trivial)⟩, by rw [ht]; exact hw.2.1, va_K.moved hW.alike hK, hw.2.2.1⟩, hw.2.2.2.1.F ht⟩) hw.2.2.2.1.2.2 dX10_holds_196
              · have r_v_20 : RI v_20 0 (-1) := rc_eq1 r_v_20 rl_m1 (ti_eq c_188) (by decide)
                exact (r_v_20.no (by decide)).elim
          · by_cases k_34_71 : v_13 = 71
            · refine lv_lookup (tgt := 197) (off := 163) hx hb dX10_holds_34 (by decide) (by rw [k_34_71]; decide) (by decide) ?_
              have r_v_13 : RI v_13 71 71 := by rw [k_34_71]; exact rl_71
              refine lv_aload_n hx hb dX10_holds_197 rfl (lv_at hl 3 rfl) ?_
              refine lv_iload_n hx hb dX10_holds_198 rfl (lv_at hl 5 rfl) ?_
              refine tk_ir (va_runV (As := [.int p2]) (rest := []) ⟨hx, hb, hml, hown, hts⟩ (c_X10_sittersOf l D cy z s.heap.size Ps w0 hw.1 p0 p2 h_p0 (r_p2.to (by decide))) (cwV 1 hts (gV tw_1461 tw_1463 ts_72 tw_15 tw_1464) rfl rfl rfl (by decide +kernel) ⟨Nat.le_of_ble_eq_true rfl, Nat.le_of_ble_eq_true rfl⟩) (tg_preV hw hK hSD hA (ci := 10) (q := (RX10, TX10, 49)) rfl h_p0 rfl) rfl rfl hl.1 rfl (lv_room (Nat.le_of_ble_eq_true rfl)) dX10_holds_199 ⟨Nat.le_of_ble_eq_true rfl, Nat.le_of_ble_eq_true rfl⟩) hw hA (fun v_21  H locs hp_v_21 hw => ?_)
              have r_v_21 : RI v_21 (-2147483648) 2147483647 := hp_v_21.1
              refine lv_if_eq (tgt := 209) hx hb dX10_holds_202 (by decide) (fun c_202 => ?_) (fun c_202 => ?_)
              · have r_v_21 : RI v_21 0 0 := rc_eq1 r_v_21 rl_0 (ti_eq c_202) (by decide)
                refine lv_iconst (v := 0) hx hb dX10_holds_209 (by decide) ?_
                subst hQ
                exact W.zret (v := 0) hx hb hr (rfl) (fun t ht hW => ⟨⟨0, (), rfl, ⟨rl_0.to (by decide), (fun h0 => trivial), (fun _ => trivial)⟩, by rw [ht]; exact hw.2.1, va_K.moved hW.alike hK, hw.2.2.1⟩, hw.2.2.2.1.F ht⟩) hw.2.2.2.1.2.2 dX10_holds_210
              · refine lv_iconst (v := 1) hx hb dX10_holds_205 (by decide) ?_
                refine lv_goto (tgt := 210) hx hb dX10_holds_206 (by decide) ?_
                subst hQ
                exact W.zret (v := 1) hx hb hr (rfl) (fun t ht hW => ⟨⟨1, (), rfl, ⟨rl_1.to (by decide), (fun _ => trivial), (fun h0 => trivial)⟩, by rw [ht]; exact hw.2.1, va_K.moved hW.alike hK, hw.2.2.1⟩, hw.2.2.2.1.F ht⟩) hw.2.2.2.1.2.2 dX10_holds_210
            · by_cases k_34_72 : v_13 = 72
              · refine lv_lookup (tgt := 211) (off := 177) hx hb dX10_holds_34 (by decide) (by rw [k_34_72]; decide) (by decide) ?_
                have r_v_13 : RI v_13 72 72 := by rw [k_34_72]; exact rl_72
                refine lv_aload_n hx hb dX10_holds_211 rfl (lv_at hl 3 rfl) ?_
                refine lv_iload_n hx hb dX10_holds_212 rfl (lv_at hl 5 rfl) ?_
                refine tk_ir (va_runV (As := [.int p2]) (rest := []) ⟨hx, hb, hml, hown, hts⟩ (c_X10_whatIs l D cy z s.heap.size Ps w0 hw.1 p0 p2 h_p0 r_p2) (cwV 1 hts (gV tw_1449 tw_1451 ts_69 tw_15 tw_1452) rfl rfl rfl (by decide +kernel) ⟨Nat.le_of_ble_eq_true rfl, Nat.le_of_ble_eq_true rfl⟩) (tg_preV hw hK hSD hA (ci := 10) (q := (RX10, TX10, 49)) rfl h_p0 rfl) rfl rfl hl.1 rfl (lv_room (Nat.le_of_ble_eq_true rfl)) dX10_holds_213 ⟨Nat.le_of_ble_eq_true rfl, Nat.le_of_ble_eq_true rfl⟩) hw hA (fun v_22  H locs hp_v_22 hw => ?_)
                have r_v_22 : RI v_22 (-1) 5 := hp_v_22.1
                by_cases c9_v_22 : v_22.toInt < 0
                · have r_v_22 : RI v_22 (-1) (-1) := by unfold RI at r_v_22 ⊢; omega
                  have x_NB_p0_p2 := (hp_v_22.2.2.2.2.1 (by omega)).1
                  refine lv_iload hx hb dX10_holds_216 (lv_at hl 1 rfl) ?_
                  refine lv_icmp_ne (tgt := 225) hx hb dX10_holds_218 (by decide) (fun c_218 => ?_) (fun c_218 => ?_)
                  · refine lv_iconst (v := 0) hx hb dX10_holds_225 (by decide) ?_
                    subst hQ
                    exact W.zret (v := 0) hx hb hr (rfl) (fun t ht hW => ⟨⟨0, (), rfl, ⟨rl_0.to (by decide), (fun h0 => trivial), (fun _ => trivial)⟩, by rw [ht]; exact hw.2.1, va_K.moved hW.alike hK, hw.2.2.1⟩, hw.2.2.2.1.F ht⟩) hw.2.2.2.1.2.2 dX10_holds_226
                  · have r_v_10 : RI v_10 (-1) (-1) := rc_eq2 r_v_22 r_v_10 (ti_eq c_218) (by decide)
                    refine lv_iconst (v := 1) hx hb dX10_holds_221 (by decide) ?_
                    refine lv_goto (tgt := 226) hx hb dX10_holds_222 (by decide) ?_
                    subst hQ
                    exact W.zret (v := 1) hx hb hr (rfl) (fun t ht hW => ⟨⟨1, (), rfl, ⟨rl_1.to (by decide), (fun _ => trivial), (fun h0 => trivial)⟩, by rw [ht]; exact hw.2.1, va_K.moved hW.alike hK, hw.2.2.1⟩, hw.2.2.2.1.F ht⟩) hw.2.2.2.1.2.2 dX10_holds_226
                · have r_v_22 : RI v_22 0 5 := by unfold RI at r_v_22 ⊢; omega
                  have x_WB_p0_p2_v_22 := (hp_v_22.2.2.2.2.2 (by omega)).1
                  refine lv_iload hx hb dX10_holds_216 (lv_at hl 1 rfl) ?_
                  refine lv_icmp_ne (tgt := 225) hx hb dX10_holds_218 (by decide) (fun c_218 => ?_) (fun c_218 => ?_)
                  · refine lv_iconst (v := 0) hx hb dX10_holds_225 (by decide) ?_
                    subst hQ
                    exact W.zret (v := 0) hx hb hr (rfl) (fun t ht hW => ⟨⟨0, (), rfl, ⟨rl_0.to (by decide), (fun h0 => trivial), (fun _ => trivial)⟩, by rw [ht]; exact hw.2.1, va_K.moved hW.alike hK, hw.2.2.1⟩, hw.2.2.2.1.F ht⟩) hw.2.2.2.1.2.2 dX10_holds_226
                  · have r_v_10 : RI v_10 0 5 := rc_eq2 r_v_22 r_v_10 (ti_eq c_218) (by decide)
                    refine lv_iconst (v := 1) hx hb dX10_holds_221 (by decide) ?_
                    refine lv_goto (tgt := 226) hx hb dX10_holds_222 (by decide) ?_
                    subst hQ
                    exact W.zret (v := 1) hx hb hr (rfl) (fun t ht hW => ⟨⟨1, (), rfl, ⟨rl_1.to (by decide), (fun _ => trivial), (fun h0 => trivial)⟩, by rw [ht]; exact hw.2.1, va_K.moved hW.alike hK, hw.2.2.1⟩, hw.2.2.2.1.F ht⟩) hw.2.2.2.1.2.2 dX10_holds_226
              · by_cases k_34_73 : v_13 = 73
                · refine lv_lookup (tgt := 227) (off := 193) hx hb dX10_holds_34 (by decide) (by rw [k_34_73]; decide) (by decide) ?_
                  have r_v_13 : RI v_13 73 73 := by rw [k_34_73]; exact rl_73
                  refine lv_aload_n hx hb dX10_holds_227 rfl (lv_at hl 3 rfl) ?_
                  refine tg_mem (ci := 10) (C := RX10) (T := TX10) (N := 49) hx hb hts inX10 hown hK hw 14 m_u_8 rfl (by decide) (hts _ tw_1151) (fun _ h9 => h9) dX10_holds_228 ?_
                  refine lv_bipush (v := 86) hx hb dX10_holds_231 (by decide) ?_
                  refine lv_iload_n hx hb dX10_holds_233 rfl (lv_at hl 5 rfl) ?_
                  refine lv_iadd hx hb dX10_holds_234 (lv_topi (fun v_23 e_v_23 => ?_))
                  obtain ⟨t_v_23, r_v_23⟩ := tq_add (lo := 86) (hi := 91) rl_86 r_p2 (by decide +kernel) e_v_23
                  have t_v_23 : v_23.toInt = 86 + p2.toInt := t_v_23
                  refine tg_iald (lo := (-2147483648)) (hi := 2147483647) hx hb hK hw h_vu_8 rfl 86 91 r_v_23 (by decide) (by decide +kernel) dX10_holds_235 (fun v_24 r_v_24 m_v_24 o_v_24 => ?_)
                  refine lv_iload hx hb dX10_holds_236 (lv_at hl 1 rfl) ?_
                  refine lv_icmp_ne (tgt := 245) hx hb dX10_holds_238 (by decide) (fun c_238 => ?_) (fun c_238 => ?_)
                  · refine lv_iconst (v := 0) hx hb dX10_holds_245 (by decide) ?_
                    subst hQ
                    exact W.zret (v := 0) hx hb hr (rfl) (fun t ht hW => ⟨⟨0, (), rfl, ⟨rl_0.to (by decide), (fun h0 => trivial), (fun _ => trivial)⟩, by rw [ht]; exact hw.2.1, va_K.moved hW.alike hK, hw.2.2.1⟩, hw.2.2.2.1.F ht⟩) hw.2.2.2.1.2.2 dX10_holds_246
                  · refine lv_iconst (v := 1) hx hb dX10_holds_241 (by decide) ?_
                    refine lv_goto (tgt := 246) hx hb dX10_holds_242 (by decide) ?_
                    subst hQ
                    exact W.zret (v := 1) hx hb hr (rfl) (fun t ht hW => ⟨⟨1, (), rfl, ⟨rl_1.to (by decide), (fun _ => trivial), (fun h0 => trivial)⟩, by rw [ht]; exact hw.2.1, va_K.moved hW.alike hK, hw.2.2.1⟩, hw.2.2.2.1.F ht⟩) hw.2.2.2.1.2.2 dX10_holds_246
                · refine lv_lookup (tgt := 247) (off := 213) hx hb dX10_holds_34 (by decide) ((lv_osw k_34_1 (by decide)).trans ((lv_osw k_34_2 (by decide)).trans ((lv_osw k_34_3 (by decide)).trans ((lv_osw k_34_69 (by decide)).trans ((lv_osw k_34_70 (by decide)).trans ((lv_osw k_34_71 (by decide)).trans ((lv_osw k_34_72 (by decide)).trans ((lv_osw k_34_73 (by decide)).trans (rfl))))))))) (by decide) ?_
                  refine lv_aload_n hx hb dX10_holds_247 rfl (lv_at hl 3 rfl) ?_
                  refine tg_mem (ci := 10) (C := RX10) (T := TX10) (N := 49) hx hb hts inX10 hown hK hw 14 m_u_8 rfl (by decide) (hts _ tw_1151) (fun _ h9 => h9) dX10_holds_248 ?_
                  refine lv_iload_n hx hb dX10_holds_251 rfl (lv_at hl 2 rfl) ?_
                  refine tg_imem hx hb hK hw h_vu_8 rfl r_v_7 (by decide) m_v_13 dX10_holds_252 ?_
                  refine lv_bipush (v := 50) hx hb dX10_holds_253 (by decide) ?_
                  refine lv_isub hx hb dX10_holds_255 (lv_topi (fun v_26 e_v_26 => ?_))
                  have r_v_26 := ri_any v_26
                  refine lv_istore (lv' := [(6, .int v_26), (5, .int v_12), (4, .int v_10), (3, .int v_7), (0, .ref p0), (1, .int p1), (2, .int p2)]) hx hb dX10_holds_256 hl (by decide) rfl (fun ls hl => ?_)
                  refine lv_iload hx hb dX10_holds_258 (lv_at hl 0 rfl) ?_
                  refine lv_bipush (v := 24) hx hb dX10_holds_260 (by decide) ?_
                  refine lv_icmp_ne (tgt := 273) hx hb dX10_holds_262 (by decide) (fun c_262 => ?_) (fun c_262 => ?_)
                  · refine lv_iload hx hb dX10_holds_273 (lv_at hl 0 rfl) ?_
                    refine lv_bipush (v := 25) hx hb dX10_holds_275 (by decide) ?_
                    refine lv_icmp_ne (tgt := 292) hx hb dX10_holds_277 (by decide) (fun c_277 => ?_) (fun c_277 => ?_)
                    · refine lv_iload hx hb dX10_holds_292 (lv_at hl 0 rfl) ?_
                      refine lv_bipush (v := 26) hx hb dX10_holds_294 (by decide) ?_
                      refine lv_icmp_ne (tgt := 311) hx hb dX10_holds_296 (by decide) (fun c_296 => ?_) (fun c_296 => ?_)
                      · refine lv_iload_n hx hb dX10_holds_311 rfl (lv_at hl 6 rfl) ?_
                        exact B312 v_7 v_10 v_12 v_26 p2 _ _ ls r_p1 r_p2 r_v_7 r_v_10 r_v_12 r_v_26 (r_p2.to (by decide)) hw (lv_sub hl [4, 5, 6, 3, 2, 1, 0] rfl)
                      · have r_v_26 : RI v_26 26 26 := rc_eq1 r_v_26 rl_26 (ti_eq c_296) (by decide)
                        refine lv_aload_n hx hb dX10_holds_299 rfl (lv_at hl 4 rfl) ?_
                        refine tg_mem (ci := 10) (C := RX10) (T := TX10) (N := 49) hx hb hts inX10 hown hK hw 14 m_u_8 rfl (by decide) (hts _ tw_1151) (fun _ h9 => h9) dX10_holds_300 ?_
                        refine lv_bipush (v := 98) hx hb dX10_holds_303 (by decide) ?_
                        refine lv_iload_n hx hb dX10_holds_305 rfl (lv_at hl 6 rfl) ?_
                        refine lv_iadd hx hb dX10_holds_306 (lv_topi (fun v_27 e_v_27 => ?_))
                        obtain ⟨t_v_27, r_v_27⟩ := tq_add (lo := 98) (hi := 103) rl_98 r_p2 (by decide +kernel) e_v_27
                        have t_v_27 : v_27.toInt = 98 + p2.toInt := t_v_27
                        refine tg_iald (lo := (-2147483648)) (hi := 2147483647) hx hb hK hw h_vu_8 rfl 98 103 r_v_27 (by decide) (by decide +kernel) dX10_holds_307 (fun v_28 r_v_28 m_v_28 o_v_28 => ?_)
                        refine lv_goto (tgt := 312) hx hb dX10_holds_308 (by decide) ?_
                        exact B312 v_7 v_10 v_12 v_26 v_28 _ _ ls r_p1 r_p2 r_v_7 r_v_10 r_v_12 (r_v_26.to (by decide)) r_v_28 hw (lv_sub hl [4, 5, 6, 3, 2, 1, 0] rfl)
                    · have r_v_26 : RI v_26 25 25 := rc_eq1 r_v_26 rl_25 (ti_eq c_277) (by decide)
                      refine lv_aload_n hx hb dX10_holds_280 rfl (lv_at hl 4 rfl) ?_
                      refine tg_mem (ci := 10) (C := RX10) (T := TX10) (N := 49) hx hb hts inX10 hown hK hw 14 m_u_8 rfl (by decide) (hts _ tw_1151) (fun _ h9 => h9) dX10_holds_281 ?_
                      refine lv_bipush (v := 92) hx hb dX10_holds_284 (by decide) ?_
                      refine lv_iload_n hx hb dX10_holds_286 rfl (lv_at hl 6 rfl) ?_
                      refine lv_iadd hx hb dX10_holds_287 (lv_topi (fun v_29 e_v_29 => ?_))
                      obtain ⟨t_v_29, r_v_29⟩ := tq_add (lo := 92) (hi := 97) rl_92 r_p2 (by decide +kernel) e_v_29
                      have t_v_29 : v_29.toInt = 92 + p2.toInt := t_v_29
                      refine tg_iald (lo := (-2147483648)) (hi := 2147483647) hx hb hK hw h_vu_8 rfl 92 97 r_v_29 (by decide) (by decide +kernel) dX10_holds_288 (fun v_30 r_v_30 m_v_30 o_v_30 => ?_)
                      refine lv_goto (tgt := 312) hx hb dX10_holds_289 (by decide) ?_
                      exact B312 v_7 v_10 v_12 v_26 v_30 _ _ ls r_p1 r_p2 r_v_7 r_v_10 r_v_12 (r_v_26.to (by decide)) r_v_30 hw (lv_sub hl [4, 5, 6, 3, 2, 1, 0] rfl)
                  · have r_v_26 : RI v_26 24 24 := rc_eq1 r_v_26 rl_24 (ti_eq c_262) (by decide)
                    refine lv_aload_n hx hb dX10_holds_265 rfl (lv_at hl 4 rfl) ?_
                    refine lv_iload_n hx hb dX10_holds_266 rfl (lv_at hl 6 rfl) ?_
                    refine tk_ir (va_runV (As := [.int p2]) (rest := []) ⟨hx, hb, hml, hown, hts⟩ (c_X10_sizeOf l D cy z s.heap.size Ps w0 hw.1 p0 p2 h_p0 r_p2) (cwV 1 hts (gV tw_1453 tw_1455 ts_70 tw_15 tw_1456) rfl rfl rfl (by decide +kernel) ⟨Nat.le_of_ble_eq_true rfl, Nat.le_of_ble_eq_true rfl⟩) (tg_preV hw hK hSD hA (ci := 10) (q := (RX10, TX10, 49)) rfl h_p0 rfl) rfl rfl hl.1 rfl (lv_room (Nat.le_of_ble_eq_true rfl)) dX10_holds_267 ⟨Nat.le_of_ble_eq_true rfl, Nat.le_of_ble_eq_true rfl⟩) hw hA (fun v_31  H locs hp_v_31 hw => ?_)
                    have r_v_31 : RI v_31 (-2147483648) 2147483647 := hp_v_31.1
                    refine lv_goto (tgt := 312) hx hb dX10_holds_270 (by decide) ?_
                    exact B312 v_7 v_10 v_12 v_26 v_31 _ _ ls r_p1 r_p2 r_v_7 r_v_10 r_v_12 (r_v_26.to (by decide)) r_v_31 hw (lv_sub hl [4, 5, 6, 3, 2, 1, 0] rfl)
abbrev wr_X10_holds : List (Nat × Nat) := []
abbrev wa_X10_holds : List Nat := []
set_option maxHeartbeats 4000000 in
set_option maxRecDepth 100000 in
theorem c_X10_holds (l : Launch) (D : va_G) (cy : Nat → ClassId) (z : Nat → Nat) (sz : Nat) (Ps : PSI) (w0 : va_W) (hT : HT cy GG Ps w0) (p0 : Nat) (p1 : Int32) (p2 : Int32) (h_p0 : (p0, 55) ∈ Ps) (r_p1 : RI p1 0 59) (r_p2 : RI p2 0 5) : Met l yX10_holds (Cond.code yX10_holds cX10_holds 8 (some .boolean) :: gT) ({ frames := 62, cells := 0, slots := 0, locals := 12400 } : Room) (va_Pc [.ref p0, .int p1, .int p2] (PRE D cy z w0 sz)) (va_Qi (fun (r : Int32) (u : Unit) => RI r 0 1 ∧ (r = 0 → True) ∧ (¬ r = 0 → True)) (BB D cy (va_A w0 sz) (fun (u : Unit) => w0)) (va_A w0 sz)) 0 0 (va_A w0 sz) := by
  refine Met.ofW (cc := cX10_holds) (maxL := 8) (ret := (some .boolean)) (by decide) rfl ?_
  intro p e s m args below meth c s₁ B hml hv
  obtain ⟨rfl, hsz, hP, hK, hD0, hSD⟩ := hv
  have hx := B.exec
  have hb := B.bytes
  have hr := B.returns
  have hlocks := B.notSynchronized
  have hts : ∀ w ∈ gT, w.before _ s = true := fun w h => atoms_spec (ws := Cond.code yX10_holds cX10_holds 8 (some .boolean) :: gT) B.pre w (List.mem_cons_of_mem _ h)
  have hown : s.vm.findClass RX10 = some m.cls := findClass_of_methodNamed B.named
  subst hsz
  have hD := hD0.self (sz := s.heap.size)
  generalize hAe : va_A w0 s.heap.size = A at hD hSD ⊢
  have hA : ∀ q : Nat, s.heap.size ≤ q → A q := fun q h => by rw [← hAe]; exact Or.inr h
  have hl := lv_entry ([.ref p0, .int p1, .int p2]) (n := 8) (Nat.le_of_ble_eq_true rfl)
  rw [lg_entry_eq]
  generalize (lg_sl ([.ref p0, .int p1, .int p2]) ++ List.replicate (8 - (lg_sl ([.ref p0, .int p1, .int p2])).length) Slot.unset).toArray = ls at hl ⊢
  have hl : lv_has ls 8 [(0, .ref p0), (1, .int p1), (2, .int p2)] := hl
  refine nameQ (fun Q hQ => ?_)
  have hw : WD D cy GG A s wr_X10_holds wa_X10_holds Ps w0 Ps w0 s.heap [] := ⟨hT, hP, hD, va_S.rf, FR.rf, hT.1, [], (List.append_nil _).symm⟩
  have B312 : ∀ (x3 : Int32) (x4 : Int32) (x5 : Int32) (x6 : Int32) (y0 : Int32) (H : Heap) (locs : List Loc) (ls : Array Slot), RI p1 0 59 → RI p2 0 5 → RI x3 174 410 → RI x4 (-2147483648) 2147483647 → RI x5 (-2147483648) 2147483647 → RI x6 (-2147483648) 2147483647 → RI y0 (-2147483648) 2147483647 → WD D cy GG A s wr_X10_holds wa_X10_holds Ps w0 Ps w0 H locs → lv_has ls 8 [(0, .ref p0), (1, .int p1), (2, .int p2), (3, .int x3), (4, .int x4), (5, .int x5), (6, .int x6)] → W p l e (headSpec (Cond.code yX10_holds cX10_holds 8 (some .boolean) :: gT) ({ frames := 62, cells := 0, slots := 0, locals := 12400 } : Room)).room s m ([.ref p0, .int p1, .int p2] : List Value).toArray below meth c H locs 0 0 Q (F0 m 312 ls [.int y0]) := by
    intro x3 x4 x5 x6 y0 H locs ls r_p1 r_p2 r_x3 r_x4 r_x5 r_x6 r_y0 hw hl
    refine lv_istore (lv' := [(7, .int y0), (0, .ref p0), (1, .int p1), (2, .int p2), (3, .int x3), (4, .int x4), (5, .int x5), (6, .int x6)]) hx hb dX10_holds_312 hl (by decide) rfl (fun ls hl => ?_)
    refine lv_aload_n hx hb dX10_holds_314 rfl (lv_at hl 1 rfl) ?_
    refine tg_get (ci := 10) (ts := ty_MODEL) (C := RX10) (T := TX10) (N := 49) hx hb hts inX10 hown hK hw h_p0 rfl rfl 14 (by decide) (hts _ tw_1151) (fun _ h9 => h9) (ft := vR 34) rfl dX10_holds_315 (fun u_1 hv_u_1 m_u_1 => ?_)
    obtain ⟨vu_1, rfl, h_vu_1⟩ := hv_u_1
    refine lv_iload_n hx hb dX10_holds_318 rfl (lv_at hl 4 rfl) ?_
    refine lv_iconst (v := 3) hx hb dX10_holds_319 (by decide) ?_
    refine lv_iadd hx hb dX10_holds_320 (lv_topi (fun v_2 e_v_2 => ?_))
    obtain ⟨t_v_2, r_v_2⟩ := tq_add (lo := 177) (hi := 413) r_x3 rl_3 (by decide +kernel) e_v_2
    have t_v_2 : v_2.toInt = x3.toInt + 3 := t_v_2
    refine tg_iald (lo := (-2147483648)) (hi := 2147483647) hx hb hK hw h_vu_1 rfl 177 413 r_v_2 (by decide) (by decide +kernel) dX10_holds_321 (fun v_3 r_v_3 m_v_3 o_v_3 => ?_)
    refine lv_bipush (v := 60) hx hb dX10_holds_322 (by decide) ?_
    refine lv_icmp_ne (tgt := 342) hx hb dX10_holds_324 (by decide) (fun c_324 => ?_) (fun c_324 => ?_)
    · refine lv_aload_n hx hb dX10_holds_342 rfl (lv_at hl 1 rfl) ?_
      refine tg_mem (ci := 10) (C := RX10) (T := TX10) (N := 49) hx hb hts inX10 hown hK hw 14 m_u_1 rfl (by decide) (hts _ tw_1151) (fun _ h9 => h9) dX10_holds_343 ?_
      refine lv_iload_n hx hb dX10_holds_346 rfl (lv_at hl 4 rfl) ?_
      refine lv_iconst (v := 3) hx hb dX10_holds_347 (by decide) ?_
      refine lv_iadd hx hb dX10_holds_348 (lv_topi (fun v_4 e_v_4 => ?_))
      obtain ⟨t_v_4, r_v_4⟩ := tq_add (lo := 177) (hi := 413) r_x3 rl_3 (by decide +kernel) e_v_4
      have t_v_4 : v_4.toInt = x3.toInt + 3 := t_v_4
      refine tg_iald (lo := (-2147483648)) (hi := 2147483647) hx hb hK hw h_vu_1 rfl 177 413 r_v_4 (by decide) (by decide +kernel) dX10_holds_349 (fun v_5 r_v_5 m_v_5 o_v_5 => ?_)
      refine lv_bipush (v := 61) hx hb dX10_holds_350 (by decide) ?_
      refine lv_icmp_ne (tgt := 370) hx hb dX10_holds_352 (by decide) (fun c_352 => ?_) (fun c_352 => ?_)
      · refine lv_iload hx hb dX10_holds_370 (lv_at hl 0 rfl) ?_
        refine lv_iload hx hb dX10_holds_372 (lv_at hl 6 rfl) ?_
        refine lv_icmp_le (tgt := 381) hx hb dX10_holds_374 (by decide) (fun c_374 => ?_) (fun c_374 => ?_)
        · refine lv_iconst (v := 0) hx hb dX10_holds_381 (by decide) ?_
          subst hQ
          exact W.zret (v := 0) hx hb hr (rfl) (fun t ht hW => ⟨⟨0, (), rfl, ⟨rl_0.to (by decide), (fun h0 => trivial), (fun _ => trivial)⟩, by rw [ht]; exact hw.2.1, va_K.moved hW.alike hK, hw.2.2.1⟩, hw.2.2.2.1.F ht⟩) hw.2.2.2.1.2.2 dX10_holds_382
        · have r_x5 : RI x5 (-2147483648) 2147483646 := rc_lt1 r_x5 r_y0 (ti_nle c_374) (by decide)
          have r_y0 : RI y0 (-2147483647) 2147483647 := rc_lt2 r_x5 r_y0 (ti_nle c_374) (by decide)
          refine lv_iconst (v := 1) hx hb dX10_holds_377 (by decide) ?_
          refine lv_goto (tgt := 382) hx hb dX10_holds_378 (by decide) ?_
          subst hQ
          exact W.zret (v := 1) hx hb hr (rfl) (fun t ht hW => ⟨⟨1, (), rfl, ⟨rl_1.to (by decide), (fun _ => trivial), (fun h0 => trivial)⟩, by rw [ht]; exact hw.2.1, va_K.moved hW.alike hK, hw.2.2.1⟩, hw.2.2.2.1.F ht⟩) hw.2.2.2.1.2.2 dX10_holds_382
      · have r_v_5 : RI v_5 61 61 := rc_eq1 r_v_5 rl_61 (ti_eq c_352) (by decide)
        refine lv_iload hx hb dX10_holds_355 (lv_at hl 0 rfl) ?_
        refine lv_iload hx hb dX10_holds_357 (lv_at hl 6 rfl) ?_
        refine lv_icmp_ne (tgt := 366) hx hb dX10_holds_359 (by decide) (fun c_359 => ?_) (fun c_359 => ?_)
        · refine lv_iconst (v := 0) hx hb dX10_holds_366 (by decide) ?_
          refine lv_goto (tgt := 382) hx hb dX10_holds_367 (by decide) ?_
          subst hQ
          exact W.zret (v := 0) hx hb hr (rfl) (fun t ht hW => ⟨⟨0, (), rfl, ⟨rl_0.to (by decide), (fun h0 => trivial), (fun _ => trivial)⟩, by rw [ht]; exact hw.2.1, va_K.moved hW.alike hK, hw.2.2.1⟩, hw.2.2.2.1.F ht⟩) hw.2.2.2.1.2.2 dX10_holds_382
        · refine lv_iconst (v := 1) hx hb dX10_holds_362 (by decide) ?_
          refine lv_goto (tgt := 382) hx hb dX10_holds_363 (by decide) ?_
          subst hQ
          exact W.zret (v := 1) hx hb hr (rfl) (fun t ht hW => ⟨⟨1, (), rfl, ⟨rl_1.to (by decide), (fun _ => trivial), (fun h0 => trivial)⟩, by rw [ht]; exact hw.2.1, va_K.moved hW.alike hK, hw.2.2.1⟩, hw.2.2.2.1.F ht⟩) hw.2.2.2.1.2.2 dX10_holds_382
    · have r_v_3 : RI v_3 60 60 := rc_eq1 r_v_3 rl_60 (ti_eq c_324) (by decide)
      refine lv_iload hx hb dX10_holds_327 (lv_at hl 0 rfl) ?_
      refine lv_iload hx hb dX10_holds_329 (lv_at hl 6 rfl) ?_
      refine lv_icmp_ge (tgt := 338) hx hb dX10_holds_331 (by decide) (fun c_331 => ?_) (fun c_331 => ?_)
      · refine lv_iconst (v := 0) hx hb dX10_holds_338 (by decide) ?_
        refine lv_goto (tgt := 382) hx hb dX10_holds_339 (by decide) ?_
        subst hQ
        exact W.zret (v := 0) hx hb hr (rfl) (fun t ht hW => ⟨⟨0, (), rfl, ⟨rl_0.to (by decide), (fun h0 => trivial), (fun _ => trivial)⟩, by rw [ht]; exact hw.2.1, va_K.moved hW.alike hK, hw.2.2.1⟩, hw.2.2.2.1.F ht⟩) hw.2.2.2.1.2.2 dX10_holds_382
      · have r_y0 : RI y0 (-2147483648) 2147483646 := rc_lt1 r_y0 r_x5 (ti_nle c_331) (by decide)
        have r_x5 : RI x5 (-2147483647) 2147483647 := rc_lt2 r_y0 r_x5 (ti_nle c_331) (by decide)
        refine lv_iconst (v := 1) hx hb dX10_holds_334 (by decide) ?_
        refine lv_goto (tgt := 382) hx hb dX10_holds_335 (by decide) ?_
        subst hQ
        exact W.zret (v := 1) hx hb hr (rfl) (fun t ht hW => ⟨⟨1, (), rfl, ⟨rl_1.to (by decide), (fun _ => trivial), (fun h0 => trivial)⟩, by rw [ht]; exact hw.2.1, va_K.moved hW.alike hK, hw.2.2.1⟩, hw.2.2.2.1.F ht⟩) hw.2.2.2.1.2.2 dX10_holds_382
  refine lv_sipush (v := 174) hx hb dX10_holds_0 (by decide) ?_
  refine lv_iconst (v := 4) hx hb dX10_holds_3 (by decide) ?_
  refine lv_iload_n hx hb dX10_holds_4 rfl (lv_at hl 1 rfl) ?_
  refine lv_imul hx hb dX10_holds_5 (lv_topi (fun v_6 e_v_6 => ?_))
  obtain ⟨t_v_6, r_v_6⟩ := tq_mul (lo := 0) (hi := 236) rl_4 r_p1 (by decide +kernel) e_v_6
  have t_v_6 : v_6.toInt = 4 * p1.toInt := t_v_6
  refine lv_iadd hx hb dX10_holds_6 (lv_topi (fun v_7 e_v_7 => ?_))
  obtain ⟨t_v_7, r_v_7⟩ := tq_add (lo := 174) (hi := 410) rl_174 r_v_6 (by decide +kernel) e_v_7
  have t_v_7 : v_7.toInt = 174 + v_6.toInt := t_v_7
  refine lv_istore_n (lv' := [(3, .int v_7), (0, .ref p0), (1, .int p1), (2, .int p2)]) hx hb dX10_holds_7 rfl hl (by decide) rfl (fun ls hl => ?_)
  refine lv_aload_n hx hb dX10_holds_8 rfl (lv_at hl 1 rfl) ?_
  refine tg_get (ci := 10) (ts := ty_MODEL) (C := RX10) (T := TX10) (N := 49) hx hb hts inX10 hown hK hw h_p0 rfl rfl 14 (by decide) (hts _ tw_1151) (fun _ h9 => h9) (ft := vR 34) rfl dX10_holds_9 (fun u_8 hv_u_8 m_u_8 => ?_)
  obtain ⟨vu_8, rfl, h_vu_8⟩ := hv_u_8
  refine lv_iload_n hx hb dX10_holds_12 rfl (lv_at hl 0 rfl) ?_
  refine lv_iconst (v := 1) hx hb dX10_holds_13 (by decide) ?_
  refine lv_iadd hx hb dX10_holds_14 (lv_topi (fun v_9 e_v_9 => ?_))
  obtain ⟨t_v_9, r_v_9⟩ := tq_add (lo := 175) (hi := 411) r_v_7 rl_1 (by decide +kernel) e_v_9
  have t_v_9 : v_9.toInt = v_7.toInt + 1 := t_v_9
  refine tg_iald (lo := (-2147483648)) (hi := 2147483647) hx hb hK hw h_vu_8 rfl 175 411 r_v_9 (by decide) (by decide +kernel) dX10_holds_15 (fun v_10 r_v_10 m_v_10 o_v_10 => ?_)
  refine lv_istore (lv' := [(4, .int v_10), (3, .int v_7), (0, .ref p0), (1, .int p1), (2, .int p2)]) hx hb dX10_holds_16 hl (by decide) rfl (fun ls hl => ?_)
  refine lv_aload_n hx hb dX10_holds_18 rfl (lv_at hl 2 rfl) ?_
  refine tg_mem (ci := 10) (C := RX10) (T := TX10) (N := 49) hx hb hts inX10 hown hK hw 14 m_u_8 rfl (by decide) (hts _ tw_1151) (fun _ h9 => h9) dX10_holds_19 ?_
  refine lv_iload_n hx hb dX10_holds_22 rfl (lv_at hl 1 rfl) ?_
  refine lv_iconst (v := 2) hx hb dX10_holds_23 (by decide) ?_
  refine lv_iadd hx hb dX10_holds_24 (lv_topi (fun v_11 e_v_11 => ?_))
  obtain ⟨t_v_11, r_v_11⟩ := tq_add (lo := 176) (hi := 412) r_v_7 rl_2 (by decide +kernel) e_v_11
  have t_v_11 : v_11.toInt = v_7.toInt + 2 := t_v_11
  refine tg_iald (lo := (-2147483648)) (hi := 2147483647) hx hb hK hw h_vu_8 rfl 176 412 r_v_11 (by decide) (by decide +kernel) dX10_holds_25 (fun v_12 r_v_12 m_v_12 o_v_12 => ?_)
  refine lv_istore (lv' := [(5, .int v_12), (4, .int v_10), (3, .int v_7), (0, .ref p0), (1, .int p1), (2, .int p2)]) hx hb dX10_holds_26 hl (by decide) rfl (fun ls hl => ?_)
  refine lv_aload_n hx hb dX10_holds_28 rfl (lv_at hl 3 rfl) ?_
  refine tg_mem (ci := 10) (C := RX10) (T := TX10) (N := 49) hx hb hts inX10 hown hK hw 14 m_u_8 rfl (by decide) (hts _ tw_1151) (fun _ h9 => h9) dX10_holds_29 ?_
  refine lv_iload_n hx hb dX10_holds_32 rfl (lv_at hl 2 rfl) ?_
  refine tg_iald (lo := (-2147483648)) (hi := 2147483647) hx hb hK hw h_vu_8 rfl 174 410 r_v_7 (by decide) (by decide +kernel) dX10_holds_33 (fun v_13 r_v_13 m_v_13 o_v_13 => ?_)
  by_cases k_34_1 : v_13 = 1
  · refine lv_lookup (tgt := 108) (off := 74) hx hb dX10_holds_34 (by decide) (by rw [k_34_1]; decide) (by decide) ?_
    have r_v_13 : RI v_13 1 1 := by rw [k_34_1]; exact rl_1
    have g_v_10 : 0 ≤ v_10.toInt ∧ v_10.toInt < p1.toInt := by obtain ⟨_, f9, e8, e7, q9, _⟩ := ax_of (k := 14) (t := 34) hw h_p0 rfl (fun _ => rfl); cases FLD.inj hw.2.2.1 e8 m_u_8; have t9 := ARR.ael hw.2.2.1 e7 m_v_13; have x9 := ARR.ael hw.2.2.1 e7 m_v_10; rw [show Int32.toNatClampNeg v_7 = 174 + 4 * Int32.toNatClampNeg p1 from (by have k1 := r_v_7.cl (by decide); have k2 := r_p1.cl (by decide); omega)] at t9; rw [show Int32.toNatClampNeg v_9 = 175 + 4 * Int32.toNatClampNeg p1 from (by have k1 := r_v_9.cl (by decide); have k2 := r_p1.cl (by decide); omega)] at x9; exact RN_child q9 (r_p1.to (by decide)) t9 x9 (r_v_13.to (by decide))
    have r_v_10 : RI v_10 0 58 := ⟨g_v_10.1, by have k1 := r_p1.2; omega⟩
    refine lv_aload_n hx hb dX10_holds_108 rfl (lv_at hl 3 rfl) ?_
    refine lv_iload hx hb dX10_holds_109 (lv_at hl 1 rfl) ?_
    refine lv_iload_n hx hb dX10_holds_111 rfl (lv_at hl 5 rfl) ?_
    refine tk_ir (va_runV (As := [.int v_10, .int p2]) (rest := []) ⟨hx, hb, hml, hown, hts⟩ (c_X10_holds__1 l D cy z s.heap.size Ps w0 hw.1 p0 v_10 p2 h_p0 r_v_10 r_p2) (cwV 2 hts (gV tw_1787 tw_1789 ts_119 tw_15 tw_1790) rfl rfl rfl (by decide +kernel) ⟨Nat.le_of_ble_eq_true rfl, Nat.le_of_ble_eq_true rfl⟩) (tg_preV hw hK hSD hA (ci := 10) (q := (RX10, TX10, 49)) rfl h_p0 rfl) rfl rfl hl.1 rfl (lv_room (Nat.le_of_ble_eq_true rfl)) dX10_holds_112 ⟨Nat.le_of_ble_eq_true rfl, Nat.le_of_ble_eq_true rfl⟩) hw hA (fun v_14  H locs hp_v_14 hw => ?_)
    have r_v_14 : RI v_14 0 1 := hp_v_14.1
    refine lv_if_ne (tgt := 122) hx hb dX10_holds_115 (by decide) (fun c_115 => ?_) (fun c_115 => ?_)
    · have r_v_14 : RI v_14 1 1 := rc_neL r_v_14 rl_0 (ti_ne c_115) (by decide)
      refine lv_iconst (v := 0) hx hb dX10_holds_122 (by decide) ?_
      subst hQ
      exact W.zret (v := 0) hx hb hr (rfl) (fun t ht hW => ⟨⟨0, (), rfl, ⟨rl_0.to (by decide), (fun h0 => trivial), (fun _ => trivial)⟩, by rw [ht]; exact hw.2.1, va_K.moved hW.alike hK, hw.2.2.1⟩, hw.2.2.2.1.F ht⟩) hw.2.2.2.1.2.2 dX10_holds_123
    · have r_v_14 : RI v_14 0 0 := rc_eq1 r_v_14 rl_0 (ti_eq c_115) (by decide)
      refine lv_iconst (v := 1) hx hb dX10_holds_118 (by decide) ?_
      refine lv_goto (tgt := 123) hx hb dX10_holds_119 (by decide) ?_
      subst hQ
      exact W.zret (v := 1) hx hb hr (rfl) (fun t ht hW => ⟨⟨1, (), rfl, ⟨rl_1.to (by decide), (fun _ => trivial), (fun h0 => trivial)⟩, by rw [ht]; exact hw.2.1, va_K.moved hW.alike hK, hw.2.2.1⟩, hw.2.2.2.1.F ht⟩) hw.2.2.2.1.2.2 dX10_holds_123
  · by_cases k_34_2 : v_13 = 2
    · refine lv_lookup (tgt := 124) (off := 90) hx hb dX10_holds_34 (by decide) (by rw [k_34_2]; decide) (by decide) ?_
      have r_v_13 : RI v_13 2 2 := by rw [k_34_2]; exact rl_2
      have g_v_10 : 0 ≤ v_10.toInt ∧ v_10.toInt < p1.toInt := by obtain ⟨_, f9, e8, e7, q9, _⟩ := ax_of (k := 14) (t := 34) hw h_p0 rfl (fun _ => rfl); cases FLD.inj hw.2.2.1 e8 m_u_8; have t9 := ARR.ael hw.2.2.1 e7 m_v_13; have x9 := ARR.ael hw.2.2.1 e7 m_v_10; rw [show Int32.toNatClampNeg v_7 = 174 + 4 * Int32.toNatClampNeg p1 from (by have k1 := r_v_7.cl (by decide); have k2 := r_p1.cl (by decide); omega)] at t9; rw [show Int32.toNatClampNeg v_9 = 175 + 4 * Int32.toNatClampNeg p1 from (by have k1 := r_v_9.cl (by decide); have k2 := r_p1.cl (by decide); omega)] at x9; exact RN_child q9 (r_p1.to (by decide)) t9 x9 (r_v_13.to (by decide))
      have r_v_10 : RI v_10 0 58 := ⟨g_v_10.1, by have k1 := r_p1.2; omega⟩
      have g_v_12 : 0 ≤ v_12.toInt ∧ v_12.toInt < p1.toInt := by obtain ⟨_, f9, e8, e7, q9, _⟩ := ax_of (k := 14) (t := 34) hw h_p0 rfl (fun _ => rfl); cases FLD.inj hw.2.2.1 e8 m_u_8; have t9 := ARR.ael hw.2.2.1 e7 m_v_13; have x9 := ARR.ael hw.2.2.1 e7 m_v_12; rw [show Int32.toNatClampNeg v_7 = 174 + 4 * Int32.toNatClampNeg p1 from (by have k1 := r_v_7.cl (by decide); have k2 := r_p1.cl (by decide); omega)] at t9; rw [show Int32.toNatClampNeg v_11 = 176 + 4 * Int32.toNatClampNeg p1 from (by have k1 := r_v_11.cl (by decide); have k2 := r_p1.cl (by decide); omega)] at x9; exact RN_child2 q9 (r_p1.to (by decide)) t9 x9 (r_v_13.to (by decide))
      have r_v_12 : RI v_12 0 58 := ⟨g_v_12.1, by have k1 := r_p1.2; omega⟩
      refine lv_aload_n hx hb dX10_holds_124 rfl (lv_at hl 3 rfl) ?_
      refine lv_iload hx hb dX10_holds_125 (lv_at hl 1 rfl) ?_
      refine lv_iload_n hx hb dX10_holds_127 rfl (lv_at hl 5 rfl) ?_
      refine tk_ir (va_runV (As := [.int v_10, .int p2]) (rest := []) ⟨hx, hb, hml, hown, hts⟩ (c_X10_holds__1 l D cy z s.heap.size Ps w0 hw.1 p0 v_10 p2 h_p0 r_v_10 r_p2) (cwV 2 hts (gV tw_1787 tw_1789 ts_119 tw_15 tw_1790) rfl rfl rfl (by decide +kernel) ⟨Nat.le_of_ble_eq_true rfl, Nat.le_of_ble_eq_true rfl⟩) (tg_preV hw hK hSD hA (ci := 10) (q := (RX10, TX10, 49)) rfl h_p0 rfl) rfl rfl hl.1 rfl (lv_room (Nat.le_of_ble_eq_true rfl)) dX10_holds_128 ⟨Nat.le_of_ble_eq_true rfl, Nat.le_of_ble_eq_true rfl⟩) hw hA (fun v_15  H locs hp_v_15 hw => ?_)
      have r_v_15 : RI v_15 0 1 := hp_v_15.1
      refine lv_if_eq (tgt := 148) hx hb dX10_holds_131 (by decide) (fun c_131 => ?_) (fun c_131 => ?_)
      · have r_v_15 : RI v_15 0 0 := rc_eq1 r_v_15 rl_0 (ti_eq c_131) (by decide)
        refine lv_iconst (v := 0) hx hb dX10_holds_148 (by decide) ?_
        subst hQ
        exact W.zret (v := 0) hx hb hr (rfl) (fun t ht hW => ⟨⟨0, (), rfl, ⟨rl_0.to (by decide), (fun h0 => trivial), (fun _ => trivial)⟩, by rw [ht]; exact hw.2.1, va_K.moved hW.alike hK, hw.2.2.1⟩, hw.2.2.2.1.F ht⟩) hw.2.2.2.1.2.2 dX10_holds_149
      · have r_v_15 : RI v_15 1 1 := rc_neL r_v_15 rl_0 (ti_ne c_131) (by decide)
        refine lv_aload_n hx hb dX10_holds_134 rfl (lv_at hl 3 rfl) ?_
        refine lv_iload hx hb dX10_holds_135 (lv_at hl 0 rfl) ?_
        refine lv_iload_n hx hb dX10_holds_137 rfl (lv_at hl 5 rfl) ?_
        refine tk_ir (va_runV (As := [.int v_12, .int p2]) (rest := []) ⟨hx, hb, hml, hown, hts⟩ (c_X10_holds__1 l D cy z H.size Ps w0 hw.1 p0 v_12 p2 h_p0 r_v_12 r_p2) (cwV 2 hts (gV tw_1787 tw_1789 ts_119 tw_15 tw_1790) rfl rfl rfl (by decide +kernel) ⟨Nat.le_of_ble_eq_true rfl, Nat.le_of_ble_eq_true rfl⟩) (tg_preV hw hK hSD hA (ci := 10) (q := (RX10, TX10, 49)) rfl h_p0 rfl) rfl rfl hl.1 rfl (lv_room (Nat.le_of_ble_eq_true rfl)) dX10_holds_138 ⟨Nat.le_of_ble_eq_true rfl, Nat.le_of_ble_eq_true rfl⟩) hw hA (fun v_16  H locs hp_v_16 hw => ?_)
        have r_v_16 : RI v_16 0 1 := hp_v_16.1
        refine lv_if_eq (tgt := 148) hx hb dX10_holds_141 (by decide) (fun c_141 => ?_) (fun c_141 => ?_)
        · have r_v_16 : RI v_16 0 0 := rc_eq1 r_v_16 rl_0 (ti_eq c_141) (by decide)
          refine lv_iconst (v := 0) hx hb dX10_holds_148 (by decide) ?_
          subst hQ
          exact W.zret (v := 0) hx hb hr (rfl) (fun t ht hW => ⟨⟨0, (), rfl, ⟨rl_0.to (by decide), (fun h0 => trivial), (fun _ => trivial)⟩, by rw [ht]; exact hw.2.1, va_K.moved hW.alike hK, hw.2.2.1⟩, hw.2.2.2.1.F ht⟩) hw.2.2.2.1.2.2 dX10_holds_149
        · have r_v_16 : RI v_16 1 1 := rc_neL r_v_16 rl_0 (ti_ne c_141) (by decide)
          refine lv_iconst (v := 1) hx hb dX10_holds_144 (by decide) ?_
          refine lv_goto (tgt := 149) hx hb dX10_holds_145 (by decide) ?_
          subst hQ
          exact W.zret (v := 1) hx hb hr (rfl) (fun t ht hW => ⟨⟨1, (), rfl, ⟨rl_1.to (by decide), (fun _ => trivial), (fun h0 => trivial)⟩, by rw [ht]; exact hw.2.1, va_K.moved hW.alike hK, hw.2.2.1⟩, hw.2.2.2.1.F ht⟩) hw.2.2.2.1.2.2 dX10_holds_149
    · by_cases k_34_3 : v_13 = 3
      · refine lv_lookup (tgt := 150) (off := 116) hx hb dX10_holds_34 (by decide) (by rw [k_34_3]; decide) (by decide) ?_
        have r_v_13 : RI v_13 3 3 := by rw [k_34_3]; exact rl_3
        have g_v_10 : 0 ≤ v_10.toInt ∧ v_10.toInt < p1.toInt := by obtain ⟨_, f9, e8, e7, q9, _⟩ := ax_of (k := 14) (t := 34) hw h_p0 rfl (fun _ => rfl); cases FLD.inj hw.2.2.1 e8 m_u_8; have t9 := ARR.ael hw.2.2.1 e7 m_v_13; have x9 := ARR.ael hw.2.2.1 e7 m_v_10; rw [show Int32.toNatClampNeg v_7 = 174 + 4 * Int32.toNatClampNeg p1 from (by have k1 := r_v_7.cl (by decide); have k2 := r_p1.cl (by decide); omega)] at t9; rw [show Int32.toNatClampNeg v_9 = 175 + 4 * Int32.toNatClampNeg p1 from (by have k1 := r_v_9.cl (by decide); have k2 := r_p1.cl (by decide); omega)] at x9; exact RN_child q9 (r_p1.to (by decide)) t9 x9 (r_v_13.to (by decide))
        have r_v_10 : RI v_10 0 58 := ⟨g_v_10.1, by have k1 := r_p1.2; omega⟩
        have g_v_12 : 0 ≤ v_12.toInt ∧ v_12.toInt < p1.toInt := by obtain ⟨_, f9, e8, e7, q9, _⟩ := ax_of (k := 14) (t := 34) hw h_p0 rfl (fun _ => rfl); cases FLD.inj hw.2.2.1 e8 m_u_8; have t9 := ARR.ael hw.2.2.1 e7 m_v_13; have x9 := ARR.ael hw.2.2.1 e7 m_v_12; rw [show Int32.toNatClampNeg v_7 = 174 + 4 * Int32.toNatClampNeg p1 from (by have k1 := r_v_7.cl (by decide); have k2 := r_p1.cl (by decide); omega)] at t9; rw [show Int32.toNatClampNeg v_11 = 176 + 4 * Int32.toNatClampNeg p1 from (by have k1 := r_v_11.cl (by decide); have k2 := r_p1.cl (by decide); omega)] at x9; exact RN_child2 q9 (r_p1.to (by decide)) t9 x9 (r_v_13.to (by decide))
        have r_v_12 : RI v_12 0 58 := ⟨g_v_12.1, by have k1 := r_p1.2; omega⟩
        refine lv_aload_n hx hb dX10_holds_150 rfl (lv_at hl 3 rfl) ?_
        refine lv_iload hx hb dX10_holds_151 (lv_at hl 1 rfl) ?_
        refine lv_iload_n hx hb dX10_holds_153 rfl (lv_at hl 5 rfl) ?_
        refine tk_ir (va_runV (As := [.int v_10, .int p2]) (rest := []) ⟨hx, hb, hml, hown, hts⟩ (c_X10_holds__1 l D cy z s.heap.size Ps w0 hw.1 p0 v_10 p2 h_p0 r_v_10 r_p2) (cwV 2 hts (gV tw_1787 tw_1789 ts_119 tw_15 tw_1790) rfl rfl rfl (by decide +kernel) ⟨Nat.le_of_ble_eq_true rfl, Nat.le_of_ble_eq_true rfl⟩) (tg_preV hw hK hSD hA (ci := 10) (q := (RX10, TX10, 49)) rfl h_p0 rfl) rfl rfl hl.1 rfl (lv_room (Nat.le_of_ble_eq_true rfl)) dX10_holds_154 ⟨Nat.le_of_ble_eq_true rfl, Nat.le_of_ble_eq_true rfl⟩) hw hA (fun v_17  H locs hp_v_17 hw => ?_)
        have r_v_17 : RI v_17 0 1 := hp_v_17.1
        refine lv_if_ne (tgt := 170) hx hb dX10_holds_157 (by decide) (fun c_157 => ?_) (fun c_157 => ?_)
        · have r_v_17 : RI v_17 1 1 := rc_neL r_v_17 rl_0 (ti_ne c_157) (by decide)
          refine lv_iconst (v := 1) hx hb dX10_holds_170 (by decide) ?_
          refine lv_goto (tgt := 175) hx hb dX10_holds_171 (by decide) ?_
          subst hQ
          exact W.zret (v := 1) hx hb hr (rfl) (fun t ht hW => ⟨⟨1, (), rfl, ⟨rl_1.to (by decide), (fun _ => trivial), (fun h0 => trivial)⟩, by rw [ht]; exact hw.2.1, va_K.moved hW.alike hK, hw.2.2.1⟩, hw.2.2.2.1.F ht⟩) hw.2.2.2.1.2.2 dX10_holds_175
        · have r_v_17 : RI v_17 0 0 := rc_eq1 r_v_17 rl_0 (ti_eq c_157) (by decide)
          refine lv_aload_n hx hb dX10_holds_160 rfl (lv_at hl 3 rfl) ?_
          refine lv_iload hx hb dX10_holds_161 (lv_at hl 0 rfl) ?_
          refine lv_iload_n hx hb dX10_holds_163 rfl (lv_at hl 5 rfl) ?_
          refine tk_ir (va_runV (As := [.int v_12, .int p2]) (rest := []) ⟨hx, hb, hml, hown, hts⟩ (c_X10_holds__1 l D cy z H.size Ps w0 hw.1 p0 v_12 p2 h_p0 r_v_12 r_p2) (cwV 2 hts (gV tw_1787 tw_1789 ts_119 tw_15 tw_1790) rfl rfl rfl (by decide +kernel) ⟨Nat.le_of_ble_eq_true rfl, Nat.le_of_ble_eq_true rfl⟩) (tg_preV hw hK hSD hA (ci := 10) (q := (RX10, TX10, 49)) rfl h_p0 rfl) rfl rfl hl.1 rfl (lv_room (Nat.le_of_ble_eq_true rfl)) dX10_holds_164 ⟨Nat.le_of_ble_eq_true rfl, Nat.le_of_ble_eq_true rfl⟩) hw hA (fun v_18  H locs hp_v_18 hw => ?_)
          have r_v_18 : RI v_18 0 1 := hp_v_18.1
          refine lv_if_eq (tgt := 174) hx hb dX10_holds_167 (by decide) (fun c_167 => ?_) (fun c_167 => ?_)
          · have r_v_18 : RI v_18 0 0 := rc_eq1 r_v_18 rl_0 (ti_eq c_167) (by decide)
            refine lv_iconst (v := 0) hx hb dX10_holds_174 (by decide) ?_
            subst hQ
            exact W.zret (v := 0) hx hb hr (rfl) (fun t ht hW => ⟨⟨0, (), rfl, ⟨rl_0.to (by decide), (fun h0 => trivial), (fun _ => trivial)⟩, by rw [ht]; exact hw.2.1, va_K.moved hW.alike hK, hw.2.2.1⟩, hw.2.2.2.1.F ht⟩) hw.2.2.2.1.2.2 dX10_holds_175
          · have r_v_18 : RI v_18 1 1 := rc_neL r_v_18 rl_0 (ti_ne c_167) (by decide)
            refine lv_iconst (v := 1) hx hb dX10_holds_170 (by decide) ?_
            refine lv_goto (tgt := 175) hx hb dX10_holds_171 (by decide) ?_
            subst hQ
            exact W.zret (v := 1) hx hb hr (rfl) (fun t ht hW => ⟨⟨1, (), rfl, ⟨rl_1.to (by decide), (fun _ => trivial), (fun h0 => trivial)⟩, by rw [ht]; exact hw.2.1, va_K.moved hW.alike hK, hw.2.2.1⟩, hw.2.2.2.1.F ht⟩) hw.2.2.2.1.2.2 dX10_holds_175
      · by_cases k_34_69 : v_13 = 69
        · refine lv_lookup (tgt := 176) (off := 142) hx hb dX10_holds_34 (by decide) (by rw [k_34_69]; decide) (by decide) ?_
          have r_v_13 : RI v_13 69 69 := by rw [k_34_69]; exact rl_69
          refine lv_aload_n hx hb dX10_holds_176 rfl (lv_at hl 3 rfl) ?_
          refine lv_iload_n hx hb dX10_holds_177 rfl (lv_at hl 5 rfl) ?_
          refine tk_ir (va_runV (As := [.int p2]) (rest := []) ⟨hx, hb, hml, hown, hts⟩ (c_X10_isOpen l D cy z s.heap.size Ps w0 hw.1 p0 p2 h_p0 (r_p2.to (by decide))) (cwV 1 hts (gV tw_1457 tw_1459 ts_71 tw_15 tw_1460) rfl rfl rfl (by decide +kernel) ⟨Nat.le_of_ble_eq_true rfl, Nat.le_of_ble_eq_true rfl⟩) (tg_preV hw hK hSD hA (ci := 10) (q := (RX10, TX10, 49)) rfl h_p0 rfl) rfl rfl hl.1 rfl (lv_room (Nat.le_of_ble_eq_true rfl)) dX10_holds_178 ⟨Nat.le_of_ble_eq_true rfl, Nat.le_of_ble_eq_true rfl⟩) hw hA (fun v_19  H locs hp_v_19 hw => ?_)
          have r_v_19 : RI v_19 0 1 := hp_v_19.1
          subst hQ
          exact W.zret (v := v_19) hx hb hr (tq_nz (r_v_19.to (by decide))) (fun t ht hW => ⟨⟨v_19, (), rfl, ⟨r_v_19.to (by decide), (fun h0 => trivial), (fun h0 => trivial)⟩, by rw [ht]; exact hw.2.1, va_K.moved hW.alike hK, hw.2.2.1⟩, hw.2.2.2.1.F ht⟩) hw.2.2.2.1.2.2 dX10_holds_181
        · by_cases k_34_70 : v_13 = 70
          · refine lv_lookup (tgt := 182) (off := 148) hx hb dX10_holds_34 (by decide) (by rw [k_34_70]; decide) (by decide) ?_
            have r_v_13 : RI v_13 70 70 := by rw [k_34_70]; exact rl_70
            refine lv_aload_n hx hb dX10_holds_182 rfl (lv_at hl 3 rfl) ?_
            refine lv_iload_n hx hb dX10_holds_183 rfl (lv_at hl 5 rfl) ?_
            refine tk_ir (va_runV (As := [.int p2]) (rest := []) ⟨hx, hb, hml, hown, hts⟩ (c_X10_whatIs l D cy z s.heap.size Ps w0 hw.1 p0 p2 h_p0 r_p2) (cwV 1 hts (gV tw_1449 tw_1451 ts_69 tw_15 tw_1452) rfl rfl rfl (by decide +kernel) ⟨Nat.le_of_ble_eq_true rfl, Nat.le_of_ble_eq_true rfl⟩) (tg_preV hw hK hSD hA (ci := 10) (q := (RX10, TX10, 49)) rfl h_p0 rfl) rfl rfl hl.1 rfl (lv_room (Nat.le_of_ble_eq_true rfl)) dX10_holds_184 ⟨Nat.le_of_ble_eq_true rfl, Nat.le_of_ble_eq_true rfl⟩) hw hA (fun v_20  H locs hp_v_20 hw => ?_)
            have r_v_20 : RI v_20 (-1) 5 := hp_v_20.1
            by_cases c9_v_20 : v_20.toInt < 0
            · have r_v_20 : RI v_20 (-1) (-1) := by unfold RI at r_v_20 ⊢; omega
              have x_NB_p0_p2 := (hp_v_20.2.2.2.2.1 (by omega)).1
              refine lv_iconst (v := (-1)) hx hb dX10_holds_187 (by decide) ?_
              refine lv_icmp_ne (tgt := 195) hx hb dX10_holds_188 (by decide) (fun c_188 => ?_) (fun c_188 => ?_)
              · exact absurd (r_v_20.eq.trans rl_m1.eq.symm) ((ti_ne c_188))
              · refine lv_iconst (v := 1) hx hb dX10_holds_191 (by decide) ?_
                refine lv_goto (tgt := 196) hx hb dX10_holds_192 (by decide) ?_
                subst hQ
                exact W.zret (v := 1) hx hb hr (rfl) (fun t ht hW => ⟨⟨1, (), rfl, ⟨rl_1.to (by decide), (fun _ => trivial), (fun h0 => trivial)⟩, by rw [ht]; exact hw.2.1, va_K.moved hW.alike hK, hw.2.2.1⟩, hw.2.2.2.1.F ht⟩) hw.2.2.2.1.2.2 dX10_holds_196
            · have r_v_20 : RI v_20 0 5 := by unfold RI at r_v_20 ⊢; omega
              have x_WB_p0_p2_v_20 := (hp_v_20.2.2.2.2.2 (by omega)).1
              refine lv_iconst (v := (-1)) hx hb dX10_holds_187 (by decide) ?_
              refine lv_icmp_ne (tgt := 195) hx hb dX10_holds_188 (by decide) (fun c_188 => ?_) (fun c_188 => ?_)
              · refine lv_iconst (v := 0) hx hb dX10_holds_195 (by decide) ?_
                subst hQ
                exact W.zret (v := 0) hx hb hr (rfl) (fun t ht hW => ⟨⟨0, (), rfl, ⟨rl_0.to (by decide), (fun h0 => trivial), (fun _ => trivial)⟩, by rw [ht]; exact hw.2.1, va_K.moved hW.alike hK, hw.2.2.1⟩, hw.2.2.2.1.F ht⟩) hw.2.2.2.1.2.2 dX10_holds_196
              · have r_v_20 : RI v_20 0 (-1) := rc_eq1 r_v_20 rl_m1 (ti_eq c_188) (by decide)
                exact (r_v_20.no (by decide)).elim
          · by_cases k_34_71 : v_13 = 71
            · refine lv_lookup (tgt := 197) (off := 163) hx hb dX10_holds_34 (by decide) (by rw [k_34_71]; decide) (by decide) ?_
              have r_v_13 : RI v_13 71 71 := by rw [k_34_71]; exact rl_71
              refine lv_aload_n hx hb dX10_holds_197 rfl (lv_at hl 3 rfl) ?_
              refine lv_iload_n hx hb dX10_holds_198 rfl (lv_at hl 5 rfl) ?_
              refine tk_ir (va_runV (As := [.int p2]) (rest := []) ⟨hx, hb, hml, hown, hts⟩ (c_X10_sittersOf l D cy z s.heap.size Ps w0 hw.1 p0 p2 h_p0 (r_p2.to (by decide))) (cwV 1 hts (gV tw_1461 tw_1463 ts_72 tw_15 tw_1464) rfl rfl rfl (by decide +kernel) ⟨Nat.le_of_ble_eq_true rfl, Nat.le_of_ble_eq_true rfl⟩) (tg_preV hw hK hSD hA (ci := 10) (q := (RX10, TX10, 49)) rfl h_p0 rfl) rfl rfl hl.1 rfl (lv_room (Nat.le_of_ble_eq_true rfl)) dX10_holds_199 ⟨Nat.le_of_ble_eq_true rfl, Nat.le_of_ble_eq_true rfl⟩) hw hA (fun v_21  H locs hp_v_21 hw => ?_)
              have r_v_21 : RI v_21 (-2147483648) 2147483647 := hp_v_21.1
              refine lv_if_eq (tgt := 209) hx hb dX10_holds_202 (by decide) (fun c_202 => ?_) (fun c_202 => ?_)
              · have r_v_21 : RI v_21 0 0 := rc_eq1 r_v_21 rl_0 (ti_eq c_202) (by decide)
                refine lv_iconst (v := 0) hx hb dX10_holds_209 (by decide) ?_
                subst hQ
                exact W.zret (v := 0) hx hb hr (rfl) (fun t ht hW => ⟨⟨0, (), rfl, ⟨rl_0.to (by decide), (fun h0 => trivial), (fun _ => trivial)⟩, by rw [ht]; exact hw.2.1, va_K.moved hW.alike hK, hw.2.2.1⟩, hw.2.2.2.1.F ht⟩) hw.2.2.2.1.2.2 dX10_holds_210
              · refine lv_iconst (v := 1) hx hb dX10_holds_205 (by decide) ?_
                refine lv_goto (tgt := 210) hx hb dX10_holds_206 (by decide) ?_
                subst hQ
                exact W.zret (v := 1) hx hb hr (rfl) (fun t ht hW => ⟨⟨1, (), rfl, ⟨rl_1.to (by decide), (fun _ => trivial), (fun h0 => trivial)⟩, by rw [ht]; exact hw.2.1, va_K.moved hW.alike hK, hw.2.2.1⟩, hw.2.2.2.1.F ht⟩) hw.2.2.2.1.2.2 dX10_holds_210
            · by_cases k_34_72 : v_13 = 72
              · refine lv_lookup (tgt := 211) (off := 177) hx hb dX10_holds_34 (by decide) (by rw [k_34_72]; decide) (by decide) ?_
                have r_v_13 : RI v_13 72 72 := by rw [k_34_72]; exact rl_72
                refine lv_aload_n hx hb dX10_holds_211 rfl (lv_at hl 3 rfl) ?_
                refine lv_iload_n hx hb dX10_holds_212 rfl (lv_at hl 5 rfl) ?_
                refine tk_ir (va_runV (As := [.int p2]) (rest := []) ⟨hx, hb, hml, hown, hts⟩ (c_X10_whatIs l D cy z s.heap.size Ps w0 hw.1 p0 p2 h_p0 r_p2) (cwV 1 hts (gV tw_1449 tw_1451 ts_69 tw_15 tw_1452) rfl rfl rfl (by decide +kernel) ⟨Nat.le_of_ble_eq_true rfl, Nat.le_of_ble_eq_true rfl⟩) (tg_preV hw hK hSD hA (ci := 10) (q := (RX10, TX10, 49)) rfl h_p0 rfl) rfl rfl hl.1 rfl (lv_room (Nat.le_of_ble_eq_true rfl)) dX10_holds_213 ⟨Nat.le_of_ble_eq_true rfl, Nat.le_of_ble_eq_true rfl⟩) hw hA (fun v_22  H locs hp_v_22 hw => ?_)
                have r_v_22 : RI v_22 (-1) 5 := hp_v_22.1
                by_cases c9_v_22 : v_22.toInt < 0
                · have r_v_22 : RI v_22 (-1) (-1) := by unfold RI at r_v_22 ⊢; omega
                  have x_NB_p0_p2 := (hp_v_22.2.2.2.2.1 (by omega)).1
                  refine lv_iload hx hb dX10_holds_216 (lv_at hl 1 rfl) ?_
                  refine lv_icmp_ne (tgt := 225) hx hb dX10_holds_218 (by decide) (fun c_218 => ?_) (fun c_218 => ?_)
                  · refine lv_iconst (v := 0) hx hb dX10_holds_225 (by decide) ?_
                    subst hQ
                    exact W.zret (v := 0) hx hb hr (rfl) (fun t ht hW => ⟨⟨0, (), rfl, ⟨rl_0.to (by decide), (fun h0 => trivial), (fun _ => trivial)⟩, by rw [ht]; exact hw.2.1, va_K.moved hW.alike hK, hw.2.2.1⟩, hw.2.2.2.1.F ht⟩) hw.2.2.2.1.2.2 dX10_holds_226
                  · have r_v_10 : RI v_10 (-1) (-1) := rc_eq2 r_v_22 r_v_10 (ti_eq c_218) (by decide)
                    refine lv_iconst (v := 1) hx hb dX10_holds_221 (by decide) ?_
                    refine lv_goto (tgt := 226) hx hb dX10_holds_222 (by decide) ?_
                    subst hQ
                    exact W.zret (v := 1) hx hb hr (rfl) (fun t ht hW => ⟨⟨1, (), rfl, ⟨rl_1.to (by decide), (fun _ => trivial), (fun h0 => trivial)⟩, by rw [ht]; exact hw.2.1, va_K.moved hW.alike hK, hw.2.2.1⟩, hw.2.2.2.1.F ht⟩) hw.2.2.2.1.2.2 dX10_holds_226
                · have r_v_22 : RI v_22 0 5 := by unfold RI at r_v_22 ⊢; omega
                  have x_WB_p0_p2_v_22 := (hp_v_22.2.2.2.2.2 (by omega)).1
                  refine lv_iload hx hb dX10_holds_216 (lv_at hl 1 rfl) ?_
                  refine lv_icmp_ne (tgt := 225) hx hb dX10_holds_218 (by decide) (fun c_218 => ?_) (fun c_218 => ?_)
                  · refine lv_iconst (v := 0) hx hb dX10_holds_225 (by decide) ?_
                    subst hQ
                    exact W.zret (v := 0) hx hb hr (rfl) (fun t ht hW => ⟨⟨0, (), rfl, ⟨rl_0.to (by decide), (fun h0 => trivial), (fun _ => trivial)⟩, by rw [ht]; exact hw.2.1, va_K.moved hW.alike hK, hw.2.2.1⟩, hw.2.2.2.1.F ht⟩) hw.2.2.2.1.2.2 dX10_holds_226
                  · have r_v_10 : RI v_10 0 5 := rc_eq2 r_v_22 r_v_10 (ti_eq c_218) (by decide)
                    refine lv_iconst (v := 1) hx hb dX10_holds_221 (by decide) ?_
                    refine lv_goto (tgt := 226) hx hb dX10_holds_222 (by decide) ?_
                    subst hQ
                    exact W.zret (v := 1) hx hb hr (rfl) (fun t ht hW => ⟨⟨1, (), rfl, ⟨rl_1.to (by decide), (fun _ => trivial), (fun h0 => trivial)⟩, by rw [ht]; exact hw.2.1, va_K.moved hW.alike hK, hw.2.2.1⟩, hw.2.2.2.1.F ht⟩) hw.2.2.2.1.2.2 dX10_holds_226
              · by_cases k_34_73 : v_13 = 73
                · refine lv_lookup (tgt := 227) (off := 193) hx hb dX10_holds_34 (by decide) (by rw [k_34_73]; decide) (by decide) ?_
                  have r_v_13 : RI v_13 73 73 := by rw [k_34_73]; exact rl_73
                  refine lv_aload_n hx hb dX10_holds_227 rfl (lv_at hl 3 rfl) ?_
                  refine tg_mem (ci := 10) (C := RX10) (T := TX10) (N := 49) hx hb hts inX10 hown hK hw 14 m_u_8 rfl (by decide) (hts _ tw_1151) (fun _ h9 => h9) dX10_holds_228 ?_
                  refine lv_bipush (v := 86) hx hb dX10_holds_231 (by decide) ?_
                  refine lv_iload_n hx hb dX10_holds_233 rfl (lv_at hl 5 rfl) ?_
                  refine lv_iadd hx hb dX10_holds_234 (lv_topi (fun v_23 e_v_23 => ?_))
                  obtain ⟨t_v_23, r_v_23⟩ := tq_add (lo := 86) (hi := 91) rl_86 r_p2 (by decide +kernel) e_v_23
                  have t_v_23 : v_23.toInt = 86 + p2.toInt := t_v_23
                  refine tg_iald (lo := (-2147483648)) (hi := 2147483647) hx hb hK hw h_vu_8 rfl 86 91 r_v_23 (by decide) (by decide +kernel) dX10_holds_235 (fun v_24 r_v_24 m_v_24 o_v_24 => ?_)
                  refine lv_iload hx hb dX10_holds_236 (lv_at hl 1 rfl) ?_
                  refine lv_icmp_ne (tgt := 245) hx hb dX10_holds_238 (by decide) (fun c_238 => ?_) (fun c_238 => ?_)
                  · refine lv_iconst (v := 0) hx hb dX10_holds_245 (by decide) ?_
                    subst hQ
                    exact W.zret (v := 0) hx hb hr (rfl) (fun t ht hW => ⟨⟨0, (), rfl, ⟨rl_0.to (by decide), (fun h0 => trivial), (fun _ => trivial)⟩, by rw [ht]; exact hw.2.1, va_K.moved hW.alike hK, hw.2.2.1⟩, hw.2.2.2.1.F ht⟩) hw.2.2.2.1.2.2 dX10_holds_246
                  · refine lv_iconst (v := 1) hx hb dX10_holds_241 (by decide) ?_
                    refine lv_goto (tgt := 246) hx hb dX10_holds_242 (by decide) ?_
                    subst hQ
                    exact W.zret (v := 1) hx hb hr (rfl) (fun t ht hW => ⟨⟨1, (), rfl, ⟨rl_1.to (by decide), (fun _ => trivial), (fun h0 => trivial)⟩, by rw [ht]; exact hw.2.1, va_K.moved hW.alike hK, hw.2.2.1⟩, hw.2.2.2.1.F ht⟩) hw.2.2.2.1.2.2 dX10_holds_246
                · refine lv_lookup (tgt := 247) (off := 213) hx hb dX10_holds_34 (by decide) ((lv_osw k_34_1 (by decide)).trans ((lv_osw k_34_2 (by decide)).trans ((lv_osw k_34_3 (by decide)).trans ((lv_osw k_34_69 (by decide)).trans ((lv_osw k_34_70 (by decide)).trans ((lv_osw k_34_71 (by decide)).trans ((lv_osw k_34_72 (by decide)).trans ((lv_osw k_34_73 (by decide)).trans (rfl))))))))) (by decide) ?_
                  refine lv_aload_n hx hb dX10_holds_247 rfl (lv_at hl 3 rfl) ?_
                  refine tg_mem (ci := 10) (C := RX10) (T := TX10) (N := 49) hx hb hts inX10 hown hK hw 14 m_u_8 rfl (by decide) (hts _ tw_1151) (fun _ h9 => h9) dX10_holds_248 ?_
                  refine lv_iload_n hx hb dX10_holds_251 rfl (lv_at hl 2 rfl) ?_
                  refine tg_imem hx hb hK hw h_vu_8 rfl r_v_7 (by decide) m_v_13 dX10_holds_252 ?_
                  refine lv_bipush (v := 50) hx hb dX10_holds_253 (by decide) ?_
                  refine lv_isub hx hb dX10_holds_255 (lv_topi (fun v_26 e_v_26 => ?_))
                  have r_v_26 := ri_any v_26
                  refine lv_istore (lv' := [(6, .int v_26), (5, .int v_12), (4, .int v_10), (3, .int v_7), (0, .ref p0), (1, .int p1), (2, .int p2)]) hx hb dX10_holds_256 hl (by decide) rfl (fun ls hl => ?_)
                  refine lv_iload hx hb dX10_holds_258 (lv_at hl 0 rfl) ?_
                  refine lv_bipush (v := 24) hx hb dX10_holds_260 (by decide) ?_
                  refine lv_icmp_ne (tgt := 273) hx hb dX10_holds_262 (by decide) (fun c_262 => ?_) (fun c_262 => ?_)
                  · refine lv_iload hx hb dX10_holds_273 (lv_at hl 0 rfl) ?_
                    refine lv_bipush (v := 25) hx hb dX10_holds_275 (by decide) ?_
                    refine lv_icmp_ne (tgt := 292) hx hb dX10_holds_277 (by decide) (fun c_277 => ?_) (fun c_277 => ?_)
                    · refine lv_iload hx hb dX10_holds_292 (lv_at hl 0 rfl) ?_
                      refine lv_bipush (v := 26) hx hb dX10_holds_294 (by decide) ?_
                      refine lv_icmp_ne (tgt := 311) hx hb dX10_holds_296 (by decide) (fun c_296 => ?_) (fun c_296 => ?_)
                      · refine lv_iload_n hx hb dX10_holds_311 rfl (lv_at hl 6 rfl) ?_
                        exact B312 v_7 v_10 v_12 v_26 p2 _ _ ls r_p1 r_p2 r_v_7 r_v_10 r_v_12 r_v_26 (r_p2.to (by decide)) hw (lv_sub hl [4, 5, 6, 3, 2, 1, 0] rfl)
                      · have r_v_26 : RI v_26 26 26 := rc_eq1 r_v_26 rl_26 (ti_eq c_296) (by decide)
                        refine lv_aload_n hx hb dX10_holds_299 rfl (lv_at hl 4 rfl) ?_
                        refine tg_mem (ci := 10) (C := RX10) (T := TX10) (N := 49) hx hb hts inX10 hown hK hw 14 m_u_8 rfl (by decide) (hts _ tw_1151) (fun _ h9 => h9) dX10_holds_300 ?_
                        refine lv_bipush (v := 98) hx hb dX10_holds_303 (by decide) ?_
                        refine lv_iload_n hx hb dX10_holds_305 rfl (lv_at hl 6 rfl) ?_
                        refine lv_iadd hx hb dX10_holds_306 (lv_topi (fun v_27 e_v_27 => ?_))
                        obtain ⟨t_v_27, r_v_27⟩ := tq_add (lo := 98) (hi := 103) rl_98 r_p2 (by decide +kernel) e_v_27
                        have t_v_27 : v_27.toInt = 98 + p2.toInt := t_v_27
                        refine tg_iald (lo := (-2147483648)) (hi := 2147483647) hx hb hK hw h_vu_8 rfl 98 103 r_v_27 (by decide) (by decide +kernel) dX10_holds_307 (fun v_28 r_v_28 m_v_28 o_v_28 => ?_)
                        refine lv_goto (tgt := 312) hx hb dX10_holds_308 (by decide) ?_
                        exact B312 v_7 v_10 v_12 v_26 v_28 _ _ ls r_p1 r_p2 r_v_7 r_v_10 r_v_12 (r_v_26.to (by decide)) r_v_28 hw (lv_sub hl [4, 5, 6, 3, 2, 1, 0] rfl)
                    · have r_v_26 : RI v_26 25 25 := rc_eq1 r_v_26 rl_25 (ti_eq c_277) (by decide)
                      refine lv_aload_n hx hb dX10_holds_280 rfl (lv_at hl 4 rfl) ?_
                      refine tg_mem (ci := 10) (C := RX10) (T := TX10) (N := 49) hx hb hts inX10 hown hK hw 14 m_u_8 rfl (by decide) (hts _ tw_1151) (fun _ h9 => h9) dX10_holds_281 ?_
                      refine lv_bipush (v := 92) hx hb dX10_holds_284 (by decide) ?_
                      refine lv_iload_n hx hb dX10_holds_286 rfl (lv_at hl 6 rfl) ?_
                      refine lv_iadd hx hb dX10_holds_287 (lv_topi (fun v_29 e_v_29 => ?_))
                      obtain ⟨t_v_29, r_v_29⟩ := tq_add (lo := 92) (hi := 97) rl_92 r_p2 (by decide +kernel) e_v_29
                      have t_v_29 : v_29.toInt = 92 + p2.toInt := t_v_29
                      refine tg_iald (lo := (-2147483648)) (hi := 2147483647) hx hb hK hw h_vu_8 rfl 92 97 r_v_29 (by decide) (by decide +kernel) dX10_holds_288 (fun v_30 r_v_30 m_v_30 o_v_30 => ?_)
                      refine lv_goto (tgt := 312) hx hb dX10_holds_289 (by decide) ?_
                      exact B312 v_7 v_10 v_12 v_26 v_30 _ _ ls r_p1 r_p2 r_v_7 r_v_10 r_v_12 (r_v_26.to (by decide)) r_v_30 hw (lv_sub hl [4, 5, 6, 3, 2, 1, 0] rfl)
                  · have r_v_26 : RI v_26 24 24 := rc_eq1 r_v_26 rl_24 (ti_eq c_262) (by decide)
                    refine lv_aload_n hx hb dX10_holds_265 rfl (lv_at hl 4 rfl) ?_
                    refine lv_iload_n hx hb dX10_holds_266 rfl (lv_at hl 6 rfl) ?_
                    refine tk_ir (va_runV (As := [.int p2]) (rest := []) ⟨hx, hb, hml, hown, hts⟩ (c_X10_sizeOf l D cy z s.heap.size Ps w0 hw.1 p0 p2 h_p0 r_p2) (cwV 1 hts (gV tw_1453 tw_1455 ts_70 tw_15 tw_1456) rfl rfl rfl (by decide +kernel) ⟨Nat.le_of_ble_eq_true rfl, Nat.le_of_ble_eq_true rfl⟩) (tg_preV hw hK hSD hA (ci := 10) (q := (RX10, TX10, 49)) rfl h_p0 rfl) rfl rfl hl.1 rfl (lv_room (Nat.le_of_ble_eq_true rfl)) dX10_holds_267 ⟨Nat.le_of_ble_eq_true rfl, Nat.le_of_ble_eq_true rfl⟩) hw hA (fun v_31  H locs hp_v_31 hw => ?_)
                    have r_v_31 : RI v_31 (-2147483648) 2147483647 := hp_v_31.1
                    refine lv_goto (tgt := 312) hx hb dX10_holds_270 (by decide) ?_
                    exact B312 v_7 v_10 v_12 v_26 v_31 _ _ ls r_p1 r_p2 r_v_7 r_v_10 r_v_12 (r_v_26.to (by decide)) r_v_31 hw (lv_sub hl [4, 5, 6, 3, 2, 1, 0] rfl)
abbrev wr_X10_said : List (Nat × Nat) := [(10, 0)]
abbrev wa_X10_said : List Nat := []
set_option maxHeartbeats 4000000 in
set_option maxRecDepth 100000 in
theorem c_X10_said (l : Launch) (D : va_G) (cy : Nat → ClassId) (z : Nat → Nat) (sz : Nat) (Ps : PSI) (w0 : va_W) (hT : HT cy GG Ps w0) (p0 : Nat) (p1 : Int32) (h_p0 : (p0, 55) ∈ Ps) (r_p1 : RI p1 (-2147483648) 2147483647) : Met l yX10_said (Cond.code yX10_said cX10_said 4 (some .int) :: gT) ({ frames := 63, cells := 0, slots := 0, locals := 12600 } : Room) (va_Pc [.ref p0, .int p1] (PRE D cy z w0 sz)) (va_Qi (fun (r : Int32) (u : va_W) => (RI r (-2147483648) 2147483647 ∧ (r = 0 → True) ∧ (¬ r = 0 → True)) ∧ HT cy GG Ps u ∧ FR wr_X10_said wa_X10_said Ps w0 u) (BB D cy (va_A w0 sz) (fun (u : va_W) => u)) (va_A w0 sz)) 0 0 (va_A w0 sz) := by
  refine Met.ofW (cc := cX10_said) (maxL := 4) (ret := (some .int)) (by decide) rfl ?_
  intro p e s m args below meth c s₁ B hml hv
  obtain ⟨rfl, hsz, hP, hK, hD0, hSD⟩ := hv
  have hx := B.exec
  have hb := B.bytes
  have hr := B.returns
  have hlocks := B.notSynchronized
  have hts : ∀ w ∈ gT, w.before _ s = true := fun w h => atoms_spec (ws := Cond.code yX10_said cX10_said 4 (some .int) :: gT) B.pre w (List.mem_cons_of_mem _ h)
  have hown : s.vm.findClass RX10 = some m.cls := findClass_of_methodNamed B.named
  subst hsz
  have hD := hD0.self (sz := s.heap.size)
  generalize hAe : va_A w0 s.heap.size = A at hD hSD ⊢
  have hA : ∀ q : Nat, s.heap.size ≤ q → A q := fun q h => by rw [← hAe]; exact Or.inr h
  have hl := lv_entry ([.ref p0, .int p1]) (n := 4) (Nat.le_of_ble_eq_true rfl)
  rw [lg_entry_eq]
  generalize (lg_sl ([.ref p0, .int p1]) ++ List.replicate (4 - (lg_sl ([.ref p0, .int p1])).length) Slot.unset).toArray = ls at hl ⊢
  have hl : lv_has ls 4 [(0, .ref p0), (1, .int p1)] := hl
  refine nameQ (fun Q hQ => ?_)
  have hw : WD D cy GG A s wr_X10_said wa_X10_said Ps w0 Ps w0 s.heap [] := ⟨hT, hP, hD, va_S.rf, FR.rf, hT.1, [], (List.append_nil _).symm⟩
  have B22 : ∀ (nf : Nat) (x2 : Int32) (x3 : Int32) (z0_0 : Int32) (ws : va_W) (H : Heap) (locs : List Loc) (ls : Array Slot), 6 - x3.toInt < (nf : Int) → RI p1 (-2147483648) 2147483647 → RI x2 (-2147483648) 2147483647 → RI x3 0 6 → RI z0_0 0 0 → FLD ws p0 10 0 (.int z0_0) → WD D cy GG A s wr_X10_said wa_X10_said Ps w0 Ps ws H locs → lv_has ls 4 [(0, .ref p0), (1, .int p1), (2, .int x2), (3, .int x3)] → W p l e (headSpec (Cond.code yX10_said cX10_said 4 (some .int) :: gT) ({ frames := 63, cells := 0, slots := 0, locals := 12600 } : Room)).room s m ([.ref p0, .int p1] : List Value).toArray below meth c H locs 0 0 Q (F0 m 22 ls []) := by
    intro nf22
    induction nf22 with
    | zero =>
      intro x2 x3 z0_0 ws H locs ls hn22 r_p1 r_x2 r_x3 r_z0_0 m_z0_0 hw hl
      exact absurd hn22 (by have q0 := r_x3.1; have u0 := r_x3.2; omega)
    | succ nf22 ih22 =>
      intro x2 x3 z0_0 ws H locs ls hn22 r_p1 r_x2 r_x3 r_z0_0 m_z0_0 hw hl
      refine lv_iload_n hx hb dX10_said_22 rfl (lv_at hl 3 rfl) ?_
      refine lv_aload_n hx hb dX10_said_23 rfl (lv_at hl 0 rfl) ?_
      refine tg_get (ci := 10) (ts := ty_MODEL) (C := RX10) (T := TX10) (N := 49) hx hb hts inX10 hown hK hw h_p0 rfl rfl 14 (by decide) (hts _ tw_1151) (fun _ h9 => h9) (ft := vR 34) rfl dX10_said_24 (fun u_1 hv_u_1 m_u_1 => ?_)
      obtain ⟨vu_1, rfl, h_vu_1⟩ := hv_u_1
      refine lv_iconst (v := 2) hx hb dX10_said_27 (by decide) ?_
      refine tg_iald (lo := 0) (hi := 6) hx hb hK hw h_vu_1 rfl 2 2 rl_2 (by decide) (by decide +kernel) dX10_said_28 (fun v_2 r_v_2 m_v_2 o_v_2 => ?_)
      refine lv_icmp_ge (tgt := 67) hx hb dX10_said_29 (by decide) (fun c_29 => ?_) (fun c_29 => ?_)
      · refine lv_iload_n hx hb dX10_said_67 rfl (lv_at hl 1 rfl) ?_
        refine lv_iconst (v := (-1)) hx hb dX10_said_68 (by decide) ?_
        refine lv_icmp_ne (tgt := 76) hx hb dX10_said_69 (by decide) (fun c_69 => ?_) (fun c_69 => ?_)
        · refine lv_iconst (v := (-1)) hx hb dX10_said_76 (by decide) ?_
          subst hQ
          exact W.iret (v := (-1)) hx hb hr (fun t ht hW => ⟨⟨(-1), ws, rfl, ⟨⟨rl_m1.to (by decide), (fun _ => trivial), (fun h0 => trivial)⟩, hw.1, hw.2.2.2.2.1⟩, by rw [ht]; exact hw.2.1, va_K.moved hW.alike hK, hw.2.2.1⟩, hw.2.2.2.1.F ht⟩) hw.2.2.2.1.2.2 dX10_said_77
        · have r_p1 : RI p1 (-1) (-1) := rc_eq1 r_p1 rl_m1 (ti_eq c_69) (by decide)
          refine lv_iload_n hx hb dX10_said_72 rfl (lv_at hl 2 rfl) ?_
          refine lv_goto (tgt := 77) hx hb dX10_said_73 (by decide) ?_
          subst hQ
          exact W.iret (v := x2) hx hb hr (fun t ht hW => ⟨⟨x2, ws, rfl, ⟨⟨r_x2.to (by decide), (fun h0 => trivial), (fun h0 => trivial)⟩, hw.1, hw.2.2.2.2.1⟩, by rw [ht]; exact hw.2.1, va_K.moved hW.alike hK, hw.2.2.1⟩, hw.2.2.2.1.F ht⟩) hw.2.2.2.1.2.2 dX10_said_77
      · have r_x3 : RI x3 0 5 := rc_lt1 r_x3 r_v_2 (ti_nle c_29) (by decide)
        have r_v_2 : RI v_2 1 6 := rc_lt2 r_x3 r_v_2 (ti_nle c_29) (by decide)
        refine lv_aload_n hx hb dX10_said_32 rfl (lv_at hl 0 rfl) ?_
        refine lv_aload_n hx hb dX10_said_33 rfl (lv_at hl 0 rfl) ?_
        refine tg_mem (ci := 10) (C := RX10) (T := TX10) (N := 49) hx hb hts inX10 hown hK hw 14 m_u_1 rfl (by decide) (hts _ tw_1151) (fun _ h9 => h9) dX10_said_34 ?_
        refine lv_sipush (v := 173) hx hb dX10_said_37 (by decide) ?_
        refine tg_iald (lo := 0) (hi := 59) hx hb hK hw h_vu_1 rfl 173 173 rl_173 (by decide) (by decide +kernel) dX10_said_40 (fun v_3 r_v_3 m_v_3 o_v_3 => ?_)
        refine lv_iload_n hx hb dX10_said_41 rfl (lv_at hl 3 rfl) ?_
        refine tk_ir (va_runV (As := [.int v_3, .int x3]) (rest := []) ⟨hx, hb, hml, hown, hts⟩ (c_X10_holds l D cy z H.size Ps ws hw.1 p0 v_3 x3 h_p0 r_v_3 r_x3) (cwV 2 hts (gV tw_1787 tw_1789 ts_119 tw_15 tw_1790) rfl rfl rfl (by decide +kernel) ⟨Nat.le_of_ble_eq_true rfl, Nat.le_of_ble_eq_true rfl⟩) (tg_preV hw hK hSD hA (ci := 10) (q := (RX10, TX10, 49)) rfl h_p0 rfl) rfl rfl hl.1 rfl (lv_room (Nat.le_of_ble_eq_true rfl)) dX10_said_42 ⟨Nat.le_of_ble_eq_true rfl, Nat.le_of_ble_eq_true rfl⟩) hw hA (fun v_4  H locs hp_v_4 hw => ?_)
        have r_v_4 : RI v_4 0 1 := hp_v_4.1
        refine lv_if_ne (tgt := 51) hx hb dX10_said_45 (by decide) (fun c_45 => ?_) (fun c_45 => ?_)
        · have r_v_4 : RI v_4 1 1 := rc_neL r_v_4 rl_0 (ti_ne c_45) (by decide)
          refine lv_iload_n hx hb dX10_said_51 rfl (lv_at hl 2 rfl) ?_
          refine lv_iload_n hx hb dX10_said_52 rfl (lv_at hl 1 rfl) ?_
          refine lv_icmp_ne (tgt := 58) hx hb dX10_said_53 (by decide) (fun c_53 => ?_) (fun c_53 => ?_)
          · obtain ⟨v_5, e_v_5⟩ : ∃ q9 : Int32, q9 = x2 + Int32.ofInt 1 := ⟨_, rfl⟩
            have r_v_5 := ri_any v_5
            refine lv_iinc (v := v_5) (lv' := [(2, .int v_5), (0, .ref p0), (1, .int p1), (3, .int x3)]) hx hb dX10_said_58 hl (k := 2) rfl e_v_5.symm (by decide) rfl (fun ls hl => ?_)
            obtain ⟨v_6, e_v_6⟩ : ∃ q9 : Int32, q9 = x3 + Int32.ofInt 1 := ⟨_, rfl⟩
            obtain ⟨t_v_6, r_v_6⟩ := tq_add (lo := 1) (hi := 6) r_x3 (show RI (Int32.ofInt 1) 1 1 by unfold RI; decide +kernel) (by decide +kernel) e_v_6
            have t_v_6 : v_6.toInt = x3.toInt + 1 := t_v_6
            refine lv_iinc (v := v_6) (lv' := [(3, .int v_6), (2, .int v_5), (0, .ref p0), (1, .int p1)]) hx hb dX10_said_61 hl (k := 3) rfl e_v_6.symm (by decide) rfl (fun ls hl => ?_)
            refine lv_goto (tgt := 22) hx hb dX10_said_64 (by decide) ?_
            exact ih22 v_5 v_6 z0_0 ws _ _ ls (by have q0 := r_v_6.1; have u0 := r_v_6.2; have o0 := r_x3.1; have p0 := r_x3.2; omega) r_p1 r_v_5 (r_v_6.to (by decide)) r_z0_0 m_z0_0 hw (lv_sub hl [2, 3, 1, 0] rfl)
          · refine lv_iload_n hx hb dX10_said_56 rfl (lv_at hl 3 rfl) ?_
            subst hQ
            exact W.iret (v := x3) hx hb hr (fun t ht hW => ⟨⟨x3, ws, rfl, ⟨⟨r_x3.to (by decide), (fun h0 => trivial), (fun h0 => trivial)⟩, hw.1, hw.2.2.2.2.1⟩, by rw [ht]; exact hw.2.1, va_K.moved hW.alike hK, hw.2.2.1⟩, hw.2.2.2.1.F ht⟩) hw.2.2.2.1.2.2 dX10_said_57
        · have r_v_4 : RI v_4 0 0 := rc_eq1 r_v_4 rl_0 (ti_eq c_45) (by decide)
          refine lv_goto (tgt := 61) hx hb dX10_said_48 (by decide) ?_
          obtain ⟨v_7, e_v_7⟩ : ∃ q9 : Int32, q9 = x3 + Int32.ofInt 1 := ⟨_, rfl⟩
          obtain ⟨t_v_7, r_v_7⟩ := tq_add (lo := 1) (hi := 6) r_x3 (show RI (Int32.ofInt 1) 1 1 by unfold RI; decide +kernel) (by decide +kernel) e_v_7
          have t_v_7 : v_7.toInt = x3.toInt + 1 := t_v_7
          refine lv_iinc (v := v_7) (lv' := [(3, .int v_7), (0, .ref p0), (1, .int p1), (2, .int x2)]) hx hb dX10_said_61 hl (k := 3) rfl e_v_7.symm (by decide) rfl (fun ls hl => ?_)
          refine lv_goto (tgt := 22) hx hb dX10_said_64 (by decide) ?_
          exact ih22 x2 v_7 z0_0 ws _ _ ls (by have q0 := r_v_7.1; have u0 := r_v_7.2; have o0 := r_x3.1; have p0 := r_x3.2; omega) r_p1 r_x2 (r_v_7.to (by decide)) r_z0_0 m_z0_0 hw (lv_sub hl [1, 2, 3, 0] rfl)
  refine lv_aload_n hx hb dX10_said_0 rfl (lv_at hl 0 rfl) ?_
  refine lv_iconst (v := 0) hx hb dX10_said_1 (by decide) ?_
  refine tg_put (ci := 10) (ts := ty_MODEL) (v := .int 0) (ty := .int) (C := RX10) (T := TX10) (N := 49) hx hb hts inX10 tyX10 tyX10_ok nmX10 hown hK hw h_p0 rfl rfl 0 (by decide) (hts _ tw_1137) (fun _ h9 => h9) rfl (by decide +kernel) rfl rfl (ft := vI (-2147483648) 2147483647) rfl ⟨_, rfl, (rl_0.to (by decide))⟩ (by decide) dX10_said_2 (fun ws H locs hw n_k_8 hF9 => ?_)
  refine lv_aload_n hx hb dX10_said_5 rfl (lv_at hl 0 rfl) ?_
  refine tg_get (ci := 10) (ts := ty_MODEL) (C := RX10) (T := TX10) (N := 49) hx hb hts inX10 hown hK hw h_p0 rfl rfl 14 (by decide) (hts _ tw_1151) (fun _ h9 => h9) (ft := vR 34) rfl dX10_said_6 (fun u_9 hv_u_9 m_u_9 => ?_)
  obtain ⟨vu_9, rfl, h_vu_9⟩ := hv_u_9
  refine lv_sipush (v := 172) hx hb dX10_said_9 (by decide) ?_
  refine tg_iald (lo := (-2147483648)) (hi := 2147483647) hx hb hK hw h_vu_9 rfl 172 172 rl_172 (by decide) (by decide +kernel) dX10_said_12 (fun v_10 r_v_10 m_v_10 o_v_10 => ?_)
  refine lv_if_ne (tgt := 18) hx hb dX10_said_13 (by decide) (fun c_13 => ?_) (fun c_13 => ?_)
  · refine lv_iconst (v := 0) hx hb dX10_said_18 (by decide) ?_
    refine lv_istore_n (lv' := [(2, .int 0), (0, .ref p0), (1, .int p1)]) hx hb dX10_said_19 rfl hl (by decide) rfl (fun ls hl => ?_)
    refine lv_iconst (v := 0) hx hb dX10_said_20 (by decide) ?_
    refine lv_istore_n (lv' := [(3, .int 0), (2, .int 0), (0, .ref p0), (1, .int p1)]) hx hb dX10_said_21 rfl hl (by decide) rfl (fun ls hl => ?_)
    exact B22 4294967298 0 0 0 ws _ _ ls (by have q0 := rl_0.1; have u0 := rl_0.2; omega) r_p1 (rl_0.to (by decide)) (rl_0.to (by decide)) rl_0 n_k_8 hw (lv_sub hl [2, 3, 1, 0] rfl)
  · have r_v_10 : RI v_10 0 0 := rc_eq1 r_v_10 rl_0 (ti_eq c_13) (by decide)
    refine lv_iconst (v := (-1)) hx hb dX10_said_16 (by decide) ?_
    subst hQ
    exact W.iret (v := (-1)) hx hb hr (fun t ht hW => ⟨⟨(-1), ws, rfl, ⟨⟨rl_m1.to (by decide), (fun _ => trivial), (fun h0 => trivial)⟩, hw.1, hw.2.2.2.2.1⟩, by rw [ht]; exact hw.2.1, va_K.moved hW.alike hK, hw.2.2.1⟩, hw.2.2.2.1.F ht⟩) hw.2.2.2.1.2.2 dX10_said_17
