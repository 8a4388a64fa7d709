abbrev wr_X7_startText__4 : List (Nat × Nat) := [(7, 3), (7, 4), (7, 5), (7, 6), (7, 7), (7, 8), (7, 9), (7, 10), (7, 11)]
abbrev wa_X7_startText__4 : List Nat := []
set_option maxHeartbeats 4000000 in
set_option maxRecDepth 100000 in
theorem c_X7_startText__4 (l : Launch) (D : va_G) (cy : Nat → ClassId) (z : Nat → Nat) (sz : Nat) (Ps : PSI) (w0 : va_W) (hT : HT cy GG Ps w0) (p0 : Nat) (p1 : Int32) (s0 : OS) (h_p0 : (p0, 26) ∈ Ps) (r_p1 : RI p1 200 200) (o_p0 : OV vw_TAPE Ps w0 p0 s0) : Met l yX7_startText (Cond.code yX7_startText cX7_startText 2 none :: gT) ({ frames := 3, cells := 0, slots := 0, locals := 600 } : Room) (va_Pc [.ref p0, .int p1] (PRE D cy z w0 sz)) (va_Qv (fun (u : va_W) => ((OV vw_TAPE Ps u p0 ((f_X7_startText__3 p1 s0)) ∧ True) ∧ ((∃ v9 : Int32, FLD u p0 7 10 (.int v9) ∧ RI v9 0 0) ∧ True)) ∧ HT cy GG Ps u ∧ FR wr_X7_startText__4 wa_X7_startText__4 Ps w0 u) (BB D cy (va_A w0 sz) (fun (u : va_W) => u)) (va_A w0 sz)) 0 0 (va_A w0 sz) := by
  refine Met.ofW (cc := cX7_startText) (maxL := 2) (ret := none) (by decide) rfl ?_
  intro p e s m args below meth c s₁ B hml hv
  obtain ⟨rfl, hsz, hP, hK, hD0, hSD⟩ := hv
  have hx := B.exec
  have hb := B.bytes
  have hr := B.returns
  have hlocks := B.notSynchronized
  have hts : ∀ w ∈ gT, w.before _ s = true := fun w h => atoms_spec (ws := Cond.code yX7_startText cX7_startText 2 none :: gT) B.pre w (List.mem_cons_of_mem _ h)
  have hown : s.vm.findClass RX7 = some m.cls := findClass_of_methodNamed B.named
  subst hsz
  have hD := hD0.self (sz := s.heap.size)
  generalize hAe : va_A w0 s.heap.size = A at hD hSD ⊢
  have hA : ∀ q : Nat, s.heap.size ≤ q → A q := fun q h => by rw [← hAe]; exact Or.inr h
  have hl := lv_entry ([.ref p0, .int p1]) (n := 2) (Nat.le_of_ble_eq_true rfl)
  rw [lg_entry_eq]
  generalize (lg_sl ([.ref p0, .int p1]) ++ List.replicate (2 - (lg_sl ([.ref p0, .int p1])).length) Slot.unset).toArray = ls at hl ⊢
  have hl : lv_has ls 2 [(0, .ref p0), (1, .int p1)] := hl
  refine nameQ (fun Q hQ => ?_)
  have hw : WD D cy GG A s wr_X7_startText__4 wa_X7_startText__4 Ps w0 Ps w0 s.heap [] := ⟨hT, hP, hD, va_S.rf, FR.rf, hT.1, [], (List.append_nil _).symm⟩
  obtain ⟨R9, hR⟩ : ∃ q9 : OS, f_X7_startText__3 p1 s0 = q9 := ⟨_, rfl⟩
  have hE := hR
  have B33 : ∀ (y0 : Int32) (s0 : OS) (ws : va_W) (H : Heap) (locs : List Loc) (ls : Array Slot), RI p1 200 200 → RI y0 0 940 → OV vw_TAPE Ps ws p0 s0 → f_X7_startText__3_33 p1 y0 s0 = R9 → WD D cy GG A s wr_X7_startText__4 wa_X7_startText__4 Ps w0 Ps ws H locs → lv_has ls 2 [(0, .ref p0), (1, .int p1)] → W p l e (headSpec (Cond.code yX7_startText cX7_startText 2 none :: gT) ({ frames := 3, cells := 0, slots := 0, locals := 600 } : Room)).room s m ([.ref p0, .int p1] : List Value).toArray below meth c H locs 0 0 Q (F0 m 33 ls [.int y0, .ref p0]) := by
    intro y0 s0 ws H locs ls r_p1 r_y0 o_p0 hE hw hl
    refine tg_put (ci := 7) (ts := ty_TAPE) (v := .int y0) (ty := .int) (C := RX7) (T := TX7) (N := 12) hx hb hts inX7 tyX7 tyX7_ok nmX7 hown hK hw h_p0 rfl rfl 3 (by decide) (hts _ tw_91) (fun _ h9 => h9) rfl (by decide +kernel) rfl rfl (ft := vI 0 940) rfl ⟨_, rfl, r_y0⟩ (by decide) dX7_startText_33 (fun ws H locs hw n_k_1 hF9 => ?_)
    obtain ⟨sg_2, q_sg_2⟩ : ∃ q9 : OS, sI s0 3 y0 = q9 := ⟨_, rfl⟩
    have o_p0 : OV vw_TAPE Ps ws p0 sg_2 := by rw [← q_sg_2]; exact OV.putI (V := vw_TAPE) hF9 n_k_1 o_p0 (by decide)
    refine lv_aload_n hx hb dX7_startText_36 rfl (lv_at hl 0 rfl) ?_
    refine lv_iconst (v := 0) hx hb dX7_startText_37 (by decide) ?_
    refine tg_put (ci := 7) (ts := ty_TAPE) (v := .int 0) (ty := .int) (C := RX7) (T := TX7) (N := 12) hx hb hts inX7 tyX7 tyX7_ok nmX7 hown hK hw h_p0 rfl rfl 6 (by decide) (hts _ tw_94) (fun _ h9 => h9) rfl (by decide +kernel) rfl rfl (ft := vI 0 940) rfl ⟨_, rfl, (rl_0.to (by decide))⟩ (by decide) dX7_startText_38 (fun ws H locs hw n_k_3 hF9 => ?_)
    have n_k_1 := FLD.over hF9 n_k_1 (by decide)
    obtain ⟨sg_4, q_sg_4⟩ : ∃ q9 : OS, sI sg_2 6 (0 : Int32) = q9 := ⟨_, rfl⟩
    have o_p0 : OV vw_TAPE Ps ws p0 sg_4 := by rw [← q_sg_4]; exact OV.putI (V := vw_TAPE) hF9 n_k_3 o_p0 (by decide)
    refine lv_aload_n hx hb dX7_startText_41 rfl (lv_at hl 0 rfl) ?_
    refine lv_iconst (v := 0) hx hb dX7_startText_42 (by decide) ?_
    refine tg_put (ci := 7) (ts := ty_TAPE) (v := .int 0) (ty := .int) (C := RX7) (T := TX7) (N := 12) hx hb hts inX7 tyX7 tyX7_ok nmX7 hown hK hw h_p0 rfl rfl 10 (by decide) (hts _ tw_104) (fun _ h9 => h9) rfl (by decide +kernel) rfl rfl (ft := vI 0 4) rfl ⟨_, rfl, (rl_0.to (by decide))⟩ (by decide) dX7_startText_43 (fun ws H locs hw n_k_5 hF9 => ?_)
    have n_k_1 := FLD.over hF9 n_k_1 (by decide)
    have n_k_3 := FLD.over hF9 n_k_3 (by decide)
    obtain ⟨sg_6, q_sg_6⟩ : ∃ q9 : OS, sI sg_4 10 (0 : Int32) = q9 := ⟨_, rfl⟩
    have o_p0 : OV vw_TAPE Ps ws p0 sg_6 := by rw [← q_sg_6]; exact OV.putI (V := vw_TAPE) hF9 n_k_5 o_p0 (by decide)
    refine lv_aload_n hx hb dX7_startText_46 rfl (lv_at hl 0 rfl) ?_
    refine lv_iconst (v := 0) hx hb dX7_startText_47 (by decide) ?_
    refine tg_put (ci := 7) (ts := ty_TAPE) (v := .int 0) (ty := .int) (C := RX7) (T := TX7) (N := 12) hx hb hts inX7 tyX7 tyX7_ok nmX7 hown hK hw h_p0 rfl rfl 11 (by decide) (hts _ tw_108) (fun _ h9 => h9) rfl (by decide +kernel) rfl rfl (ft := vI (-2147483648) 2147483647) rfl ⟨_, rfl, (rl_0.to (by decide))⟩ (by decide) dX7_startText_48 (fun ws H locs hw n_k_7 hF9 => ?_)
    have n_k_1 := FLD.over hF9 n_k_1 (by decide)
    have n_k_3 := FLD.over hF9 n_k_3 (by decide)
    have n_k_5 := FLD.over hF9 n_k_5 (by decide)
    obtain ⟨sg_8, q_sg_8⟩ : ∃ q9 : OS, sI sg_6 11 (0 : Int32) = q9 := ⟨_, rfl⟩
    have o_p0 : OV vw_TAPE Ps ws p0 sg_8 := by rw [← q_sg_8]; exact OV.putI (V := vw_TAPE) hF9 n_k_7 o_p0 (by decide)
    refine lv_aload_n hx hb dX7_startText_51 rfl (lv_at hl 0 rfl) ?_
    refine tk_v (va_runV (As := []) (rest := []) ⟨hx, hb, hml, hown, hts⟩ (c_X7_pass__5 l D cy z H.size Ps ws hw.1 p0 0 sg_8 h_p0 rl_0 n_k_5 o_p0) (cwV 0 hts (gV tw_424 tw_425 tw_426 tw_2 tw_427) rfl rfl rfl (by decide +kernel) ⟨Nat.le_of_ble_eq_true rfl, Nat.le_of_ble_eq_true rfl⟩) (tg_preV hw hK hSD hA (ci := 7) (q := (RX7, TX7, 12)) rfl h_p0 rfl) rfl rfl hl.1 rfl (lv_room (Nat.le_of_ble_eq_true rfl)) dX7_startText_52 ⟨Nat.le_of_ble_eq_true rfl, Nat.le_of_ble_eq_true rfl⟩) hw hA ⟨by decide, by decide⟩ (fun ws H locs hp_v_9 hw hF9 => ?_)
    have n_k_1 := FLD.over hF9 n_k_1 (by decide)
    have n_k_5 := FLD.over hF9 n_k_5 (by decide)
    have n_k_7 := FLD.over hF9 n_k_7 (by decide)
    obtain ⟨hfn, hp_v_9⟩ := hp_v_9
    obtain ⟨sg_10, q_sg_10⟩ : ∃ q9 : OS, (f_X7_pass__5 sg_8) = q9 := ⟨_, rfl⟩
    have o_p0 : OV vw_TAPE Ps ws p0 sg_10 := by rw [← q_sg_10]; exact hfn.1
    obtain ⟨v_11, m_v_11, r_v_11⟩ := (hp_v_9.1)
    simp only [f_X7_startText__3_33, ↓reduceIte, q_sg_2, q_sg_4, q_sg_6, q_sg_8, q_sg_10] at hE
    subst hQ
    exact W.vret hx hb hr (fun t ht hW => ⟨⟨ws, rfl, ⟨⟨⟨(by rw [hR, ← hE]; exact o_p0), trivial⟩, ⟨⟨_, m_v_11, r_v_11⟩, trivial⟩⟩, hw.1, hw.2.2.2.2.1⟩, by rw [ht]; exact hw.2.1, va_K.moved hW.alike hK, hw.2.2.1⟩, hw.2.2.2.1.F ht⟩) hw.2.2.2.1.2.2 dX7_startText_55
  have B14 : ∀ (y0 : Int32) (s0 : OS) (ws : va_W) (H : Heap) (locs : List Loc) (ls : Array Slot), RI p1 200 200 → RI y0 0 1 → OV vw_TAPE Ps ws p0 s0 → f_X7_startText__3_14 p1 y0 s0 = R9 → WD D cy GG A s wr_X7_startText__4 wa_X7_startText__4 Ps w0 Ps ws H locs → lv_has ls 2 [(0, .ref p0), (1, .int p1)] → W p l e (headSpec (Cond.code yX7_startText cX7_startText 2 none :: gT) ({ frames := 3, cells := 0, slots := 0, locals := 600 } : Room)).room s m ([.ref p0, .int p1] : List Value).toArray below meth c H locs 0 0 Q (F0 m 14 ls [.int y0, .ref p0]) := by
    intro y0 s0 ws H locs ls r_p1 r_y0 o_p0 hE hw hl
    refine tg_put (ci := 7) (ts := ty_TAPE) (v := .int y0) (ty := .boolean) (C := RX7) (T := TX7) (N := 12) hx hb hts inX7 tyX7 tyX7_ok nmX7 hown hK hw h_p0 rfl rfl 4 (by decide) (hts _ tw_92) (fun _ h9 => h9) rfl (by decide +kernel) (tq_nz r_y0) (tq_fz r_y0) (ft := vI 0 1) rfl ⟨_, rfl, r_y0⟩ (by decide) dX7_startText_14 (fun ws H locs hw n_k_12 hF9 => ?_)
    obtain ⟨sg_13, q_sg_13⟩ : ∃ q9 : OS, sI s0 4 y0 = q9 := ⟨_, rfl⟩
    have o_p0 : OV vw_TAPE Ps ws p0 sg_13 := by rw [← q_sg_13]; exact OV.putI (V := vw_TAPE) hF9 n_k_12 o_p0 (by decide)
    refine lv_aload_n hx hb dX7_startText_17 rfl (lv_at hl 0 rfl) ?_
    refine lv_aload_n hx hb dX7_startText_18 rfl (lv_at hl 0 rfl) ?_
    refine tg_mem (ci := 7) (C := RX7) (T := TX7) (N := 12) hx hb hts inX7 hown hK hw 4 n_k_12 rfl (by decide) (hts _ tw_92) (fun _ h9 => h9) dX7_startText_19 ?_
    refine lv_if_eq (tgt := 29) hx hb dX7_startText_22 (by decide) (fun c_22 => ?_) (fun c_22 => ?_)
    · have r_y0 : RI y0 0 0 := rc_eq1 r_y0 rl_0 (ti_eq c_22) (by decide)
      refine lv_aload_n hx hb dX7_startText_29 rfl (lv_at hl 0 rfl) ?_
      refine tg_get (ci := 7) (ts := ty_TAPE) (C := RX7) (T := TX7) (N := 12) hx hb hts inX7 hown hK hw h_p0 rfl rfl 2 (by decide) (hts _ tw_89) (fun _ h9 => h9) (ft := vI 0 940) rfl dX7_startText_30 (fun u_14 hv_u_14 m_u_14 => ?_)
      obtain ⟨vu_14, rfl, r_vu_14⟩ := hv_u_14
      have q_vu_14 : sg_13.1 2 = vu_14 := OV.eqI (V := vw_TAPE) hw.2.2.1 o_p0 m_u_14 (by decide)
      simp only [f_X7_startText__3_14, ↓reduceIte, q_sg_13, eq_true c_22, q_vu_14] at hE
      exact B33 vu_14 sg_13 ws _ _ ls r_p1 r_vu_14 o_p0 hE hw hl
    · have r_y0 : RI y0 1 1 := rc_neL r_y0 rl_0 (ti_ne c_22) (by decide)
      refine lv_iload_n hx hb dX7_startText_25 rfl (lv_at hl 1 rfl) ?_
      refine lv_goto (tgt := 33) hx hb dX7_startText_26 (by decide) ?_
      simp only [f_X7_startText__3_14, ↓reduceIte, q_sg_13, eq_false c_22] at hE
      exact B33 p1 sg_13 ws _ _ ls r_p1 (r_p1.to (by decide)) o_p0 hE hw hl
  refine lv_aload_n hx hb dX7_startText_0 rfl (lv_at hl 0 rfl) ?_
  refine lv_aload_n hx hb dX7_startText_1 rfl (lv_at hl 0 rfl) ?_
  refine tg_get (ci := 7) (ts := ty_TAPE) (C := RX7) (T := TX7) (N := 12) hx hb hts inX7 hown hK hw h_p0 rfl rfl 2 (by decide) (hts _ tw_89) (fun _ h9 => h9) (ft := vI 0 940) rfl dX7_startText_2 (fun u_15 hv_u_15 m_u_15 => ?_)
  obtain ⟨vu_15, rfl, r_vu_15⟩ := hv_u_15
  have q_vu_15 : s0.1 2 = vu_15 := OV.eqI (V := vw_TAPE) hw.2.2.1 o_p0 m_u_15 (by decide)
  refine lv_iload_n hx hb dX7_startText_5 rfl (lv_at hl 1 rfl) ?_
  refine lv_icmp_le (tgt := 13) hx hb dX7_startText_6 (by decide) (fun c_6 => ?_) (fun c_6 => ?_)
  · have r_vu_15 : RI vu_15 0 200 := rc_le1 r_vu_15 r_p1 (ti_le c_6) (by decide)
    refine lv_iconst (v := 0) hx hb dX7_startText_13 (by decide) ?_
    simp only [f_X7_startText__3, ↓reduceIte, q_vu_15, eq_true c_6] at hE
    exact B14 0 s0 w0 _ _ ls r_p1 (rl_0.to (by decide)) o_p0 hE hw hl
  · have r_vu_15 : RI vu_15 201 940 := rc_lt2 r_p1 r_vu_15 (ti_nle c_6) (by decide)
    refine lv_iconst (v := 1) hx hb dX7_startText_9 (by decide) ?_
    refine lv_goto (tgt := 14) hx hb dX7_startText_10 (by decide) ?_
    simp only [f_X7_startText__3, ↓reduceIte, q_vu_15, eq_false c_6] at hE
    exact B14 1 s0 w0 _ _ ls r_p1 (rl_1.to (by decide)) o_p0 hE hw hl
abbrev wr_X5_addStep__1 : List (Nat × Nat) := [(5, 3)]
abbrev wa_X5_addStep__1 : List Nat := [21]
set_option maxHeartbeats 4000000 in
set_option maxRecDepth 100000 in
theorem c_X5_addStep__1 (l : Launch) (D : va_G) (cy : Nat → ClassId) (z : Nat → Nat) (sz : Nat) (Ps : PSI) (w0 : va_W) (hT : HT cy GG Ps w0) (p0 : Nat) (p1 : Int32) (p2 : Int32) (p3 : Int32) (s0 : OS) (h_p0 : (p0, 32) ∈ Ps) (r_p1 : RI p1 (-2147483648) 2147483647) (r_p2 : RI p2 (-2147483648) 2147483647) (r_p3 : RI p3 (-2147483648) 2147483647) (o_p0 : OV vw_SENT Ps w0 p0 s0) : Met l yX5_addStep (Cond.code yX5_addStep cX5_addStep 4 none :: gT) ({ frames := 0, cells := 0, slots := 0, locals := 200 } : Room) (va_Pc [.ref p0, .int p1, .int p2, .int p3] (PRE D cy z w0 sz)) (va_Qv (fun (u : va_W) => ((OV vw_SENT Ps u p0 ((f_X5_addStep__1 p1 p2 p3 s0)) ∧ True) ∧ ((∃ v9 : Int32, FLD u p0 5 3 (.int v9) ∧ RI v9 1 40) ∧ True)) ∧ HT cy GG Ps u ∧ FR wr_X5_addStep__1 wa_X5_addStep__1 Ps w0 u) (BB D cy (va_A w0 sz) (fun (u : va_W) => u)) (va_A w0 sz)) 0 0 (va_A w0 sz) := by
  refine Met.ofW (cc := cX5_addStep) (maxL := 4) (ret := none) (by decide) rfl ?_
  intro p e s m args below meth c s₁ B hml hv
  obtain ⟨rfl, hsz, hP, hK, hD0, hSD⟩ := hv
  have hx := B.exec
  have hb := B.bytes
  have hr := B.returns
  have hlocks := B.notSynchronized
  have hts : ∀ w ∈ gT, w.before _ s = true := fun w h => atoms_spec (ws := Cond.code yX5_addStep cX5_addStep 4 none :: gT) B.pre w (List.mem_cons_of_mem _ h)
  have hown : s.vm.findClass RX5 = some m.cls := findClass_of_methodNamed B.named
  subst hsz
  have hD := hD0.self (sz := s.heap.size)
  generalize hAe : va_A w0 s.heap.size = A at hD hSD ⊢
  have hA : ∀ q : Nat, s.heap.size ≤ q → A q := fun q h => by rw [← hAe]; exact Or.inr h
  have hl := lv_entry ([.ref p0, .int p1, .int p2, .int p3]) (n := 4) (Nat.le_of_ble_eq_true rfl)
  rw [lg_entry_eq]
  generalize (lg_sl ([.ref p0, .int p1, .int p2, .int p3]) ++ List.replicate (4 - (lg_sl ([.ref p0, .int p1, .int p2, .int p3])).length) Slot.unset).toArray = ls at hl ⊢
  have hl : lv_has ls 4 [(0, .ref p0), (1, .int p1), (2, .int p2), (3, .int p3)] := hl
  refine nameQ (fun Q hQ => ?_)
  have hw : WD D cy GG A s wr_X5_addStep__1 wa_X5_addStep__1 Ps w0 Ps w0 s.heap [] := ⟨hT, hP, hD, va_S.rf, FR.rf, hT.1, [], (List.append_nil _).symm⟩
  obtain ⟨R9, hR⟩ : ∃ q9 : OS, f_X5_addStep__1 p1 p2 p3 s0 = q9 := ⟨_, rfl⟩
  have hE := hR
  refine lv_aload_n hx hb dX5_addStep_0 rfl (lv_at hl 0 rfl) ?_
  refine tg_get (ci := 5) (ts := ty_SENT) (C := RX5) (T := TX5) (N := 5) hx hb hts inX5 hown hK hw h_p0 rfl rfl 3 (by decide) (hts _ tw_954) (fun _ h9 => h9) (ft := vI 0 40) rfl dX5_addStep_1 (fun u_1 hv_u_1 m_u_1 => ?_)
  obtain ⟨vu_1, rfl, r_vu_1⟩ := hv_u_1
  have q_vu_1 : s0.1 3 = vu_1 := OV.eqI (V := vw_SENT) hw.2.2.1 o_p0 m_u_1 (by decide)
  refine lv_aload_n hx hb dX5_addStep_4 rfl (lv_at hl 0 rfl) ?_
  refine tg_get (ci := 5) (ts := ty_SENT) (C := RX5) (T := TX5) (N := 5) hx hb hts inX5 hown hK hw h_p0 rfl rfl 0 (by decide) (hts _ tw_951) (fun _ h9 => h9) (ft := vR 21) rfl dX5_addStep_5 (fun u_2 hv_u_2 m_u_2 => ?_)
  obtain ⟨vu_2, rfl, h_vu_2⟩ := hv_u_2
  refine tg_alenI (t0 := 1) (v := 40) hx hb hK hw h_vu_2 rfl rfl rfl dX5_addStep_8 ?_
  refine lv_icmp_ge (tgt := 52) hx hb dX5_addStep_9 (by decide) (fun c_9 => ?_) (fun c_9 => ?_)
  · have r_vu_1 : RI vu_1 40 40 := rc_le2 rl_40 r_vu_1 (ti_le c_9) (by decide)
    simp only [f_X5_addStep__1, ↓reduceIte, q_vu_1, eq_true c_9] at hE
    subst hQ
    exact W.vret hx hb hr (fun t ht hW => ⟨⟨w0, rfl, ⟨⟨⟨(by rw [hR, ← hE]; exact o_p0), trivial⟩, ⟨⟨_, m_u_1, (r_vu_1.to (by decide))⟩, trivial⟩⟩, hw.1, hw.2.2.2.2.1⟩, by rw [ht]; exact hw.2.1, va_K.moved hW.alike hK, hw.2.2.1⟩, hw.2.2.2.1.F ht⟩) hw.2.2.2.1.2.2 dX5_addStep_52
  · have r_vu_1 : RI vu_1 0 39 := rc_lt1 r_vu_1 rl_40 (ti_nle c_9) (by decide)
    refine lv_aload_n hx hb dX5_addStep_12 rfl (lv_at hl 0 rfl) ?_
    refine tg_mem (ci := 5) (C := RX5) (T := TX5) (N := 5) hx hb hts inX5 hown hK hw 0 m_u_2 rfl (by decide) (hts _ tw_951) (fun _ h9 => h9) dX5_addStep_13 ?_
    refine lv_aload_n hx hb dX5_addStep_16 rfl (lv_at hl 0 rfl) ?_
    refine tg_mem (ci := 5) (C := RX5) (T := TX5) (N := 5) hx hb hts inX5 hown hK hw 3 m_u_1 rfl (by decide) (hts _ tw_954) (fun _ h9 => h9) dX5_addStep_17 ?_
    refine lv_iload_n hx hb dX5_addStep_20 rfl (lv_at hl 1 rfl) ?_
    refine tg_iast hx hb hK hw h_vu_2 rfl 0 39 r_vu_1 (by decide) r_p1 (by exact fun _ _ _ => by decide) (fun _ _ _ _ _ => trivial) (by decide) dX5_addStep_21 (fun ws H locs hw hF9 hU9 => ?_)
    have m_u_1 := FLD.over hF9 m_u_1 (by decide)
    have m_u_2 := FLD.over hF9 m_u_2 (by decide)
    have o_p0 := OV.over (V := vw_SENT) hF9 o_p0 (by decide)
    refine lv_aload_n hx hb dX5_addStep_22 rfl (lv_at hl 0 rfl) ?_
    refine tg_get (ci := 5) (ts := ty_SENT) (C := RX5) (T := TX5) (N := 5) hx hb hts inX5 hown hK hw h_p0 rfl rfl 1 (by decide) (hts _ tw_952) (fun _ h9 => h9) (ft := vR 21) rfl dX5_addStep_23 (fun u_3 hv_u_3 m_u_3 => ?_)
    obtain ⟨vu_3, rfl, h_vu_3⟩ := hv_u_3
    refine lv_aload_n hx hb dX5_addStep_26 rfl (lv_at hl 0 rfl) ?_
    refine tg_mem (ci := 5) (C := RX5) (T := TX5) (N := 5) hx hb hts inX5 hown hK hw 3 m_u_1 rfl (by decide) (hts _ tw_954) (fun _ h9 => h9) dX5_addStep_27 ?_
    refine lv_iload_n hx hb dX5_addStep_30 rfl (lv_at hl 2 rfl) ?_
    refine tg_iast hx hb hK hw h_vu_3 rfl 0 39 r_vu_1 (by decide) r_p2 (by exact fun _ _ _ => by decide) (fun _ _ _ _ _ => trivial) (by decide) dX5_addStep_31 (fun ws H locs hw hF9 hU9 => ?_)
    have m_u_1 := FLD.over hF9 m_u_1 (by decide)
    have m_u_2 := FLD.over hF9 m_u_2 (by decide)
    have m_u_3 := FLD.over hF9 m_u_3 (by decide)
    have o_p0 := OV.over (V := vw_SENT) hF9 o_p0 (by decide)
    refine lv_aload_n hx hb dX5_addStep_32 rfl (lv_at hl 0 rfl) ?_
    refine tg_get (ci := 5) (ts := ty_SENT) (C := RX5) (T := TX5) (N := 5) hx hb hts inX5 hown hK hw h_p0 rfl rfl 2 (by decide) (hts _ tw_953) (fun _ h9 => h9) (ft := vR 21) rfl dX5_addStep_33 (fun u_4 hv_u_4 m_u_4 => ?_)
    obtain ⟨vu_4, rfl, h_vu_4⟩ := hv_u_4
    refine lv_aload_n hx hb dX5_addStep_36 rfl (lv_at hl 0 rfl) ?_
    refine tg_mem (ci := 5) (C := RX5) (T := TX5) (N := 5) hx hb hts inX5 hown hK hw 3 m_u_1 rfl (by decide) (hts _ tw_954) (fun _ h9 => h9) dX5_addStep_37 ?_
    refine lv_iload_n hx hb dX5_addStep_40 rfl (lv_at hl 3 rfl) ?_
    refine tg_iast hx hb hK hw h_vu_4 rfl 0 39 r_vu_1 (by decide) r_p3 (by exact fun _ _ _ => by decide) (fun _ _ _ _ _ => trivial) (by decide) dX5_addStep_41 (fun ws H locs hw hF9 hU9 => ?_)
    have m_u_1 := FLD.over hF9 m_u_1 (by decide)
    have m_u_2 := FLD.over hF9 m_u_2 (by decide)
    have m_u_3 := FLD.over hF9 m_u_3 (by decide)
    have m_u_4 := FLD.over hF9 m_u_4 (by decide)
    have o_p0 := OV.over (V := vw_SENT) hF9 o_p0 (by decide)
    refine lv_aload_n hx hb dX5_addStep_42 rfl (lv_at hl 0 rfl) ?_
    refine lv_dup hx hb dX5_addStep_43 rfl ?_
    refine tg_mem (ci := 5) (C := RX5) (T := TX5) (N := 5) hx hb hts inX5 hown hK hw 3 m_u_1 rfl (by decide) (hts _ tw_954) (fun _ h9 => h9) dX5_addStep_44 ?_
    refine lv_iconst (v := 1) hx hb dX5_addStep_47 (by decide) ?_
    refine lv_iadd hx hb dX5_addStep_48 (lv_topi (fun v_5 e_v_5 => ?_))
    obtain ⟨t_v_5, r_v_5⟩ := tq_add (lo := 1) (hi := 40) r_vu_1 rl_1 (by decide +kernel) e_v_5
    have t_v_5 : v_5.toInt = vu_1.toInt + 1 := t_v_5
    have q_v_5 : vu_1 + (1 : Int32) = v_5 := e_v_5.symm
    refine tg_put (ci := 5) (ts := ty_SENT) (v := .int v_5) (ty := .int) (C := RX5) (T := TX5) (N := 5) hx hb hts inX5 tyX5 tyX5_ok nmX5 hown hK hw h_p0 rfl rfl 3 (by decide) (hts _ tw_954) (fun _ h9 => h9) rfl (by decide +kernel) rfl rfl (ft := vI 0 40) rfl ⟨_, rfl, (r_v_5.to (by decide))⟩ (by decide) dX5_addStep_49 (fun ws H locs hw n_k_6 hF9 => ?_)
    have m_u_2 := FLD.over hF9 m_u_2 (by decide)
    have m_u_3 := FLD.over hF9 m_u_3 (by decide)
    have m_u_4 := FLD.over hF9 m_u_4 (by decide)
    obtain ⟨sg_7, q_sg_7⟩ : ∃ q9 : OS, sI s0 3 v_5 = q9 := ⟨_, rfl⟩
    have o_p0 : OV vw_SENT Ps ws p0 sg_7 := by rw [← q_sg_7]; exact OV.putI (V := vw_SENT) hF9 n_k_6 o_p0 (by decide)
    simp only [f_X5_addStep__1, ↓reduceIte, q_vu_1, eq_false c_9, q_v_5, q_sg_7] at hE
    subst hQ
    exact W.vret hx hb hr (fun t ht hW => ⟨⟨ws, rfl, ⟨⟨⟨(by rw [hR, ← hE]; exact o_p0), trivial⟩, ⟨⟨_, n_k_6, r_v_5⟩, trivial⟩⟩, hw.1, hw.2.2.2.2.1⟩, by rw [ht]; exact hw.2.1, va_K.moved hW.alike hK, hw.2.2.1⟩, hw.2.2.2.1.F ht⟩) hw.2.2.2.1.2.2 dX5_addStep_52
abbrev wr_X5_readPlain__1 : List (Nat × Nat) := [(5, 3), (7, 5), (7, 6), (7, 7), (7, 8), (7, 9), (7, 10), (7, 11)]
abbrev wa_X5_readPlain__1 : List Nat := [21]
set_option maxHeartbeats 4000000 in
set_option maxRecDepth 100000 in
theorem c_X5_readPlain__1 (l : Launch) (D : va_G) (cy : Nat → ClassId) (z : Nat → Nat) (sz : Nat) (Ps : PSI) (w0 : va_W) (hT : HT cy GG Ps w0) (p0 : Nat) (p1 : Nat) (p2 : Nat) (p3 : Int32) (s0 : OS) (s1 : OS) (s2 : OS) (h_p0 : (p0, 32) ∈ Ps) (h_p1 : (p1, 26) ∈ Ps) (h_p2 : (p2, 25) ∈ Ps) (r_p3 : RI p3 (-2147483648) 2147483647) (o_p0 : OV vw_SENT Ps w0 p0 s0) (o_p1 : OV vw_TAPE Ps w0 p1 s1) (o_p2 : OV vw_POST Ps w0 p2 s2) : Met l yX5_readPlain (Cond.code yX5_readPlain cX5_readPlain 5 none :: gT) ({ frames := 4, cells := 0, slots := 0, locals := 800 } : Room) (va_Pc [.ref p0, .ref p1, .ref p2, .int p3] (PRE D cy z w0 sz)) (va_Qv (fun (u : va_W) => ((OV vw_SENT Ps u p0 ((f_X5_readPlain__1 p3 s0 s1 s2).1) ∧ OV vw_TAPE Ps u p1 ((f_X5_readPlain__1 p3 s0 s1 s2).2.1) ∧ OV vw_POST Ps u p2 ((f_X5_readPlain__1 p3 s0 s1 s2).2.2) ∧ True) ∧ ((∃ v9 : Int32, FLD u p0 5 3 (.int v9) ∧ RI v9 1 40) ∧ True)) ∧ HT cy GG Ps u ∧ FR wr_X5_readPlain__1 wa_X5_readPlain__1 Ps w0 u) (BB D cy (va_A w0 sz) (fun (u : va_W) => u)) (va_A w0 sz)) 0 0 (va_A w0 sz) := by
  refine Met.ofW (cc := cX5_readPlain) (maxL := 5) (ret := none) (by decide) rfl ?_
  intro p e s m args below meth c s₁ B hml hv
  obtain ⟨rfl, hsz, hP, hK, hD0, hSD⟩ := hv
  have hx := B.exec
  have hb := B.bytes
  have hr := B.returns
  have hlocks := B.notSynchronized
  have hts : ∀ w ∈ gT, w.before _ s = true := fun w h => atoms_spec (ws := Cond.code yX5_readPlain cX5_readPlain 5 none :: gT) B.pre w (List.mem_cons_of_mem _ h)
  have hown : s.vm.findClass RX5 = some m.cls := findClass_of_methodNamed B.named
  subst hsz
  have hD := hD0.self (sz := s.heap.size)
  generalize hAe : va_A w0 s.heap.size = A at hD hSD ⊢
  have hA : ∀ q : Nat, s.heap.size ≤ q → A q := fun q h => by rw [← hAe]; exact Or.inr h
  have hl := lv_entry ([.ref p0, .ref p1, .ref p2, .int p3]) (n := 5) (Nat.le_of_ble_eq_true rfl)
  rw [lg_entry_eq]
  generalize (lg_sl ([.ref p0, .ref p1, .ref p2, .int p3]) ++ List.replicate (5 - (lg_sl ([.ref p0, .ref p1, .ref p2, .int p3])).length) Slot.unset).toArray = ls at hl ⊢
  have hl : lv_has ls 5 [(0, .ref p0), (1, .ref p1), (2, .ref p2), (3, .int p3)] := hl
  refine nameQ (fun Q hQ => ?_)
  have hw : WD D cy GG A s wr_X5_readPlain__1 wa_X5_readPlain__1 Ps w0 Ps w0 s.heap [] := ⟨hT, hP, hD, va_S.rf, FR.rf, hT.1, [], (List.append_nil _).symm⟩
  obtain ⟨R9, hR⟩ : ∃ q9 : OS × OS × OS, f_X5_readPlain__1 p3 s0 s1 s2 = q9 := ⟨_, rfl⟩
  have hE := hR
  have B83 : ∀ (x4 : Int32) (s0 : OS) (s1 : OS) (s2 : OS) (ws : va_W) (H : Heap) (locs : List Loc) (ls : Array Slot), RI p3 152 2147483647 → RI x4 (-2147483648) 2147483647 → OV vw_SENT Ps ws p0 s0 → OV vw_TAPE Ps ws p1 s1 → OV vw_POST Ps ws p2 s2 → f_X5_readPlain__1_83 p3 x4 s0 s1 s2 = R9 → WD D cy GG A s wr_X5_readPlain__1 wa_X5_readPlain__1 Ps w0 Ps ws H locs → lv_has ls 5 [(0, .ref p0), (1, .ref p1), (2, .ref p2), (3, .int p3), (4, .int x4)] → W p l e (headSpec (Cond.code yX5_readPlain cX5_readPlain 5 none :: gT) ({ frames := 4, cells := 0, slots := 0, locals := 800 } : Room)).room s m ([.ref p0, .ref p1, .ref p2, .int p3] : List Value).toArray below meth c H locs 0 0 Q (F0 m 83 ls []) := by
    intro x4 s0 s1 s2 ws H locs ls r_p3 r_x4 o_p0 o_p1 o_p2 hE hw hl
    refine lv_aload_n hx hb dX5_readPlain_83 rfl (lv_at hl 1 rfl) ?_
    refine tk_v (va_runV (As := []) (rest := []) ⟨hx, hb, hml, hown, hts⟩ (c_X7_pass__6 l D cy z H.size Ps ws hw.1 p1 s1 h_p1 o_p1) (cwV 0 hts (gV tw_982 tw_425 tw_426 tw_2 tw_427) rfl rfl rfl (by decide +kernel) ⟨Nat.le_of_ble_eq_true rfl, Nat.le_of_ble_eq_true rfl⟩) (tg_preV hw hK hSD hA (ci := 7) (q := (RX7, TX7, 12)) rfl h_p1 rfl) rfl rfl hl.1 rfl (lv_room (Nat.le_of_ble_eq_true rfl)) dX5_readPlain_84 ⟨Nat.le_of_ble_eq_true rfl, Nat.le_of_ble_eq_true rfl⟩) hw hA ⟨by decide, by decide⟩ (fun ws H locs hp_v_1 hw hF9 => ?_)
    obtain ⟨hfn, hp_v_1⟩ := hp_v_1
    have o_p0 := OV.over (V := vw_SENT) hF9 o_p0 (by decide)
    have o_p2 := OV.over (V := vw_POST) hF9 o_p2 (by decide)
    obtain ⟨sg_2, q_sg_2⟩ : ∃ q9 : OS, (f_X7_pass__6 s1) = q9 := ⟨_, rfl⟩
    have o_p1 : OV vw_TAPE Ps ws p1 sg_2 := by rw [← q_sg_2]; exact hfn.1
    refine lv_aload_n hx hb dX5_readPlain_87 rfl (lv_at hl 0 rfl) ?_
    refine lv_iload_n hx hb dX5_readPlain_88 rfl (lv_at hl 3 rfl) ?_
    refine lv_iload hx hb dX5_readPlain_89 (lv_at hl 4 rfl) ?_
    refine lv_aload_n hx hb dX5_readPlain_91 rfl (lv_at hl 1 rfl) ?_
    refine lv_iconst (v := 0) hx hb dX5_readPlain_92 (by decide) ?_
    refine lv_sipush (v := 999) hx hb dX5_readPlain_93 (by decide) ?_
    refine tk_i (va_runV (As := [.int 0, .int 999]) (rest := [.int x4, .int p3, .ref p0]) ⟨hx, hb, hml, hown, hts⟩ (c_X7_takeNumber__5 l D cy z H.size Ps ws hw.1 p1 0 999 sg_2 h_p1 (rl_0.to (by decide)) (rl_999.to (by decide)) o_p1) (cwV 2 hts (gV tw_993 tw_478 tw_479 tw_2 tw_480) rfl rfl rfl (by decide +kernel) ⟨Nat.le_of_ble_eq_true rfl, Nat.le_of_ble_eq_true rfl⟩) (tg_preV hw hK hSD hA (ci := 7) (q := (RX7, TX7, 12)) rfl h_p1 rfl) rfl rfl hl.1 rfl (lv_room (Nat.le_of_ble_eq_true rfl)) dX5_readPlain_96 ⟨Nat.le_of_ble_eq_true rfl, Nat.le_of_ble_eq_true rfl⟩) hw hA ⟨by decide, by decide⟩ (fun v_3 ws H locs hp_v_3 hw hF9 => ?_)
    obtain ⟨hfn, hp_v_3⟩ := hp_v_3
    have o_p0 := OV.over (V := vw_SENT) hF9 o_p0 (by decide)
    have o_p2 := OV.over (V := vw_POST) hF9 o_p2 (by decide)
    obtain ⟨sg_4, q_sg_4⟩ : ∃ q9 : OS, (f_X7_takeNumber__5 (0 : Int32) (999 : Int32) sg_2).1 = q9 := ⟨_, rfl⟩
    have o_p1 : OV vw_TAPE Ps ws p1 sg_4 := by rw [← q_sg_4]; exact hfn.1
    have q_v_3 : (f_X7_takeNumber__5 (0 : Int32) (999 : Int32) sg_2).2 = v_3 := hfn.2.1
    have r_v_3 : RI v_3 (-2147483648) 2147483647 := hp_v_3.1
    refine tk_v (va_runV (As := [.int p3, .int x4, .int v_3]) (rest := []) ⟨hx, hb, hml, hown, hts⟩ (c_X5_addStep__1 l D cy z H.size Ps ws hw.1 p0 p3 x4 v_3 s0 h_p0 (r_p3.to (by decide)) r_x4 r_v_3 o_p0) (cwV 3 hts (gV tw_983 tw_985 ts_33 tw_23 tw_986) rfl rfl rfl (by decide +kernel) ⟨Nat.le_of_ble_eq_true rfl, Nat.le_of_ble_eq_true rfl⟩) (tg_preV hw hK hSD hA (ci := 5) (q := (RX5, TX5, 5)) rfl h_p0 rfl) rfl rfl hl.1 rfl (lv_room (Nat.le_of_ble_eq_true rfl)) dX5_readPlain_99 ⟨Nat.le_of_ble_eq_true rfl, Nat.le_of_ble_eq_true rfl⟩) hw hA ⟨by decide, by decide⟩ (fun ws H locs hp_v_5 hw hF9 => ?_)
    obtain ⟨hfn, hp_v_5⟩ := hp_v_5
    have o_p1 := OV.over (V := vw_TAPE) hF9 o_p1 (by decide)
    have o_p2 := OV.over (V := vw_POST) hF9 o_p2 (by decide)
    obtain ⟨sg_6, q_sg_6⟩ : ∃ q9 : OS, (f_X5_addStep__1 p3 x4 v_3 s0) = q9 := ⟨_, rfl⟩
    have o_p0 : OV vw_SENT Ps ws p0 sg_6 := by rw [← q_sg_6]; exact hfn.1
    obtain ⟨v_7, m_v_7, r_v_7⟩ := (hp_v_5.1)
    refine lv_goto (tgt := 112) hx hb dX5_readPlain_102 (by decide) ?_
    simp only [f_X5_readPlain__1_83, ↓reduceIte, q_sg_2, q_sg_4, q_v_3, q_sg_6] at hE
    subst hQ
    exact W.vret hx hb hr (fun t ht hW => ⟨⟨ws, rfl, ⟨⟨⟨(by rw [hR, ← hE]; exact o_p0), (by rw [hR, ← hE]; exact o_p1), (by rw [hR, ← hE]; exact o_p2), trivial⟩, ⟨⟨_, m_v_7, r_v_7⟩, trivial⟩⟩, hw.1, hw.2.2.2.2.1⟩, by rw [ht]; exact hw.2.1, va_K.moved hW.alike hK, hw.2.2.1⟩, hw.2.2.2.1.F ht⟩) hw.2.2.2.1.2.2 dX5_readPlain_112
  refine lv_iload_n hx hb dX5_readPlain_0 rfl (lv_at hl 3 rfl) ?_
  refine lv_sipush (v := 150) hx hb dX5_readPlain_1 (by decide) ?_
  refine lv_icmp_ne (tgt := 22) hx hb dX5_readPlain_4 (by decide) (fun c_4 => ?_) (fun c_4 => ?_)
  · refine lv_iload_n hx hb dX5_readPlain_22 rfl (lv_at hl 3 rfl) ?_
    refine lv_sipush (v := 151) hx hb dX5_readPlain_23 (by decide) ?_
    refine lv_icmp_ne (tgt := 44) hx hb dX5_readPlain_26 (by decide) (fun c_26 => ?_) (fun c_26 => ?_)
    · refine lv_iload_n hx hb dX5_readPlain_44 rfl (lv_at hl 3 rfl) ?_
      refine lv_sipush (v := 152) hx hb dX5_readPlain_45 (by decide) ?_
      refine lv_icmp_lt (tgt := 105) hx hb dX5_readPlain_48 (by decide) (fun c_48 => ?_) (fun c_48 => ?_)
      · have r_p3 : RI p3 (-2147483648) 151 := rc_lt1 r_p3 rl_152 (ti_lt c_48) (by decide)
        refine lv_aload_n hx hb dX5_readPlain_105 rfl (lv_at hl 0 rfl) ?_
        refine lv_iload_n hx hb dX5_readPlain_106 rfl (lv_at hl 3 rfl) ?_
        refine lv_iconst (v := 0) hx hb dX5_readPlain_107 (by decide) ?_
        refine lv_iconst (v := 0) hx hb dX5_readPlain_108 (by decide) ?_
        refine tk_v (va_runV (As := [.int p3, .int 0, .int 0]) (rest := []) ⟨hx, hb, hml, hown, hts⟩ (c_X5_addStep__1 l D cy z s.heap.size Ps w0 hw.1 p0 p3 0 0 s0 h_p0 (r_p3.to (by decide)) (rl_0.to (by decide)) (rl_0.to (by decide)) o_p0) (cwV 3 hts (gV tw_983 tw_985 ts_33 tw_23 tw_986) rfl rfl rfl (by decide +kernel) ⟨Nat.le_of_ble_eq_true rfl, Nat.le_of_ble_eq_true rfl⟩) (tg_preV hw hK hSD hA (ci := 5) (q := (RX5, TX5, 5)) rfl h_p0 rfl) rfl rfl hl.1 rfl (lv_room (Nat.le_of_ble_eq_true rfl)) dX5_readPlain_109 ⟨Nat.le_of_ble_eq_true rfl, Nat.le_of_ble_eq_true rfl⟩) hw hA ⟨by decide, by decide⟩ (fun ws H locs hp_v_8 hw hF9 => ?_)
        obtain ⟨hfn, hp_v_8⟩ := hp_v_8
        have o_p1 := OV.over (V := vw_TAPE) hF9 o_p1 (by decide)
        have o_p2 := OV.over (V := vw_POST) hF9 o_p2 (by decide)
        obtain ⟨sg_9, q_sg_9⟩ : ∃ q9 : OS, (f_X5_addStep__1 p3 (0 : Int32) (0 : Int32) s0) = q9 := ⟨_, rfl⟩
        have o_p0 : OV vw_SENT Ps ws p0 sg_9 := by rw [← q_sg_9]; exact hfn.1
        obtain ⟨v_10, m_v_10, r_v_10⟩ := (hp_v_8.1)
        simp only [f_X5_readPlain__1, ↓reduceIte, eq_false c_4, eq_false c_26, eq_true c_48, q_sg_9] at hE
        subst hQ
        exact W.vret hx hb hr (fun t ht hW => ⟨⟨ws, rfl, ⟨⟨⟨(by rw [hR, ← hE]; exact o_p0), (by rw [hR, ← hE]; exact o_p1), (by rw [hR, ← hE]; exact o_p2), trivial⟩, ⟨⟨_, m_v_10, r_v_10⟩, trivial⟩⟩, hw.1, hw.2.2.2.2.1⟩, by rw [ht]; exact hw.2.1, va_K.moved hW.alike hK, hw.2.2.1⟩, hw.2.2.2.1.F ht⟩) hw.2.2.2.1.2.2 dX5_readPlain_112
      · have r_p3 : RI p3 152 2147483647 := rc_le2 rl_152 r_p3 (ti_nlt c_48) (by decide)
        refine lv_aload_n hx hb dX5_readPlain_51 rfl (lv_at hl 1 rfl) ?_
        refine tg_getN (ci := 7) (ts := ty_TAPE) (C := RX7) (T := TX7) (N := 12) hx hb hts inX7 hown hK hw h_p1 rfl rfl 7 (by decide) (hSD.nest tn_96) (fun _ h9 => h9) (ft := vI (-2147483648) 2147483647) rfl dX5_readPlain_52 (fun u_11 hv_u_11 m_u_11 => ?_)
        obtain ⟨vu_11, rfl, r_vu_11⟩ := hv_u_11
        have q_vu_11 : s1.1 7 = vu_11 := OV.eqI (V := vw_TAPE) hw.2.2.1 o_p1 m_u_11 (by decide)
        refine lv_istore (lv' := [(4, .int vu_11), (0, .ref p0), (1, .ref p1), (2, .ref p2), (3, .int p3)]) hx hb dX5_readPlain_55 hl (by decide) rfl (fun ls hl => ?_)
        refine lv_iload hx hb dX5_readPlain_57 (lv_at hl 0 rfl) ?_
        refine lv_bipush (v := 60) hx hb dX5_readPlain_59 (by decide) ?_
        refine lv_icmp_eq (tgt := 83) hx hb dX5_readPlain_61 (by decide) (fun c_61 => ?_) (fun c_61 => ?_)
        · have r_vu_11 : RI vu_11 60 60 := rc_eq1 r_vu_11 rl_60 (ti_eq c_61) (by decide)
          simp only [f_X5_readPlain__1, ↓reduceIte, eq_false c_4, eq_false c_26, eq_false c_48, q_vu_11, eq_true c_61] at hE
          exact B83 vu_11 s0 s1 s2 w0 _ _ ls r_p3 (r_vu_11.to (by decide)) o_p0 o_p1 o_p2 hE hw (lv_sub hl [1, 2, 3, 4, 0] rfl)
        · refine lv_iload hx hb dX5_readPlain_64 (lv_at hl 0 rfl) ?_
          refine lv_bipush (v := 61) hx hb dX5_readPlain_66 (by decide) ?_
          refine lv_icmp_eq (tgt := 83) hx hb dX5_readPlain_68 (by decide) (fun c_68 => ?_) (fun c_68 => ?_)
          · have r_vu_11 : RI vu_11 61 61 := rc_eq1 r_vu_11 rl_61 (ti_eq c_68) (by decide)
            simp only [f_X5_readPlain__1, ↓reduceIte, eq_false c_4, eq_false c_26, eq_false c_48, q_vu_11, eq_false c_61, eq_true c_68] at hE
            exact B83 vu_11 s0 s1 s2 w0 _ _ ls r_p3 (r_vu_11.to (by decide)) o_p0 o_p1 o_p2 hE hw (lv_sub hl [1, 2, 3, 4, 0] rfl)
          · refine lv_iload hx hb dX5_readPlain_71 (lv_at hl 0 rfl) ?_
            refine lv_bipush (v := 62) hx hb dX5_readPlain_73 (by decide) ?_
            refine lv_icmp_eq (tgt := 83) hx hb dX5_readPlain_75 (by decide) (fun c_75 => ?_) (fun c_75 => ?_)
            · have r_vu_11 : RI vu_11 62 62 := rc_eq1 r_vu_11 rl_62 (ti_eq c_75) (by decide)
              simp only [f_X5_readPlain__1, ↓reduceIte, eq_false c_4, eq_false c_26, eq_false c_48, q_vu_11, eq_false c_61, eq_false c_68, eq_true c_75] at hE
              exact B83 vu_11 s0 s1 s2 w0 _ _ ls r_p3 (r_vu_11.to (by decide)) o_p0 o_p1 o_p2 hE hw (lv_sub hl [1, 2, 3, 4, 0] rfl)
            · refine lv_aload_n hx hb dX5_readPlain_78 rfl (lv_at hl 2 rfl) ?_
              refine lv_iconst (v := 1) hx hb dX5_readPlain_79 (by decide) ?_
              refine tk_v (va_runV (As := [.int 1]) (rest := []) ⟨hx, hb, hml, hown, hts⟩ (c_X7_refuse__4 l D cy z s.heap.size Ps w0 hw.1 p1 1 s1 h_p1 (rl_1.to (by decide)) o_p1) (cwV 1 hts (gV tw_981 tw_443 tw_444 tw_2 tw_445) rfl rfl rfl (by decide +kernel) ⟨Nat.le_of_ble_eq_true rfl, Nat.le_of_ble_eq_true rfl⟩) (tg_preV hw hK hSD hA (ci := 7) (q := (RX7, TX7, 12)) rfl h_p1 rfl) rfl rfl hl.1 rfl (lv_room (Nat.le_of_ble_eq_true rfl)) dX5_readPlain_80 ⟨Nat.le_of_ble_eq_true rfl, Nat.le_of_ble_eq_true rfl⟩) hw hA ⟨by decide, by decide⟩ (fun ws H locs hp_v_12 hw hF9 => ?_)
              have m_u_11 := FLD.over hF9 m_u_11 (by decide)
              obtain ⟨hfn, hp_v_12⟩ := hp_v_12
              have o_p0 := OV.over (V := vw_SENT) hF9 o_p0 (by decide)
              have o_p2 := OV.over (V := vw_POST) hF9 o_p2 (by decide)
              obtain ⟨sg_13, q_sg_13⟩ : ∃ q9 : OS, (f_X7_refuse__4 (1 : Int32) s1) = q9 := ⟨_, rfl⟩
              have o_p1 : OV vw_TAPE Ps ws p1 sg_13 := by rw [← q_sg_13]; exact hfn.1
              obtain ⟨v_14, m_v_14, r_v_14⟩ := (hp_v_12.1)
              simp only [f_X5_readPlain__1, ↓reduceIte, eq_false c_4, eq_false c_26, eq_false c_48, q_vu_11, eq_false c_61, eq_false c_68, eq_false c_75, q_sg_13] at hE
              exact B83 vu_11 s0 sg_13 s2 ws _ _ ls r_p3 r_vu_11 o_p0 o_p1 o_p2 hE hw (lv_sub hl [1, 2, 3, 4, 0] rfl)
    · have r_p3 : RI p3 151 151 := rc_eq1 r_p3 rl_151 (ti_eq c_26) (by decide)
      refine lv_aload_n hx hb dX5_readPlain_29 rfl (lv_at hl 0 rfl) ?_
      refine lv_iload_n hx hb dX5_readPlain_30 rfl (lv_at hl 3 rfl) ?_
      refine lv_iconst (v := 0) hx hb dX5_readPlain_31 (by decide) ?_
      refine lv_aload_n hx hb dX5_readPlain_32 rfl (lv_at hl 1 rfl) ?_
      refine lv_aload_n hx hb dX5_readPlain_33 rfl (lv_at hl 2 rfl) ?_
      refine lv_iconst (v := 1) hx hb dX5_readPlain_34 (by decide) ?_
      refine tk_i (va_runV (As := [.ref p2, .int 1]) (rest := [.int 0, .int p3, .ref p0]) ⟨hx, hb, hml, hown, hts⟩ (c_X7_takeName__12 l D cy z s.heap.size Ps w0 hw.1 p1 p2 1 s1 s2 h_p1 h_p2 rl_1 o_p1 o_p2) (cwV 2 hts (gV tw_992 tw_465 tw_466 tw_2 tw_467) rfl rfl rfl (by decide +kernel) ⟨Nat.le_of_ble_eq_true rfl, Nat.le_of_ble_eq_true rfl⟩) (tg_preV hw hK hSD hA (ci := 7) (q := (RX7, TX7, 12)) rfl h_p1 rfl) rfl rfl hl.1 rfl (lv_room (Nat.le_of_ble_eq_true rfl)) dX5_readPlain_35 ⟨Nat.le_of_ble_eq_true rfl, Nat.le_of_ble_eq_true rfl⟩) hw hA ⟨by decide, by decide⟩ (fun v_15 ws H locs hp_v_15 hw hF9 => ?_)
      obtain ⟨hfn, hp_v_15⟩ := hp_v_15
      have o_p0 := OV.over (V := vw_SENT) hF9 o_p0 (by decide)
      obtain ⟨sg_16, q_sg_16⟩ : ∃ q9 : OS, (f_X7_takeName__12 (1 : Int32) s1 s2).1 = q9 := ⟨_, rfl⟩
      have o_p1 : OV vw_TAPE Ps ws p1 sg_16 := by rw [← q_sg_16]; exact hfn.1
      obtain ⟨sg_17, q_sg_17⟩ : ∃ q9 : OS, (f_X7_takeName__12 (1 : Int32) s1 s2).2.1 = q9 := ⟨_, rfl⟩
      have o_p2 : OV vw_POST Ps ws p2 sg_17 := by rw [← q_sg_17]; exact hfn.2.1
      have q_v_15 : (f_X7_takeName__12 (1 : Int32) s1 s2).2.2 = v_15 := hfn.2.2.1
      have r_v_15 : RI v_15 (-1) 3 := hp_v_15.1
      by_cases c9_v_15 : v_15.toInt < 0
      · have r_v_15 : RI v_15 (-1) (-1) := by unfold RI at r_v_15 ⊢; omega
        have x_FLT_p1 := (hp_v_15.2.2.2.2.1 (by omega)).1
        obtain ⟨v_18, m_v_18, r_v_18⟩ := id x_FLT_p1
        refine tk_v (va_runV (As := [.int p3, .int 0, .int v_15]) (rest := []) ⟨hx, hb, hml, hown, hts⟩ (c_X5_addStep__1 l D cy z H.size Ps ws hw.1 p0 p3 0 v_15 s0 h_p0 (r_p3.to (by decide)) (rl_0.to (by decide)) (r_v_15.to (by decide)) o_p0) (cwV 3 hts (gV tw_983 tw_985 ts_33 tw_23 tw_986) rfl rfl rfl (by decide +kernel) ⟨Nat.le_of_ble_eq_true rfl, Nat.le_of_ble_eq_true rfl⟩) (tg_preV hw hK hSD hA (ci := 5) (q := (RX5, TX5, 5)) rfl h_p0 rfl) rfl rfl hl.1 rfl (lv_room (Nat.le_of_ble_eq_true rfl)) dX5_readPlain_38 ⟨Nat.le_of_ble_eq_true rfl, Nat.le_of_ble_eq_true rfl⟩) hw hA ⟨by decide, by decide⟩ (fun ws H locs hp_v_19 hw hF9 => ?_)
        have m_v_18 := FLD.over hF9 m_v_18 (by decide)
        have x_FLT_p1 := FLTp.over hF9 x_FLT_p1 (by decide)
        obtain ⟨hfn, hp_v_19⟩ := hp_v_19
        have o_p1 := OV.over (V := vw_TAPE) hF9 o_p1 (by decide)
        have o_p2 := OV.over (V := vw_POST) hF9 o_p2 (by decide)
        obtain ⟨sg_20, q_sg_20⟩ : ∃ q9 : OS, (f_X5_addStep__1 p3 (0 : Int32) v_15 s0) = q9 := ⟨_, rfl⟩
        have o_p0 : OV vw_SENT Ps ws p0 sg_20 := by rw [← q_sg_20]; exact hfn.1
        obtain ⟨v_21, m_v_21, r_v_21⟩ := (hp_v_19.1)
        refine lv_goto (tgt := 112) hx hb dX5_readPlain_41 (by decide) ?_
        simp only [f_X5_readPlain__1, ↓reduceIte, eq_false c_4, eq_true c_26, q_sg_16, q_sg_17, q_v_15, eq_true c9_v_15, q_sg_20] at hE
        subst hQ
        exact W.vret hx hb hr (fun t ht hW => ⟨⟨ws, rfl, ⟨⟨⟨(by rw [hR, ← hE]; exact o_p0), (by rw [hR, ← hE]; exact o_p1), (by rw [hR, ← hE]; exact o_p2), trivial⟩, ⟨⟨_, m_v_21, r_v_21⟩, trivial⟩⟩, hw.1, hw.2.2.2.2.1⟩, by rw [ht]; exact hw.2.1, va_K.moved hW.alike hK, hw.2.2.1⟩, hw.2.2.2.1.F ht⟩) hw.2.2.2.1.2.2 dX5_readPlain_112
      · have r_v_15 : RI v_15 0 3 := by unfold RI at r_v_15 ⊢; omega
        refine tk_v (va_runV (As := [.int p3, .int 0, .int v_15]) (rest := []) ⟨hx, hb, hml, hown, hts⟩ (c_X5_addStep__1 l D cy z H.size Ps ws hw.1 p0 p3 0 v_15 s0 h_p0 (r_p3.to (by decide)) (rl_0.to (by decide)) (r_v_15.to (by decide)) o_p0) (cwV 3 hts (gV tw_983 tw_985 ts_33 tw_23 tw_986) rfl rfl rfl (by decide +kernel) ⟨Nat.le_of_ble_eq_true rfl, Nat.le_of_ble_eq_true rfl⟩) (tg_preV hw hK hSD hA (ci := 5) (q := (RX5, TX5, 5)) rfl h_p0 rfl) rfl rfl hl.1 rfl (lv_room (Nat.le_of_ble_eq_true rfl)) dX5_readPlain_38 ⟨Nat.le_of_ble_eq_true rfl, Nat.le_of_ble_eq_true rfl⟩) hw hA ⟨by decide, by decide⟩ (fun ws H locs hp_v_22 hw hF9 => ?_)
        obtain ⟨hfn, hp_v_22⟩ := hp_v_22
        have o_p1 := OV.over (V := vw_TAPE) hF9 o_p1 (by decide)
        have o_p2 := OV.over (V := vw_POST) hF9 o_p2 (by decide)
        obtain ⟨sg_23, q_sg_23⟩ : ∃ q9 : OS, (f_X5_addStep__1 p3 (0 : Int32) v_15 s0) = q9 := ⟨_, rfl⟩
        have o_p0 : OV vw_SENT Ps ws p0 sg_23 := by rw [← q_sg_23]; exact hfn.1
        obtain ⟨v_24, m_v_24, r_v_24⟩ := (hp_v_22.1)
        refine lv_goto (tgt := 112) hx hb dX5_readPlain_41 (by decide) ?_
        simp only [f_X5_readPlain__1, ↓reduceIte, eq_false c_4, eq_true c_26, q_sg_16, q_sg_17, q_v_15, eq_false c9_v_15, q_sg_23] at hE
        subst hQ
        exact W.vret hx hb hr (fun t ht hW => ⟨⟨ws, rfl, ⟨⟨⟨(by rw [hR, ← hE]; exact o_p0), (by rw [hR, ← hE]; exact o_p1), (by rw [hR, ← hE]; exact o_p2), trivial⟩, ⟨⟨_, m_v_24, r_v_24⟩, trivial⟩⟩, hw.1, hw.2.2.2.2.1⟩, by rw [ht]; exact hw.2.1, va_K.moved hW.alike hK, hw.2.2.1⟩, hw.2.2.2.1.F ht⟩) hw.2.2.2.1.2.2 dX5_readPlain_112
  · have r_p3 : RI p3 150 150 := rc_eq1 r_p3 rl_150 (ti_eq c_4) (by decide)
    refine lv_aload_n hx hb dX5_readPlain_7 rfl (lv_at hl 0 rfl) ?_
    refine lv_iload_n hx hb dX5_readPlain_8 rfl (lv_at hl 3 rfl) ?_
    refine lv_iconst (v := 0) hx hb dX5_readPlain_9 (by decide) ?_
    refine lv_aload_n hx hb dX5_readPlain_10 rfl (lv_at hl 1 rfl) ?_
    refine lv_aload_n hx hb dX5_readPlain_11 rfl (lv_at hl 2 rfl) ?_
    refine lv_iconst (v := 0) hx hb dX5_readPlain_12 (by decide) ?_
    refine tk_i (va_runV (As := [.ref p2, .int 0]) (rest := [.int 0, .int p3, .ref p0]) ⟨hx, hb, hml, hown, hts⟩ (c_X7_takeName__14 l D cy z s.heap.size Ps w0 hw.1 p1 p2 0 s1 s2 h_p1 h_p2 rl_0 o_p1 o_p2) (cwV 2 hts (gV tw_992 tw_465 tw_466 tw_2 tw_467) rfl rfl rfl (by decide +kernel) ⟨Nat.le_of_ble_eq_true rfl, Nat.le_of_ble_eq_true rfl⟩) (tg_preV hw hK hSD hA (ci := 7) (q := (RX7, TX7, 12)) rfl h_p1 rfl) rfl rfl hl.1 rfl (lv_room (Nat.le_of_ble_eq_true rfl)) dX5_readPlain_13 ⟨Nat.le_of_ble_eq_true rfl, Nat.le_of_ble_eq_true rfl⟩) hw hA ⟨by decide, by decide⟩ (fun v_25 ws H locs hp_v_25 hw hF9 => ?_)
    obtain ⟨hfn, hp_v_25⟩ := hp_v_25
    have o_p0 := OV.over (V := vw_SENT) hF9 o_p0 (by decide)
    obtain ⟨sg_26, q_sg_26⟩ : ∃ q9 : OS, (f_X7_takeName__12 (0 : Int32) s1 s2).1 = q9 := ⟨_, rfl⟩
    have o_p1 : OV vw_TAPE Ps ws p1 sg_26 := by rw [← q_sg_26]; exact hfn.1
    obtain ⟨sg_27, q_sg_27⟩ : ∃ q9 : OS, (f_X7_takeName__12 (0 : Int32) s1 s2).2.1 = q9 := ⟨_, rfl⟩
    have o_p2 : OV vw_POST Ps ws p2 sg_27 := by rw [← q_sg_27]; exact hfn.2.1
    have q_v_25 : (f_X7_takeName__12 (0 : Int32) s1 s2).2.2 = v_25 := hfn.2.2.1
    have r_v_25 : RI v_25 (-1) 5 := hp_v_25.1
    by_cases c9_v_25 : v_25.toInt < 0
    · have r_v_25 : RI v_25 (-1) (-1) := by unfold RI at r_v_25 ⊢; omega
      have x_FLT_p1 := (hp_v_25.2.2.2.2.1 (by omega)).1
      obtain ⟨v_28, m_v_28, r_v_28⟩ := id x_FLT_p1
      refine tk_v (va_runV (As := [.int p3, .int 0, .int v_25]) (rest := []) ⟨hx, hb, hml, hown, hts⟩ (c_X5_addStep__1 l D cy z H.size Ps ws hw.1 p0 p3 0 v_25 s0 h_p0 (r_p3.to (by decide)) (rl_0.to (by decide)) (r_v_25.to (by decide)) o_p0) (cwV 3 hts (gV tw_983 tw_985 ts_33 tw_23 tw_986) rfl rfl rfl (by decide +kernel) ⟨Nat.le_of_ble_eq_true rfl, Nat.le_of_ble_eq_true rfl⟩) (tg_preV hw hK hSD hA (ci := 5) (q := (RX5, TX5, 5)) rfl h_p0 rfl) rfl rfl hl.1 rfl (lv_room (Nat.le_of_ble_eq_true rfl)) dX5_readPlain_16 ⟨Nat.le_of_ble_eq_true rfl, Nat.le_of_ble_eq_true rfl⟩) hw hA ⟨by decide, by decide⟩ (fun ws H locs hp_v_29 hw hF9 => ?_)
      have m_v_28 := FLD.over hF9 m_v_28 (by decide)
      have x_FLT_p1 := FLTp.over hF9 x_FLT_p1 (by decide)
      obtain ⟨hfn, hp_v_29⟩ := hp_v_29
      have o_p1 := OV.over (V := vw_TAPE) hF9 o_p1 (by decide)
      have o_p2 := OV.over (V := vw_POST) hF9 o_p2 (by decide)
      obtain ⟨sg_30, q_sg_30⟩ : ∃ q9 : OS, (f_X5_addStep__1 p3 (0 : Int32) v_25 s0) = q9 := ⟨_, rfl⟩
      have o_p0 : OV vw_SENT Ps ws p0 sg_30 := by rw [← q_sg_30]; exact hfn.1
      obtain ⟨v_31, m_v_31, r_v_31⟩ := (hp_v_29.1)
      refine lv_goto (tgt := 112) hx hb dX5_readPlain_19 (by decide) ?_
      simp only [f_X5_readPlain__1, ↓reduceIte, eq_true c_4, q_sg_26, q_sg_27, q_v_25, eq_true c9_v_25, q_sg_30] at hE
      subst hQ
      exact W.vret hx hb hr (fun t ht hW => ⟨⟨ws, rfl, ⟨⟨⟨(by rw [hR, ← hE]; exact o_p0), (by rw [hR, ← hE]; exact o_p1), (by rw [hR, ← hE]; exact o_p2), trivial⟩, ⟨⟨_, m_v_31, r_v_31⟩, trivial⟩⟩, hw.1, hw.2.2.2.2.1⟩, by rw [ht]; exact hw.2.1, va_K.moved hW.alike hK, hw.2.2.1⟩, hw.2.2.2.1.F ht⟩) hw.2.2.2.1.2.2 dX5_readPlain_112
    · have r_v_25 : RI v_25 0 5 := by unfold RI at r_v_25 ⊢; omega
      refine tk_v (va_runV (As := [.int p3, .int 0, .int v_25]) (rest := []) ⟨hx, hb, hml, hown, hts⟩ (c_X5_addStep__1 l D cy z H.size Ps ws hw.1 p0 p3 0 v_25 s0 h_p0 (r_p3.to (by decide)) (rl_0.to (by decide)) (r_v_25.to (by decide)) o_p0) (cwV 3 hts (gV tw_983 tw_985 ts_33 tw_23 tw_986) rfl rfl rfl (by decide +kernel) ⟨Nat.le_of_ble_eq_true rfl, Nat.le_of_ble_eq_true rfl⟩) (tg_preV hw hK hSD hA (ci := 5) (q := (RX5, TX5, 5)) rfl h_p0 rfl) rfl rfl hl.1 rfl (lv_room (Nat.le_of_ble_eq_true rfl)) dX5_readPlain_16 ⟨Nat.le_of_ble_eq_true rfl, Nat.le_of_ble_eq_true rfl⟩) hw hA ⟨by decide, by decide⟩ (fun ws H locs hp_v_32 hw hF9 => ?_)
      obtain ⟨hfn, hp_v_32⟩ := hp_v_32
      have o_p1 := OV.over (V := vw_TAPE) hF9 o_p1 (by decide)
      have o_p2 := OV.over (V := vw_POST) hF9 o_p2 (by decide)
      obtain ⟨sg_33, q_sg_33⟩ : ∃ q9 : OS, (f_X5_addStep__1 p3 (0 : Int32) v_25 s0) = q9 := ⟨_, rfl⟩
      have o_p0 : OV vw_SENT Ps ws p0 sg_33 := by rw [← q_sg_33]; exact hfn.1
      obtain ⟨v_34, m_v_34, r_v_34⟩ := (hp_v_32.1)
      refine lv_goto (tgt := 112) hx hb dX5_readPlain_19 (by decide) ?_
      simp only [f_X5_readPlain__1, ↓reduceIte, eq_true c_4, q_sg_26, q_sg_27, q_v_25, eq_false c9_v_25, q_sg_33] at hE
      subst hQ
      exact W.vret hx hb hr (fun t ht hW => ⟨⟨ws, rfl, ⟨⟨⟨(by rw [hR, ← hE]; exact o_p0), (by rw [hR, ← hE]; exact o_p1), (by rw [hR, ← hE]; exact o_p2), trivial⟩, ⟨⟨_, m_v_34, r_v_34⟩, trivial⟩⟩, hw.1, hw.2.2.2.2.1⟩, by rw [ht]; exact hw.2.1, va_K.moved hW.alike hK, hw.2.2.1⟩, hw.2.2.2.1.F ht⟩) hw.2.2.2.1.2.2 dX5_readPlain_112
abbrev wr_X5_readOne__17 : List (Nat × Nat) := [(7, 10), (7, 11)]
abbrev wa_X5_readOne__17 : List Nat := []
set_option maxHeartbeats 4000000 in
set_option maxRecDepth 100000 in
theorem c_X5_readOne__17 (l : Launch) (D : va_G) (cy : Nat → ClassId) (z : Nat → Nat) (sz : Nat) (Ps : PSI) (w0 : va_W) (hT : HT cy GG Ps w0) (p0 : Nat) (p1 : Nat) (p2 : Nat) (p3 : Int32) (s0 : OS) (s1 : OS) (s2 : OS) (h_p0 : (p0, 32) ∈ Ps) (h_p1 : (p1, 26) ∈ Ps) (h_p2 : (p2, 25) ∈ Ps) (r_p3 : RI p3 9 9) (o_p0 : OV vw_SENT Ps w0 p0 s0) (o_p1 : OV vw_TAPE Ps w0 p1 s1) (o_p2 : OV vw_POST Ps w0 p2 s2) : Met l yX5_readOne (Cond.code yX5_readOne cX5_readOne 5 none :: gT) ({ frames := 2, cells := 0, slots := 0, locals := 400 } : Room) (va_Pc [.ref p0, .ref p1, .ref p2, .int p3] (PRE D cy z w0 sz)) (va_Qv (fun (u : va_W) => ((OV vw_SENT Ps u p0 ((f_X5_readOne__17 p3 s0 s1 s2).1) ∧ OV vw_TAPE Ps u p1 ((f_X5_readOne__17 p3 s0 s1 s2).2.1) ∧ OV vw_POST Ps u p2 ((f_X5_readOne__17 p3 s0 s1 s2).2.2) ∧ True) ∧ ((∃ v9 : Int32, FLD u p1 7 10 (.int v9) ∧ RI v9 1 4) ∧ True)) ∧ HT cy GG Ps u ∧ FR wr_X5_readOne__17 wa_X5_readOne__17 Ps w0 u) (BB D cy (va_A w0 sz) (fun (u : va_W) => u)) (va_A w0 sz)) 0 0 (va_A w0 sz) := by
  refine Met.ofW (cc := cX5_readOne) (maxL := 5) (ret := none) (by decide) rfl ?_
  intro p e s m args below meth c s₁ B hml hv
  obtain ⟨rfl, hsz, hP, hK, hD0, hSD⟩ := hv
  have hx := B.exec
  have hb := B.bytes
  have hr := B.returns
  have hlocks := B.notSynchronized
  have hts : ∀ w ∈ gT, w.before _ s = true := fun w h => atoms_spec (ws := Cond.code yX5_readOne cX5_readOne 5 none :: gT) B.pre w (List.mem_cons_of_mem _ h)
  have hown : s.vm.findClass RX5 = some m.cls := findClass_of_methodNamed B.named
  subst hsz
  have hD := hD0.self (sz := s.heap.size)
  generalize hAe : va_A w0 s.heap.size = A at hD hSD ⊢
  have hA : ∀ q : Nat, s.heap.size ≤ q → A q := fun q h => by rw [← hAe]; exact Or.inr h
  have hl := lv_entry ([.ref p0, .ref p1, .ref p2, .int p3]) (n := 5) (Nat.le_of_ble_eq_true rfl)
  rw [lg_entry_eq]
  generalize (lg_sl ([.ref p0, .ref p1, .ref p2, .int p3]) ++ List.replicate (5 - (lg_sl ([.ref p0, .ref p1, .ref p2, .int p3])).length) Slot.unset).toArray = ls at hl ⊢
  have hl : lv_has ls 5 [(0, .ref p0), (1, .ref p1), (2, .ref p2), (3, .int p3)] := hl
  refine nameQ (fun Q hQ => ?_)
  have hw : WD D cy GG A s wr_X5_readOne__17 wa_X5_readOne__17 Ps w0 Ps w0 s.heap [] := ⟨hT, hP, hD, va_S.rf, FR.rf, hT.1, [], (List.append_nil _).symm⟩
  obtain ⟨R9, hR⟩ : ∃ q9 : OS × OS × OS, f_X5_readOne__17 p3 s0 s1 s2 = q9 := ⟨_, rfl⟩
  have hE := hR
  have B57 : ∀ (x4 : Int32) (z1_10 : Int32) (s0 : OS) (s1 : OS) (s2 : OS) (ws : va_W) (H : Heap) (locs : List Loc) (ls : Array Slot), RI p3 9 9 → RI x4 (-2147483648) 2147483647 → RI z1_10 1 4 → FLD ws p1 7 10 (.int z1_10) → OV vw_SENT Ps ws p0 s0 → OV vw_TAPE Ps ws p1 s1 → OV vw_POST Ps ws p2 s2 → f_X5_readOne__17_57 p3 x4 s0 s1 s2 = R9 → WD D cy GG A s wr_X5_readOne__17 wa_X5_readOne__17 Ps w0 Ps ws H locs → lv_has ls 5 [(0, .ref p0), (1, .ref p1), (2, .ref p2), (3, .int p3), (4, .int x4)] → W p l e (headSpec (Cond.code yX5_readOne cX5_readOne 5 none :: gT) ({ frames := 2, cells := 0, slots := 0, locals := 400 } : Room)).room s m ([.ref p0, .ref p1, .ref p2, .int p3] : List Value).toArray below meth c H locs 0 0 Q (F0 m 57 ls []) := by
    intro x4 z1_10 s0 s1 s2 ws H locs ls r_p3 r_x4 r_z1_10 m_z1_10 o_p0 o_p1 o_p2 hE hw hl
    have q_z1_10 : s1.1 10 = z1_10 := OV.eqI (V := vw_TAPE) hw.2.2.1 o_p1 m_z1_10 (by decide)
    refine lv_aload_n hx hb dX5_readOne_57 rfl (lv_at hl 1 rfl) ?_
    refine tg_memN (ci := 7) (C := RX7) (T := TX7) (N := 12) hx hb hts inX7 hown hK hw 10 m_z1_10 rfl (by decide) (hSD.nest tn_103) (fun _ h9 => h9) dX5_readOne_58 ?_
    refine lv_if_eq (tgt := 65) hx hb dX5_readOne_61 (by decide) (fun c_61 => ?_) (fun c_61 => ?_)
    · have r_z1_10 : RI z1_10 1 0 := rc_eq1 r_z1_10 rl_0 (ti_eq c_61) (by decide)
      exact (r_z1_10.no (by decide)).elim
    · simp only [f_X5_readOne__17_57, ↓reduceIte, q_z1_10, eq_false c_61] at hE
      subst hQ
      exact W.vret hx hb hr (fun t ht hW => ⟨⟨ws, rfl, ⟨⟨⟨(by rw [hR, ← hE]; exact o_p0), (by rw [hR, ← hE]; exact o_p1), (by rw [hR, ← hE]; exact o_p2), trivial⟩, ⟨⟨_, m_z1_10, r_z1_10⟩, trivial⟩⟩, hw.1, hw.2.2.2.2.1⟩, by rw [ht]; exact hw.2.1, va_K.moved hW.alike hK, hw.2.2.1⟩, hw.2.2.2.1.F ht⟩) hw.2.2.2.1.2.2 dX5_readOne_64
  have B52 : ∀ (x4 : Int32) (z1_7 : Int32) (s0 : OS) (s1 : OS) (s2 : OS) (ws : va_W) (H : Heap) (locs : List Loc) (ls : Array Slot), RI p3 9 9 → RI x4 40 155 → RI z1_7 40 155 → FLD ws p1 7 7 (.int z1_7) → OV vw_SENT Ps ws p0 s0 → OV vw_TAPE Ps ws p1 s1 → OV vw_POST Ps ws p2 s2 → f_X5_readOne__17_52 p3 x4 s0 s1 s2 = R9 → WD D cy GG A s wr_X5_readOne__17 wa_X5_readOne__17 Ps w0 Ps ws H locs → lv_has ls 5 [(0, .ref p0), (1, .ref p1), (2, .ref p2), (3, .int p3), (4, .int x4)] → W p l e (headSpec (Cond.code yX5_readOne cX5_readOne 5 none :: gT) ({ frames := 2, cells := 0, slots := 0, locals := 400 } : Room)).room s m ([.ref p0, .ref p1, .ref p2, .int p3] : List Value).toArray below meth c H locs 0 0 Q (F0 m 52 ls []) := by
    intro x4 z1_7 s0 s1 s2 ws H locs ls r_p3 r_x4 r_z1_7 m_z1_7 o_p0 o_p1 o_p2 hE hw hl
    have q_z1_7 : s1.1 7 = z1_7 := OV.eqI (V := vw_TAPE) hw.2.2.1 o_p1 m_z1_7 (by decide)
    refine lv_aload_n hx hb dX5_readOne_52 rfl (lv_at hl 1 rfl) ?_
    refine lv_iconst (v := 4) hx hb dX5_readOne_53 (by decide) ?_
    refine tk_v (va_runV (As := [.int 4]) (rest := []) ⟨hx, hb, hml, hown, hts⟩ (c_X7_refuse__4 l D cy z H.size Ps ws hw.1 p1 4 s1 h_p1 (rl_4.to (by decide)) o_p1) (cwV 1 hts (gV tw_981 tw_443 tw_444 tw_2 tw_445) rfl rfl rfl (by decide +kernel) ⟨Nat.le_of_ble_eq_true rfl, Nat.le_of_ble_eq_true rfl⟩) (tg_preV hw hK hSD hA (ci := 7) (q := (RX7, TX7, 12)) rfl h_p1 rfl) rfl rfl hl.1 rfl (lv_room (Nat.le_of_ble_eq_true rfl)) dX5_readOne_54 ⟨Nat.le_of_ble_eq_true rfl, Nat.le_of_ble_eq_true rfl⟩) hw hA ⟨by decide, by decide⟩ (fun ws H locs hp_v_1 hw hF9 => ?_)
    have m_z1_7 := FLD.over hF9 m_z1_7 (by decide)
    obtain ⟨hfn, hp_v_1⟩ := hp_v_1
    have o_p0 := OV.over (V := vw_SENT) hF9 o_p0 (by decide)
    have o_p2 := OV.over (V := vw_POST) hF9 o_p2 (by decide)
    obtain ⟨sg_2, q_sg_2⟩ : ∃ q9 : OS, (f_X7_refuse__4 (4 : Int32) s1) = q9 := ⟨_, rfl⟩
    have o_p1 : OV vw_TAPE Ps ws p1 sg_2 := by rw [← q_sg_2]; exact hfn.1
    obtain ⟨v_3, m_v_3, r_v_3⟩ := (hp_v_1.1)
    simp only [f_X5_readOne__17_52, ↓reduceIte, q_z1_7, q_sg_2] at hE
    exact B57 x4 v_3 s0 sg_2 s2 ws _ _ ls r_p3 (r_x4.to (by decide)) r_v_3 m_v_3 o_p0 o_p1 o_p2 hE hw hl
  have B37 : ∀ (x4 : Int32) (z1_7 : Int32) (s0 : OS) (s1 : OS) (s2 : OS) (ws : va_W) (H : Heap) (locs : List Loc) (ls : Array Slot), RI p3 9 9 → RI x4 40 155 → RI z1_7 40 155 → FLD ws p1 7 7 (.int z1_7) → OV vw_SENT Ps ws p0 s0 → OV vw_TAPE Ps ws p1 s1 → OV vw_POST Ps ws p2 s2 → f_X5_readOne__17_37 p3 x4 s0 s1 s2 = R9 → WD D cy GG A s wr_X5_readOne__17 wa_X5_readOne__17 Ps w0 Ps ws H locs → lv_has ls 5 [(0, .ref p0), (1, .ref p1), (2, .ref p2), (3, .int p3), (4, .int x4)] → W p l e (headSpec (Cond.code yX5_readOne cX5_readOne 5 none :: gT) ({ frames := 2, cells := 0, slots := 0, locals := 400 } : Room)).room s m ([.ref p0, .ref p1, .ref p2, .int p3] : List Value).toArray below meth c H locs 0 0 Q (F0 m 37 ls []) := by
    intro x4 z1_7 s0 s1 s2 ws H locs ls r_p3 r_x4 r_z1_7 m_z1_7 o_p0 o_p1 o_p2 hE hw hl
    have q_z1_7 : s1.1 7 = z1_7 := OV.eqI (V := vw_TAPE) hw.2.2.1 o_p1 m_z1_7 (by decide)
    refine lv_aload_n hx hb dX5_readOne_37 rfl (lv_at hl 0 rfl) ?_
    refine tg_get (ci := 5) (ts := ty_SENT) (C := RX5) (T := TX5) (N := 5) hx hb hts inX5 hown hK hw h_p0 rfl rfl 4 (by decide) (hts _ tw_955) (fun _ h9 => h9) (ft := vI (-2147483648) 2147483647) rfl dX5_readOne_38 (fun u_4 hv_u_4 m_u_4 => ?_)
    obtain ⟨vu_4, rfl, r_vu_4⟩ := hv_u_4
    have q_vu_4 : s0.1 4 = vu_4 := OV.eqI (V := vw_SENT) hw.2.2.1 o_p0 m_u_4 (by decide)
    refine lv_bipush (v := 20) hx hb dX5_readOne_41 (by decide) ?_
    refine lv_icmp_ge (tgt := 52) hx hb dX5_readOne_43 (by decide) (fun c_43 => ?_) (fun c_43 => ?_)
    · have r_vu_4 : RI vu_4 20 2147483647 := rc_le2 rl_20 r_vu_4 (ti_le c_43) (by decide)
      simp only [f_X5_readOne__17_37, ↓reduceIte, q_z1_7, q_vu_4, eq_true c_43] at hE
      exact B52 x4 z1_7 s0 s1 s2 ws _ _ ls r_p3 r_x4 r_z1_7 m_z1_7 o_p0 o_p1 o_p2 hE hw hl
    · have r_vu_4 : RI vu_4 (-2147483648) 19 := rc_lt1 r_vu_4 rl_20 (ti_nle c_43) (by decide)
      refine lv_iload_n hx hb dX5_readOne_46 rfl (lv_at hl 3 rfl) ?_
      refine lv_bipush (v := 8) hx hb dX5_readOne_47 (by decide) ?_
      refine lv_icmp_le (tgt := 57) hx hb dX5_readOne_49 (by decide) (fun c_49 => ?_) (fun c_49 => ?_)
      · have r_p3 : RI p3 9 8 := rc_le1 r_p3 rl_8 (ti_le c_49) (by decide)
        exact (r_p3.no (by decide)).elim
      · simp only [f_X5_readOne__17_37, ↓reduceIte, q_z1_7, q_vu_4, eq_false c_43, eq_false c_49] at hE
        exact B52 x4 z1_7 s0 s1 s2 ws _ _ ls r_p3 r_x4 r_z1_7 m_z1_7 o_p0 o_p1 o_p2 hE hw hl
  have B29 : ∀ (x4 : Int32) (s0 : OS) (s1 : OS) (s2 : OS) (ws : va_W) (H : Heap) (locs : List Loc) (ls : Array Slot), RI p3 9 9 → RI x4 (-2147483648) 2147483647 → OV vw_SENT Ps ws p0 s0 → OV vw_TAPE Ps ws p1 s1 → OV vw_POST Ps ws p2 s2 → f_X5_readOne__17_29 p3 x4 s0 s1 s2 = R9 → WD D cy GG A s wr_X5_readOne__17 wa_X5_readOne__17 Ps w0 Ps ws H locs → lv_has ls 5 [(0, .ref p0), (1, .ref p1), (2, .ref p2), (3, .int p3), (4, .int x4)] → W p l e (headSpec (Cond.code yX5_readOne cX5_readOne 5 none :: gT) ({ frames := 2, cells := 0, slots := 0, locals := 400 } : Room)).room s m ([.ref p0, .ref p1, .ref p2, .int p3] : List Value).toArray below meth c H locs 0 0 Q (F0 m 29 ls []) := by
    intro x4 s0 s1 s2 ws H locs ls r_p3 r_x4 o_p0 o_p1 o_p2 hE hw hl
    refine lv_aload_n hx hb dX5_readOne_29 rfl (lv_at hl 1 rfl) ?_
    refine lv_iconst (v := 1) hx hb dX5_readOne_30 (by decide) ?_
    refine tk_v (va_runV (As := [.int 1]) (rest := []) ⟨hx, hb, hml, hown, hts⟩ (c_X7_refuse__4 l D cy z H.size Ps ws hw.1 p1 1 s1 h_p1 (rl_1.to (by decide)) o_p1) (cwV 1 hts (gV tw_981 tw_443 tw_444 tw_2 tw_445) rfl rfl rfl (by decide +kernel) ⟨Nat.le_of_ble_eq_true rfl, Nat.le_of_ble_eq_true rfl⟩) (tg_preV hw hK hSD hA (ci := 7) (q := (RX7, TX7, 12)) rfl h_p1 rfl) rfl rfl hl.1 rfl (lv_room (Nat.le_of_ble_eq_true rfl)) dX5_readOne_31 ⟨Nat.le_of_ble_eq_true rfl, Nat.le_of_ble_eq_true rfl⟩) hw hA ⟨by decide, by decide⟩ (fun ws H locs hp_v_5 hw hF9 => ?_)
    obtain ⟨hfn, hp_v_5⟩ := hp_v_5
    have o_p0 := OV.over (V := vw_SENT) hF9 o_p0 (by decide)
    have o_p2 := OV.over (V := vw_POST) hF9 o_p2 (by decide)
    obtain ⟨sg_6, q_sg_6⟩ : ∃ q9 : OS, (f_X7_refuse__4 (1 : Int32) s1) = q9 := ⟨_, rfl⟩
    have o_p1 : OV vw_TAPE Ps ws p1 sg_6 := by rw [← q_sg_6]; exact hfn.1
    obtain ⟨v_7, m_v_7, r_v_7⟩ := (hp_v_5.1)
    refine lv_goto (tgt := 57) hx hb dX5_readOne_34 (by decide) ?_
    simp only [f_X5_readOne__17_29, ↓reduceIte, q_sg_6] at hE
    exact B57 x4 v_7 s0 sg_6 s2 ws _ _ ls r_p3 r_x4 r_v_7 m_v_7 o_p0 o_p1 o_p2 hE hw hl
  refine lv_aload_n hx hb dX5_readOne_0 rfl (lv_at hl 1 rfl) ?_
  refine tg_getN (ci := 7) (ts := ty_TAPE) (C := RX7) (T := TX7) (N := 12) hx hb hts inX7 hown hK hw h_p1 rfl rfl 7 (by decide) (hSD.nest tn_96) (fun _ h9 => h9) (ft := vI (-2147483648) 2147483647) rfl dX5_readOne_1 (fun u_8 hv_u_8 m_u_8 => ?_)
  obtain ⟨vu_8, rfl, r_vu_8⟩ := hv_u_8
  have q_vu_8 : s1.1 7 = vu_8 := OV.eqI (V := vw_TAPE) hw.2.2.1 o_p1 m_u_8 (by decide)
  refine lv_istore (lv' := [(4, .int vu_8), (0, .ref p0), (1, .ref p1), (2, .ref p2), (3, .int p3)]) hx hb dX5_readOne_4 hl (by decide) rfl (fun ls hl => ?_)
  refine lv_iload hx hb dX5_readOne_6 (lv_at hl 0 rfl) ?_
  refine lv_bipush (v := 40) hx hb dX5_readOne_8 (by decide) ?_
  refine lv_icmp_eq (tgt := 37) hx hb dX5_readOne_10 (by decide) (fun c_10 => ?_) (fun c_10 => ?_)
  · have r_vu_8 : RI vu_8 40 40 := rc_eq1 r_vu_8 rl_40 (ti_eq c_10) (by decide)
    simp only [f_X5_readOne__17, ↓reduceIte, q_vu_8, eq_true c_10] at hE
    exact B37 vu_8 vu_8 s0 s1 s2 w0 _ _ ls r_p3 (r_vu_8.to (by decide)) (r_vu_8.to (by decide)) m_u_8 o_p0 o_p1 o_p2 hE hw (lv_sub hl [1, 2, 3, 4, 0] rfl)
  · refine lv_iload hx hb dX5_readOne_13 (lv_at hl 0 rfl) ?_
    refine lv_sipush (v := 146) hx hb dX5_readOne_15 (by decide) ?_
    refine lv_icmp_lt (tgt := 29) hx hb dX5_readOne_18 (by decide) (fun c_18 => ?_) (fun c_18 => ?_)
    · have r_vu_8 : RI vu_8 (-2147483648) 145 := rc_lt1 r_vu_8 rl_146 (ti_lt c_18) (by decide)
      simp only [f_X5_readOne__17, ↓reduceIte, q_vu_8, eq_false c_10, eq_true c_18] at hE
      exact B29 vu_8 s0 s1 s2 w0 _ _ ls r_p3 (r_vu_8.to (by decide)) o_p0 o_p1 o_p2 hE hw (lv_sub hl [1, 2, 3, 4, 0] rfl)
    · have r_vu_8 : RI vu_8 146 2147483647 := rc_le2 rl_146 r_vu_8 (ti_nlt c_18) (by decide)
      refine lv_iload hx hb dX5_readOne_21 (lv_at hl 0 rfl) ?_
      refine lv_sipush (v := 155) hx hb dX5_readOne_23 (by decide) ?_
      refine lv_icmp_le (tgt := 37) hx hb dX5_readOne_26 (by decide) (fun c_26 => ?_) (fun c_26 => ?_)
      · have r_vu_8 : RI vu_8 146 155 := rc_le1 r_vu_8 rl_155 (ti_le c_26) (by decide)
        simp only [f_X5_readOne__17, ↓reduceIte, q_vu_8, eq_false c_10, eq_false c_18, eq_true c_26] at hE
        exact B37 vu_8 vu_8 s0 s1 s2 w0 _ _ ls r_p3 (r_vu_8.to (by decide)) (r_vu_8.to (by decide)) m_u_8 o_p0 o_p1 o_p2 hE hw (lv_sub hl [1, 2, 3, 4, 0] rfl)
      · have r_vu_8 : RI vu_8 156 2147483647 := rc_lt2 rl_155 r_vu_8 (ti_nle c_26) (by decide)
        simp only [f_X5_readOne__17, ↓reduceIte, q_vu_8, eq_false c_10, eq_false c_18, eq_false c_26] at hE
        exact B29 vu_8 s0 s1 s2 w0 _ _ ls r_p3 (r_vu_8.to (by decide)) o_p0 o_p1 o_p2 hE hw (lv_sub hl [1, 2, 3, 4, 0] rfl)
abbrev wr_X7_sees__1 : List (Nat × Nat) := []
abbrev wa_X7_sees__1 : List Nat := []
set_option maxHeartbeats 4000000 in
set_option maxRecDepth 100000 in
theorem c_X7_sees__1 (l : Launch) (D : va_G) (cy : Nat → ClassId) (z : Nat → Nat) (sz : Nat) (Ps : PSI) (w0 : va_W) (hT : HT cy GG Ps w0) (p0 : Nat) (p1 : Int32) (s0 : OS) (h_p0 : (p0, 26) ∈ Ps) (r_p1 : RI p1 (-2147483648) 2147483647) (o_p0 : OV vw_TAPE Ps w0 p0 s0) : Met l yX7_sees (Cond.code yX7_sees cX7_sees 2 (some .boolean) :: gT) ({ frames := 0, cells := 0, slots := 0, locals := 200 } : Room) (va_Pc [.ref p0, .int p1] (PRE D cy z w0 sz)) (va_Qi (fun (r : Int32) (u : Unit) => ((f_X7_sees__1 p1 s0) = r ∧ True) ∧ (RI r 0 1 ∧ (r = 0 → True) ∧ (¬ r = 0 → True))) (BB D cy (va_A w0 sz) (fun (u : Unit) => w0)) (va_A w0 sz)) 0 0 (va_A w0 sz) := by
  refine Met.ofW (cc := cX7_sees) (maxL := 2) (ret := (some .boolean)) (by decide) rfl ?_
  intro p e s m args below meth c s₁ B hml hv
  obtain ⟨rfl, hsz, hP, hK, hD0, hSD⟩ := hv
  have hx := B.exec
  have hb := B.bytes
  have hr := B.returns
  have hlocks := B.notSynchronized
  have hts : ∀ w ∈ gT, w.before _ s = true := fun w h => atoms_spec (ws := Cond.code yX7_sees cX7_sees 2 (some .boolean) :: gT) B.pre w (List.mem_cons_of_mem _ h)
  have hown : s.vm.findClass RX7 = some m.cls := findClass_of_methodNamed B.named
  subst hsz
  have hD := hD0.self (sz := s.heap.size)
  generalize hAe : va_A w0 s.heap.size = A at hD hSD ⊢
  have hA : ∀ q : Nat, s.heap.size ≤ q → A q := fun q h => by rw [← hAe]; exact Or.inr h
  have hl := lv_entry ([.ref p0, .int p1]) (n := 2) (Nat.le_of_ble_eq_true rfl)
  rw [lg_entry_eq]
  generalize (lg_sl ([.ref p0, .int p1]) ++ List.replicate (2 - (lg_sl ([.ref p0, .int p1])).length) Slot.unset).toArray = ls at hl ⊢
  have hl : lv_has ls 2 [(0, .ref p0), (1, .int p1)] := hl
  refine nameQ (fun Q hQ => ?_)
  have hw : WD D cy GG A s wr_X7_sees__1 wa_X7_sees__1 Ps w0 Ps w0 s.heap [] := ⟨hT, hP, hD, va_S.rf, FR.rf, hT.1, [], (List.append_nil _).symm⟩
  obtain ⟨R9, hR⟩ : ∃ q9 : Int32, f_X7_sees__1 p1 s0 = q9 := ⟨_, rfl⟩
  have hE := hR
  refine lv_aload_n hx hb dX7_sees_0 rfl (lv_at hl 0 rfl) ?_
  refine tg_get (ci := 7) (ts := ty_TAPE) (C := RX7) (T := TX7) (N := 12) hx hb hts inX7 hown hK hw h_p0 rfl rfl 10 (by decide) (hts _ tw_104) (fun _ h9 => h9) (ft := vI 0 4) rfl dX7_sees_1 (fun u_1 hv_u_1 m_u_1 => ?_)
  obtain ⟨vu_1, rfl, r_vu_1⟩ := hv_u_1
  have q_vu_1 : s0.1 10 = vu_1 := OV.eqI (V := vw_TAPE) hw.2.2.1 o_p0 m_u_1 (by decide)
  refine lv_if_ne (tgt := 19) hx hb dX7_sees_4 (by decide) (fun c_4 => ?_) (fun c_4 => ?_)
  · have r_vu_1 : RI vu_1 1 4 := rc_neL r_vu_1 rl_0 (ti_ne c_4) (by decide)
    refine lv_iconst (v := 0) hx hb dX7_sees_19 (by decide) ?_
    simp only [f_X7_sees__1, ↓reduceIte, q_vu_1, eq_false c_4] at hE
    subst hQ
    exact W.zret (v := 0) hx hb hr (rfl) (fun t ht hW => ⟨⟨0, (), rfl, ⟨⟨(by rw [hR, ← hE]), trivial⟩, rl_0.to (by decide), (fun h0 => trivial), (fun _ => trivial)⟩, by rw [ht]; exact hw.2.1, va_K.moved hW.alike hK, hw.2.2.1⟩, hw.2.2.2.1.F ht⟩) hw.2.2.2.1.2.2 dX7_sees_20
  · have r_vu_1 : RI vu_1 0 0 := rc_eq1 r_vu_1 rl_0 (ti_eq c_4) (by decide)
    refine lv_aload_n hx hb dX7_sees_7 rfl (lv_at hl 0 rfl) ?_
    refine tg_get (ci := 7) (ts := ty_TAPE) (C := RX7) (T := TX7) (N := 12) hx hb hts inX7 hown hK hw h_p0 rfl rfl 7 (by decide) (hts _ tw_98) (fun _ h9 => h9) (ft := vI (-2147483648) 2147483647) rfl dX7_sees_8 (fun u_2 hv_u_2 m_u_2 => ?_)
    obtain ⟨vu_2, rfl, r_vu_2⟩ := hv_u_2
    have q_vu_2 : s0.1 7 = vu_2 := OV.eqI (V := vw_TAPE) hw.2.2.1 o_p0 m_u_2 (by decide)
    refine lv_iload_n hx hb dX7_sees_11 rfl (lv_at hl 1 rfl) ?_
    refine lv_icmp_ne (tgt := 19) hx hb dX7_sees_12 (by decide) (fun c_12 => ?_) (fun c_12 => ?_)
    · refine lv_iconst (v := 0) hx hb dX7_sees_19 (by decide) ?_
      simp only [f_X7_sees__1, ↓reduceIte, q_vu_1, eq_true c_4, q_vu_2, eq_false c_12] at hE
      subst hQ
      exact W.zret (v := 0) hx hb hr (rfl) (fun t ht hW => ⟨⟨0, (), rfl, ⟨⟨(by rw [hR, ← hE]), trivial⟩, rl_0.to (by decide), (fun h0 => trivial), (fun _ => trivial)⟩, by rw [ht]; exact hw.2.1, va_K.moved hW.alike hK, hw.2.2.1⟩, hw.2.2.2.1.F ht⟩) hw.2.2.2.1.2.2 dX7_sees_20
    · refine lv_iconst (v := 1) hx hb dX7_sees_15 (by decide) ?_
      refine lv_goto (tgt := 20) hx hb dX7_sees_16 (by decide) ?_
      simp only [f_X7_sees__1, ↓reduceIte, q_vu_1, eq_true c_4, q_vu_2, eq_true c_12] at hE
      subst hQ
      exact W.zret (v := 1) hx hb hr (rfl) (fun t ht hW => ⟨⟨1, (), rfl, ⟨⟨(by rw [hR, ← hE]), trivial⟩, rl_1.to (by decide), (fun _ => trivial), (fun h0 => trivial)⟩, by rw [ht]; exact hw.2.1, va_K.moved hW.alike hK, hw.2.2.1⟩, hw.2.2.2.1.F ht⟩) hw.2.2.2.1.2.2 dX7_sees_20
abbrev wr_X5_readCond__17 : List (Nat × Nat) := [(5, 3), (7, 10), (7, 11)]
abbrev wa_X5_readCond__17 : List Nat := [21]
set_option maxHeartbeats 4000000 in
set_option maxRecDepth 100000 in
theorem c_X5_readCond__17 (l : Launch) (D : va_G) (cy : Nat → ClassId) (z : Nat → Nat) (sz : Nat) (Ps : PSI) (w0 : va_W) (hT : HT cy GG Ps w0) (p0 : Nat) (p1 : Nat) (p2 : Nat) (p3 : Int32) (s0 : OS) (s1 : OS) (s2 : OS) (h_p0 : (p0, 32) ∈ Ps) (h_p1 : (p1, 26) ∈ Ps) (h_p2 : (p2, 25) ∈ Ps) (r_p3 : RI p3 9 9) (o_p0 : OV vw_SENT Ps w0 p0 s0) (o_p1 : OV vw_TAPE Ps w0 p1 s1) (o_p2 : OV vw_POST Ps w0 p2 s2) : Met l yX5_readCond (Cond.code yX5_readCond cX5_readCond 7 none :: gT) ({ frames := 3, cells := 0, slots := 0, locals := 600 } : Room) (va_Pc [.ref p0, .ref p1, .ref p2, .int p3] (PRE D cy z w0 sz)) (va_Qv (fun (u : va_W) => ((OV vw_SENT Ps u p0 ((f_X5_readCond__17 p3 s0 s1 s2).1) ∧ OV vw_TAPE Ps u p1 ((f_X5_readCond__17 p3 s0 s1 s2).2.1) ∧ OV vw_POST Ps u p2 ((f_X5_readCond__17 p3 s0 s1 s2).2.2) ∧ True) ∧ ((∃ v9 : Int32, FLD u p1 7 10 (.int v9) ∧ RI v9 1 4) ∧ True)) ∧ HT cy GG Ps u ∧ FR wr_X5_readCond__17 wa_X5_readCond__17 Ps w0 u) (BB D cy (va_A w0 sz) (fun (u : va_W) => u)) (va_A w0 sz)) 0 0 (va_A w0 sz) := by
  refine Met.ofW (cc := cX5_readCond) (maxL := 7) (ret := none) (by decide) rfl ?_
  intro p e s m args below meth c s₁ B hml hv
  obtain ⟨rfl, hsz, hP, hK, hD0, hSD⟩ := hv
  have hx := B.exec
  have hb := B.bytes
  have hr := B.returns
  have hlocks := B.notSynchronized
  have hts : ∀ w ∈ gT, w.before _ s = true := fun w h => atoms_spec (ws := Cond.code yX5_readCond cX5_readCond 7 none :: gT) B.pre w (List.mem_cons_of_mem _ h)
  have hown : s.vm.findClass RX5 = some m.cls := findClass_of_methodNamed B.named
  subst hsz
  have hD := hD0.self (sz := s.heap.size)
  generalize hAe : va_A w0 s.heap.size = A at hD hSD ⊢
  have hA : ∀ q : Nat, s.heap.size ≤ q → A q := fun q h => by rw [← hAe]; exact Or.inr h
  have hl := lv_entry ([.ref p0, .ref p1, .ref p2, .int p3]) (n := 7) (Nat.le_of_ble_eq_true rfl)
  rw [lg_entry_eq]
  generalize (lg_sl ([.ref p0, .ref p1, .ref p2, .int p3]) ++ List.replicate (7 - (lg_sl ([.ref p0, .ref p1, .ref p2, .int p3])).length) Slot.unset).toArray = ls at hl ⊢
  have hl : lv_has ls 7 [(0, .ref p0), (1, .ref p1), (2, .ref p2), (3, .int p3)] := hl
  refine nameQ (fun Q hQ => ?_)
  have hw : WD D cy GG A s wr_X5_readCond__17 wa_X5_readCond__17 Ps w0 Ps w0 s.heap [] := ⟨hT, hP, hD, va_S.rf, FR.rf, hT.1, [], (List.append_nil _).symm⟩
  obtain ⟨R9, hR⟩ : ∃ q9 : OS × OS × OS, f_X5_readCond__17 p3 s0 s1 s2 = q9 := ⟨_, rfl⟩
  have hE := hR
  have B106 : ∀ (x4 : Int32) (x5 : Int32) (z1_10 : Int32) (s0 : OS) (s1 : OS) (s2 : OS) (ws : va_W) (H : Heap) (locs : List Loc) (ls : Array Slot), RI p3 9 9 → RI x4 (-2147483648) 2147483647 → RI x5 0 21 → RI z1_10 1 4 → FLD ws p1 7 10 (.int z1_10) → OV vw_SENT Ps ws p0 s0 → OV vw_TAPE Ps ws p1 s1 → OV vw_POST Ps ws p2 s2 → f_X5_readCond__17_106 p3 x4 x5 s0 s1 s2 = R9 → WD D cy GG A s wr_X5_readCond__17 wa_X5_readCond__17 Ps w0 Ps ws H locs → lv_has ls 7 [(0, .ref p0), (1, .ref p1), (2, .ref p2), (3, .int p3), (4, .int x4), (5, .int x5)] → W p l e (headSpec (Cond.code yX5_readCond cX5_readCond 7 none :: gT) ({ frames := 3, cells := 0, slots := 0, locals := 600 } : Room)).room s m ([.ref p0, .ref p1, .ref p2, .int p3] : List Value).toArray below meth c H locs 0 0 Q (F0 m 106 ls []) := by
    intro x4 x5 z1_10 s0 s1 s2 ws H locs ls r_p3 r_x4 r_x5 r_z1_10 m_z1_10 o_p0 o_p1 o_p2 hE hw hl
    have q_z1_10 : s1.1 10 = z1_10 := OV.eqI (V := vw_TAPE) hw.2.2.1 o_p1 m_z1_10 (by decide)
    refine lv_iload hx hb dX5_readCond_106 (lv_at hl 4 rfl) ?_
    refine lv_if_eq (tgt := 120) hx hb dX5_readCond_108 (by decide) (fun c_108 => ?_) (fun c_108 => ?_)
    · have r_x4 : RI x4 0 0 := rc_eq1 r_x4 rl_0 (ti_eq c_108) (by decide)
      simp only [f_X5_readCond__17_106, ↓reduceIte, q_z1_10, eq_true c_108] at hE
      subst hQ
      exact W.vret hx hb hr (fun t ht hW => ⟨⟨ws, rfl, ⟨⟨⟨(by rw [hR, ← hE]; exact o_p0), (by rw [hR, ← hE]; exact o_p1), (by rw [hR, ← hE]; exact o_p2), trivial⟩, ⟨⟨_, m_z1_10, r_z1_10⟩, trivial⟩⟩, hw.1, hw.2.2.2.2.1⟩, by rw [ht]; exact hw.2.1, va_K.moved hW.alike hK, hw.2.2.1⟩, hw.2.2.2.1.F ht⟩) hw.2.2.2.1.2.2 dX5_readCond_120
    · refine lv_aload_n hx hb dX5_readCond_111 rfl (lv_at hl 0 rfl) ?_
      refine lv_sipush (v := 144) hx hb dX5_readCond_112 (by decide) ?_
      refine lv_iconst (v := 0) hx hb dX5_readCond_115 (by decide) ?_
      refine lv_iconst (v := 0) hx hb dX5_readCond_116 (by decide) ?_
      refine tk_v (va_runV (As := [.int 144, .int 0, .int 0]) (rest := []) ⟨hx, hb, hml, hown, hts⟩ (c_X5_addStep__1 l D cy z H.size Ps ws hw.1 p0 144 0 0 s0 h_p0 (rl_144.to (by decide)) (rl_0.to (by decide)) (rl_0.to (by decide)) o_p0) (cwV 3 hts (gV tw_983 tw_985 ts_33 tw_23 tw_986) rfl rfl rfl (by decide +kernel) ⟨Nat.le_of_ble_eq_true rfl, Nat.le_of_ble_eq_true rfl⟩) (tg_preV hw hK hSD hA (ci := 5) (q := (RX5, TX5, 5)) rfl h_p0 rfl) rfl rfl hl.1 rfl (lv_room (Nat.le_of_ble_eq_true rfl)) dX5_readCond_117 ⟨Nat.le_of_ble_eq_true rfl, Nat.le_of_ble_eq_true rfl⟩) hw hA ⟨by decide, by decide⟩ (fun ws H locs hp_v_1 hw hF9 => ?_)
      have m_z1_10 := FLD.over hF9 m_z1_10 (by decide)
      obtain ⟨hfn, hp_v_1⟩ := hp_v_1
      have o_p1 := OV.over (V := vw_TAPE) hF9 o_p1 (by decide)
      have o_p2 := OV.over (V := vw_POST) hF9 o_p2 (by decide)
      obtain ⟨sg_2, q_sg_2⟩ : ∃ q9 : OS, (f_X5_addStep__1 (144 : Int32) (0 : Int32) (0 : Int32) s0) = q9 := ⟨_, rfl⟩
      have o_p0 : OV vw_SENT Ps ws p0 sg_2 := by rw [← q_sg_2]; exact hfn.1
      obtain ⟨v_3, m_v_3, r_v_3⟩ := (hp_v_1.1)
      simp only [f_X5_readCond__17_106, ↓reduceIte, q_z1_10, eq_false c_108, q_sg_2] at hE
      subst hQ
      exact W.vret hx hb hr (fun t ht hW => ⟨⟨ws, rfl, ⟨⟨⟨(by rw [hR, ← hE]; exact o_p0), (by rw [hR, ← hE]; exact o_p1), (by rw [hR, ← hE]; exact o_p2), trivial⟩, ⟨⟨_, m_z1_10, r_z1_10⟩, trivial⟩⟩, hw.1, hw.2.2.2.2.1⟩, by rw [ht]; exact hw.2.1, va_K.moved hW.alike hK, hw.2.2.1⟩, hw.2.2.2.1.F ht⟩) hw.2.2.2.1.2.2 dX5_readCond_120
  have B13 : ∀ (nf : Nat) (x4 : Int32) (x5 : Int32) (z1_10 : Int32) (s0 : OS) (s1 : OS) (s2 : OS) (ws : va_W) (H : Heap) (locs : List Loc) (ls : Array Slot), 20 - x5.toInt < (nf : Int) → RI p3 9 9 → RI x4 (-2147483648) 2147483647 → RI x5 0 20 → RI z1_10 1 4 → FLD ws p1 7 10 (.int z1_10) → OV vw_SENT Ps ws p0 s0 → OV vw_TAPE Ps ws p1 s1 → OV vw_POST Ps ws p2 s2 → f_X5_readCond__17_13 p3 nf x4 x5 s0 s1 s2 = R9 → WD D cy GG A s wr_X5_readCond__17 wa_X5_readCond__17 Ps w0 Ps ws H locs → lv_has ls 7 [(0, .ref p0), (1, .ref p1), (2, .ref p2), (3, .int p3), (4, .int x4), (5, .int x5)] → W p l e (headSpec (Cond.code yX5_readCond cX5_readCond 7 none :: gT) ({ frames := 3, cells := 0, slots := 0, locals := 600 } : Room)).room s m ([.ref p0, .ref p1, .ref p2, .int p3] : List Value).toArray below meth c H locs 0 0 Q (F0 m 13 ls []) := by
    intro nf13
    induction nf13 with
    | zero =>
      intro x4 x5 z1_10 s0 s1 s2 ws H locs ls hn13 r_p3 r_x4 r_x5 r_z1_10 m_z1_10 o_p0 o_p1 o_p2 hE hw hl
      exact absurd hn13 (by have q0 := r_x5.1; have u0 := r_x5.2; omega)
    | succ nf13 ih13 =>
      have B72 : ∀ (x4 : Int32) (x5 : Int32) (x6 : Int32) (z1_10 : Int32) (s0 : OS) (s1 : OS) (s2 : OS) (ws : va_W) (H : Heap) (locs : List Loc) (ls : Array Slot), RI p3 9 9 → RI x4 (-2147483648) 2147483647 → RI x5 0 19 → RI x6 0 1 → RI z1_10 1 4 → FLD ws p1 7 10 (.int z1_10) → OV vw_SENT Ps ws p0 s0 → OV vw_TAPE Ps ws p1 s1 → OV vw_POST Ps ws p2 s2 → 20 - x5.toInt < ((nf13 + 1 : Nat) : Int) → f_X5_readCond__17_72 (f_X5_readCond__17_13 p3 nf13) p3 x4 x5 x6 s0 s1 s2 = R9 → WD D cy GG A s wr_X5_readCond__17 wa_X5_readCond__17 Ps w0 Ps ws H locs → lv_has ls 7 [(0, .ref p0), (1, .ref p1), (2, .ref p2), (3, .int p3), (4, .int x4), (5, .int x5), (6, .int x6)] → W p l e (headSpec (Cond.code yX5_readCond cX5_readCond 7 none :: gT) ({ frames := 3, cells := 0, slots := 0, locals := 600 } : Room)).room s m ([.ref p0, .ref p1, .ref p2, .int p3] : List Value).toArray below meth c H locs 0 0 Q (F0 m 72 ls []) := by
        intro x4 x5 x6 z1_10 s0 s1 s2 ws H locs ls r_p3 r_x4 r_x5 r_x6 r_z1_10 m_z1_10 o_p0 o_p1 o_p2 hn13 hE hw hl
        have q_z1_10 : s1.1 10 = z1_10 := OV.eqI (V := vw_TAPE) hw.2.2.1 o_p1 m_z1_10 (by decide)
        refine lv_iload hx hb dX5_readCond_72 (lv_at hl 4 rfl) ?_
        refine lv_iload hx hb dX5_readCond_74 (lv_at hl 6 rfl) ?_
        refine lv_ior hx hb dX5_readCond_76 (lv_topi (fun v_4 e_v_4 => ?_))
        have r_v_4 := ri_any v_4
        have q_v_4 : x4 ||| x6 = v_4 := e_v_4.symm
        refine lv_istore (lv' := [(4, .int v_4), (0, .ref p0), (1, .ref p1), (2, .ref p2), (3, .int p3), (5, .int x5), (6, .int x6)]) hx hb dX5_readCond_77 hl (by decide) rfl (fun ls hl => ?_)
        refine lv_aload_n hx hb dX5_readCond_79 rfl (lv_at hl 1 rfl) ?_
        refine lv_aload_n hx hb dX5_readCond_80 rfl (lv_at hl 2 rfl) ?_
        refine lv_aload_n hx hb dX5_readCond_81 rfl (lv_at hl 3 rfl) ?_
        refine lv_iload_n hx hb dX5_readCond_82 rfl (lv_at hl 4 rfl) ?_
        refine tk_v (va_runV (As := [.ref p1, .ref p2, .int p3]) (rest := []) ⟨hx, hb, hml, hown, hts⟩ (c_X5_readOne__17 l D cy z H.size Ps ws hw.1 p0 p1 p2 p3 s0 s1 s2 h_p0 h_p1 h_p2 r_p3 o_p0 o_p1 o_p2) (cwV 3 hts (gV tw_977 tw_979 ts_32 tw_23 tw_980) rfl rfl rfl (by decide +kernel) ⟨Nat.le_of_ble_eq_true rfl, Nat.le_of_ble_eq_true rfl⟩) (tg_preV hw hK hSD hA (ci := 5) (q := (RX5, TX5, 5)) rfl h_p0 rfl) rfl rfl hl.1 rfl (lv_room (Nat.le_of_ble_eq_true rfl)) dX5_readCond_83 ⟨Nat.le_of_ble_eq_true rfl, Nat.le_of_ble_eq_true rfl⟩) hw hA ⟨by decide, by decide⟩ (fun ws H locs hp_v_5 hw hF9 => ?_)
        obtain ⟨hfn, hp_v_5⟩ := hp_v_5
        obtain ⟨sg_6, q_sg_6⟩ : ∃ q9 : OS, (f_X5_readOne__17 p3 s0 s1 s2).1 = q9 := ⟨_, rfl⟩
        have o_p0 : OV vw_SENT Ps ws p0 sg_6 := by rw [← q_sg_6]; exact hfn.1
        obtain ⟨sg_7, q_sg_7⟩ : ∃ q9 : OS, (f_X5_readOne__17 p3 s0 s1 s2).2.1 = q9 := ⟨_, rfl⟩
        have o_p1 : OV vw_TAPE Ps ws p1 sg_7 := by rw [← q_sg_7]; exact hfn.2.1
        obtain ⟨sg_8, q_sg_8⟩ : ∃ q9 : OS, (f_X5_readOne__17 p3 s0 s1 s2).2.2 = q9 := ⟨_, rfl⟩
        have o_p2 : OV vw_POST Ps ws p2 sg_8 := by rw [← q_sg_8]; exact hfn.2.2.1
        obtain ⟨v_9, m_v_9, r_v_9⟩ := (hp_v_5.1)
        refine lv_iload hx hb dX5_readCond_86 (lv_at hl 6 rfl) ?_
        refine lv_if_ne (tgt := 100) hx hb dX5_readCond_88 (by decide) (fun c_88 => ?_) (fun c_88 => ?_)
        · have r_x6 : RI x6 1 1 := rc_neL r_x6 rl_0 (ti_ne c_88) (by decide)
          obtain ⟨v_10, e_v_10⟩ : ∃ q9 : Int32, q9 = x5 + Int32.ofInt 1 := ⟨_, rfl⟩
          obtain ⟨t_v_10, r_v_10⟩ := tq_add (lo := 1) (hi := 20) r_x5 (show RI (Int32.ofInt 1) 1 1 by unfold RI; decide +kernel) (by decide +kernel) e_v_10
          have t_v_10 : v_10.toInt = x5.toInt + 1 := t_v_10
          refine lv_iinc (v := v_10) (lv' := [(5, .int v_10), (4, .int v_4), (0, .ref p0), (1, .ref p1), (2, .ref p2), (3, .int p3), (6, .int x6)]) hx hb dX5_readCond_100 hl (k := 5) rfl e_v_10.symm (by decide) rfl (fun ls hl => ?_)
          have q_v_10 : x5 + (1 : Int32) = v_10 := by rw [e_v_10, show Int32.ofInt 1 = (1 : Int32) by decide]
          refine lv_goto (tgt := 13) hx hb dX5_readCond_103 (by decide) ?_
          simp only [f_X5_readCond__17_72, ↓reduceIte, q_z1_10, q_v_4, q_sg_6, q_sg_7, q_sg_8, eq_false c_88, q_v_10] at hE
          exact ih13 v_4 v_10 v_9 sg_6 sg_7 sg_8 ws _ _ ls (by have q0 := r_v_10.1; have u0 := r_v_10.2; have o0 := r_x5.1; have p0 := r_x5.2; omega) r_p3 r_v_4 (r_v_10.to (by decide)) r_v_9 m_v_9 o_p0 o_p1 o_p2 hE hw (lv_sub hl [2, 3, 4, 5, 1, 0] rfl)
        · have r_x6 : RI x6 0 0 := rc_eq1 r_x6 rl_0 (ti_eq c_88) (by decide)
          refine lv_aload_n hx hb dX5_readCond_91 rfl (lv_at hl 1 rfl) ?_
          refine lv_sipush (v := 145) hx hb dX5_readCond_92 (by decide) ?_
          refine lv_iconst (v := 0) hx hb dX5_readCond_95 (by decide) ?_
          refine lv_iconst (v := 0) hx hb dX5_readCond_96 (by decide) ?_
          refine tk_v (va_runV (As := [.int 145, .int 0, .int 0]) (rest := []) ⟨hx, hb, hml, hown, hts⟩ (c_X5_addStep__1 l D cy z H.size Ps ws hw.1 p0 145 0 0 sg_6 h_p0 (rl_145.to (by decide)) (rl_0.to (by decide)) (rl_0.to (by decide)) o_p0) (cwV 3 hts (gV tw_983 tw_985 ts_33 tw_23 tw_986) rfl rfl rfl (by decide +kernel) ⟨Nat.le_of_ble_eq_true rfl, Nat.le_of_ble_eq_true rfl⟩) (tg_preV hw hK hSD hA (ci := 5) (q := (RX5, TX5, 5)) rfl h_p0 rfl) rfl rfl hl.1 rfl (lv_room (Nat.le_of_ble_eq_true rfl)) dX5_readCond_97 ⟨Nat.le_of_ble_eq_true rfl, Nat.le_of_ble_eq_true rfl⟩) hw hA ⟨by decide, by decide⟩ (fun ws H locs hp_v_11 hw hF9 => ?_)
          have m_v_9 := FLD.over hF9 m_v_9 (by decide)
          obtain ⟨hfn, hp_v_11⟩ := hp_v_11
          have o_p1 := OV.over (V := vw_TAPE) hF9 o_p1 (by decide)
          have o_p2 := OV.over (V := vw_POST) hF9 o_p2 (by decide)
          obtain ⟨sg_12, q_sg_12⟩ : ∃ q9 : OS, (f_X5_addStep__1 (145 : Int32) (0 : Int32) (0 : Int32) sg_6) = q9 := ⟨_, rfl⟩
          have o_p0 : OV vw_SENT Ps ws p0 sg_12 := by rw [← q_sg_12]; exact hfn.1
          obtain ⟨v_13, m_v_13, r_v_13⟩ := (hp_v_11.1)
          obtain ⟨v_14, e_v_14⟩ : ∃ q9 : Int32, q9 = x5 + Int32.ofInt 1 := ⟨_, rfl⟩
          obtain ⟨t_v_14, r_v_14⟩ := tq_add (lo := 1) (hi := 20) r_x5 (show RI (Int32.ofInt 1) 1 1 by unfold RI; decide +kernel) (by decide +kernel) e_v_14
          have t_v_14 : v_14.toInt = x5.toInt + 1 := t_v_14
          refine lv_iinc (v := v_14) (lv' := [(5, .int v_14), (4, .int v_4), (0, .ref p0), (1, .ref p1), (2, .ref p2), (3, .int p3), (6, .int x6)]) hx hb dX5_readCond_100 hl (k := 5) rfl e_v_14.symm (by decide) rfl (fun ls hl => ?_)
          have q_v_14 : x5 + (1 : Int32) = v_14 := by rw [e_v_14, show Int32.ofInt 1 = (1 : Int32) by decide]
          refine lv_goto (tgt := 13) hx hb dX5_readCond_103 (by decide) ?_
          simp only [f_X5_readCond__17_72, ↓reduceIte, q_z1_10, q_v_4, q_sg_6, q_sg_7, q_sg_8, eq_true c_88, q_sg_12, q_v_14] at hE
          exact ih13 v_4 v_14 v_9 sg_12 sg_7 sg_8 ws _ _ ls (by have q0 := r_v_14.1; have u0 := r_v_14.2; have o0 := r_x5.1; have p0 := r_x5.2; omega) r_p3 r_v_4 (r_v_14.to (by decide)) r_v_9 m_v_9 o_p0 o_p1 o_p2 hE hw (lv_sub hl [2, 3, 4, 5, 1, 0] rfl)
      have B40 : ∀ (x4 : Int32) (x5 : Int32) (z1_10 : Int32) (s0 : OS) (s1 : OS) (s2 : OS) (ws : va_W) (H : Heap) (locs : List Loc) (ls : Array Slot), RI p3 9 9 → RI x4 (-2147483648) 2147483647 → RI x5 0 19 → RI z1_10 1 4 → FLD ws p1 7 10 (.int z1_10) → OV vw_SENT Ps ws p0 s0 → OV vw_TAPE Ps ws p1 s1 → OV vw_POST Ps ws p2 s2 → 20 - x5.toInt < ((nf13 + 1 : Nat) : Int) → f_X5_readCond__17_40 (f_X5_readCond__17_13 p3 nf13) p3 x4 x5 s0 s1 s2 = R9 → WD D cy GG A s wr_X5_readCond__17 wa_X5_readCond__17 Ps w0 Ps ws H locs → lv_has ls 7 [(0, .ref p0), (1, .ref p1), (2, .ref p2), (3, .int p3), (4, .int x4), (5, .int x5)] → W p l e (headSpec (Cond.code yX5_readCond cX5_readCond 7 none :: gT) ({ frames := 3, cells := 0, slots := 0, locals := 600 } : Room)).room s m ([.ref p0, .ref p1, .ref p2, .int p3] : List Value).toArray below meth c H locs 0 0 Q (F0 m 40 ls []) := by
        intro x4 x5 z1_10 s0 s1 s2 ws H locs ls r_p3 r_x4 r_x5 r_z1_10 m_z1_10 o_p0 o_p1 o_p2 hn13 hE hw hl
        have q_z1_10 : s1.1 10 = z1_10 := OV.eqI (V := vw_TAPE) hw.2.2.1 o_p1 m_z1_10 (by decide)
        refine lv_aload_n hx hb dX5_readCond_40 rfl (lv_at hl 1 rfl) ?_
        refine lv_sipush (v := 144) hx hb dX5_readCond_41 (by decide) ?_
        refine tk_ir (va_runV (As := [.int 144]) (rest := []) ⟨hx, hb, hml, hown, hts⟩ (c_X7_sees__1 l D cy z H.size Ps ws hw.1 p1 144 s1 h_p1 (rl_144.to (by decide)) o_p1) (cwV 1 hts (gV tw_994 tw_995 tw_996 tw_2 tw_997) rfl rfl rfl (by decide +kernel) ⟨Nat.le_of_ble_eq_true rfl, Nat.le_of_ble_eq_true rfl⟩) (tg_preV hw hK hSD hA (ci := 7) (q := (RX7, TX7, 12)) rfl h_p1 rfl) rfl rfl hl.1 rfl (lv_room (Nat.le_of_ble_eq_true rfl)) dX5_readCond_44 ⟨Nat.le_of_ble_eq_true rfl, Nat.le_of_ble_eq_true rfl⟩) hw hA (fun v_15  H locs hp_v_15 hw => ?_)
        obtain ⟨hfn, hp_v_15⟩ := hp_v_15
        have q_v_15 : (f_X7_sees__1 (144 : Int32) s1) = v_15 := hfn.1
        have r_v_15 : RI v_15 0 1 := hp_v_15.1
        refine lv_istore (lv' := [(6, .int v_15), (0, .ref p0), (1, .ref p1), (2, .ref p2), (3, .int p3), (4, .int x4), (5, .int x5)]) hx hb dX5_readCond_47 hl (by decide) rfl (fun ls hl => ?_)
        refine lv_aload_n hx hb dX5_readCond_49 rfl (lv_at hl 2 rfl) ?_
        refine tk_vr (va_runV (As := []) (rest := []) ⟨hx, hb, hml, hown, hts⟩ (c_X7_pass__4 l D cy z H.size Ps ws hw.1 p1 z1_10 s1 h_p1 r_z1_10 m_z1_10 o_p1) (cwV 0 hts (gV tw_982 tw_425 tw_426 tw_2 tw_427) rfl rfl rfl (by decide +kernel) ⟨Nat.le_of_ble_eq_true rfl, Nat.le_of_ble_eq_true rfl⟩) (tg_preV hw hK hSD hA (ci := 7) (q := (RX7, TX7, 12)) rfl h_p1 rfl) rfl rfl hl.1 rfl (lv_room (Nat.le_of_ble_eq_true rfl)) dX5_readCond_50 ⟨Nat.le_of_ble_eq_true rfl, Nat.le_of_ble_eq_true rfl⟩) hw hA (fun  H locs hp_v_16 hw => ?_)
        obtain ⟨hfn, hp_v_16⟩ := hp_v_16
        refine lv_iload hx hb dX5_readCond_53 (lv_at hl 0 rfl) ?_
        refine lv_if_eq (tgt := 72) hx hb dX5_readCond_55 (by decide) (fun c_55 => ?_) (fun c_55 => ?_)
        · have r_v_15 : RI v_15 0 0 := rc_eq1 r_v_15 rl_0 (ti_eq c_55) (by decide)
          simp only [f_X5_readCond__17_40, ↓reduceIte, q_z1_10, q_v_15, eq_true c_55] at hE
          exact B72 x4 x5 v_15 z1_10 s0 s1 s2 ws _ _ ls r_p3 r_x4 r_x5 (r_v_15.to (by decide)) r_z1_10 m_z1_10 o_p0 o_p1 o_p2 (by have q0 := r_x5.1; have u0 := r_x5.2; omega) hE hw (lv_sub hl [1, 2, 3, 4, 5, 6, 0] rfl)
        · have r_v_15 : RI v_15 1 1 := rc_neL r_v_15 rl_0 (ti_ne c_55) (by decide)
          refine lv_iload hx hb dX5_readCond_58 (lv_at hl 5 rfl) ?_
          refine lv_if_eq (tgt := 72) hx hb dX5_readCond_60 (by decide) (fun c_60 => ?_) (fun c_60 => ?_)
          · have r_x4 : RI x4 0 0 := rc_eq1 r_x4 rl_0 (ti_eq c_60) (by decide)
            simp only [f_X5_readCond__17_40, ↓reduceIte, q_z1_10, q_v_15, eq_false c_55, eq_true c_60] at hE
            exact B72 x4 x5 v_15 z1_10 s0 s1 s2 ws _ _ ls r_p3 (r_x4.to (by decide)) r_x5 (r_v_15.to (by decide)) r_z1_10 m_z1_10 o_p0 o_p1 o_p2 (by have q0 := r_x5.1; have u0 := r_x5.2; omega) hE hw (lv_sub hl [1, 2, 3, 4, 5, 6, 0] rfl)
          · refine lv_aload_n hx hb dX5_readCond_63 rfl (lv_at hl 1 rfl) ?_
            refine lv_sipush (v := 144) hx hb dX5_readCond_64 (by decide) ?_
            refine lv_iconst (v := 0) hx hb dX5_readCond_67 (by decide) ?_
            refine lv_iconst (v := 0) hx hb dX5_readCond_68 (by decide) ?_
            refine tk_v (va_runV (As := [.int 144, .int 0, .int 0]) (rest := []) ⟨hx, hb, hml, hown, hts⟩ (c_X5_addStep__1 l D cy z H.size Ps ws hw.1 p0 144 0 0 s0 h_p0 (rl_144.to (by decide)) (rl_0.to (by decide)) (rl_0.to (by decide)) o_p0) (cwV 3 hts (gV tw_983 tw_985 ts_33 tw_23 tw_986) rfl rfl rfl (by decide +kernel) ⟨Nat.le_of_ble_eq_true rfl, Nat.le_of_ble_eq_true rfl⟩) (tg_preV hw hK hSD hA (ci := 5) (q := (RX5, TX5, 5)) rfl h_p0 rfl) rfl rfl hl.1 rfl (lv_room (Nat.le_of_ble_eq_true rfl)) dX5_readCond_69 ⟨Nat.le_of_ble_eq_true rfl, Nat.le_of_ble_eq_true rfl⟩) hw hA ⟨by decide, by decide⟩ (fun ws H locs hp_v_17 hw hF9 => ?_)
            have m_z1_10 := FLD.over hF9 m_z1_10 (by decide)
            obtain ⟨hfn, hp_v_17⟩ := hp_v_17
            have o_p1 := OV.over (V := vw_TAPE) hF9 o_p1 (by decide)
            have o_p2 := OV.over (V := vw_POST) hF9 o_p2 (by decide)
            obtain ⟨sg_18, q_sg_18⟩ : ∃ q9 : OS, (f_X5_addStep__1 (144 : Int32) (0 : Int32) (0 : Int32) s0) = q9 := ⟨_, rfl⟩
            have o_p0 : OV vw_SENT Ps ws p0 sg_18 := by rw [← q_sg_18]; exact hfn.1
            obtain ⟨v_19, m_v_19, r_v_19⟩ := (hp_v_17.1)
            simp only [f_X5_readCond__17_40, ↓reduceIte, q_z1_10, q_v_15, eq_false c_55, eq_false c_60, q_sg_18] at hE
            exact B72 x4 x5 v_15 z1_10 sg_18 s1 s2 ws _ _ ls r_p3 r_x4 r_x5 (r_v_15.to (by decide)) r_z1_10 m_z1_10 o_p0 o_p1 o_p2 (by have q0 := r_x5.1; have u0 := r_x5.2; omega) hE hw (lv_sub hl [1, 2, 3, 4, 5, 6, 0] rfl)
      intro x4 x5 z1_10 s0 s1 s2 ws H locs ls hn13 r_p3 r_x4 r_x5 r_z1_10 m_z1_10 o_p0 o_p1 o_p2 hE hw hl
      have q_z1_10 : s1.1 10 = z1_10 := OV.eqI (V := vw_TAPE) hw.2.2.1 o_p1 m_z1_10 (by decide)
      refine lv_iload hx hb dX5_readCond_13 (lv_at hl 5 rfl) ?_
      refine lv_bipush (v := 20) hx hb dX5_readCond_15 (by decide) ?_
      refine lv_icmp_ge (tgt := 106) hx hb dX5_readCond_17 (by decide) (fun c_17 => ?_) (fun c_17 => ?_)
      · have r_x5 : RI x5 20 20 := rc_le2 rl_20 r_x5 (ti_le c_17) (by decide)
        simp only [f_X5_readCond__17_13, ↓reduceIte, q_z1_10, eq_true c_17] at hE
        exact B106 x4 x5 z1_10 s0 s1 s2 ws _ _ ls r_p3 r_x4 (r_x5.to (by decide)) r_z1_10 m_z1_10 o_p0 o_p1 o_p2 hE hw hl
      · have r_x5 : RI x5 0 19 := rc_lt1 r_x5 rl_20 (ti_nle c_17) (by decide)
        refine lv_aload_n hx hb dX5_readCond_20 rfl (lv_at hl 1 rfl) ?_
        refine lv_sipush (v := 144) hx hb dX5_readCond_21 (by decide) ?_
        refine tk_ir (va_runV (As := [.int 144]) (rest := []) ⟨hx, hb, hml, hown, hts⟩ (c_X7_sees__1 l D cy z H.size Ps ws hw.1 p1 144 s1 h_p1 (rl_144.to (by decide)) o_p1) (cwV 1 hts (gV tw_994 tw_995 tw_996 tw_2 tw_997) rfl rfl rfl (by decide +kernel) ⟨Nat.le_of_ble_eq_true rfl, Nat.le_of_ble_eq_true rfl⟩) (tg_preV hw hK hSD hA (ci := 7) (q := (RX7, TX7, 12)) rfl h_p1 rfl) rfl rfl hl.1 rfl (lv_room (Nat.le_of_ble_eq_true rfl)) dX5_readCond_24 ⟨Nat.le_of_ble_eq_true rfl, Nat.le_of_ble_eq_true rfl⟩) hw hA (fun v_20  H locs hp_v_20 hw => ?_)
        obtain ⟨hfn, hp_v_20⟩ := hp_v_20
        have q_v_20 : (f_X7_sees__1 (144 : Int32) s1) = v_20 := hfn.1
        have r_v_20 : RI v_20 0 1 := hp_v_20.1
        refine lv_if_ne (tgt := 40) hx hb dX5_readCond_27 (by decide) (fun c_27 => ?_) (fun c_27 => ?_)
        · have r_v_20 : RI v_20 1 1 := rc_neL r_v_20 rl_0 (ti_ne c_27) (by decide)
          simp only [f_X5_readCond__17_13, ↓reduceIte, q_z1_10, eq_false c_17, q_v_20, eq_false c_27] at hE
          exact B40 x4 x5 z1_10 s0 s1 s2 ws _ _ ls r_p3 r_x4 r_x5 r_z1_10 m_z1_10 o_p0 o_p1 o_p2 (by have q0 := r_x5.1; have u0 := r_x5.2; omega) hE hw hl
        · have r_v_20 : RI v_20 0 0 := rc_eq1 r_v_20 rl_0 (ti_eq c_27) (by decide)
          refine lv_aload_n hx hb dX5_readCond_30 rfl (lv_at hl 1 rfl) ?_
          refine lv_sipush (v := 145) hx hb dX5_readCond_31 (by decide) ?_
          refine tk_ir (va_runV (As := [.int 145]) (rest := []) ⟨hx, hb, hml, hown, hts⟩ (c_X7_sees__1 l D cy z H.size Ps ws hw.1 p1 145 s1 h_p1 (rl_145.to (by decide)) o_p1) (cwV 1 hts (gV tw_994 tw_995 tw_996 tw_2 tw_997) rfl rfl rfl (by decide +kernel) ⟨Nat.le_of_ble_eq_true rfl, Nat.le_of_ble_eq_true rfl⟩) (tg_preV hw hK hSD hA (ci := 7) (q := (RX7, TX7, 12)) rfl h_p1 rfl) rfl rfl hl.1 rfl (lv_room (Nat.le_of_ble_eq_true rfl)) dX5_readCond_34 ⟨Nat.le_of_ble_eq_true rfl, Nat.le_of_ble_eq_true rfl⟩) hw hA (fun v_21  H locs hp_v_21 hw => ?_)
          obtain ⟨hfn, hp_v_21⟩ := hp_v_21
          have q_v_21 : (f_X7_sees__1 (145 : Int32) s1) = v_21 := hfn.1
          have r_v_21 : RI v_21 0 1 := hp_v_21.1
          refine lv_if_eq (tgt := 106) hx hb dX5_readCond_37 (by decide) (fun c_37 => ?_) (fun c_37 => ?_)
          · have r_v_21 : RI v_21 0 0 := rc_eq1 r_v_21 rl_0 (ti_eq c_37) (by decide)
            simp only [f_X5_readCond__17_13, ↓reduceIte, q_z1_10, eq_false c_17, q_v_20, eq_true c_27, q_v_21, eq_true c_37] at hE
            exact B106 x4 x5 z1_10 s0 s1 s2 ws _ _ ls r_p3 r_x4 (r_x5.to (by decide)) r_z1_10 m_z1_10 o_p0 o_p1 o_p2 hE hw hl
          · have r_v_21 : RI v_21 1 1 := rc_neL r_v_21 rl_0 (ti_ne c_37) (by decide)
            simp only [f_X5_readCond__17_13, ↓reduceIte, q_z1_10, eq_false c_17, q_v_20, eq_true c_27, q_v_21, eq_false c_37] at hE
            exact B40 x4 x5 z1_10 s0 s1 s2 ws _ _ ls r_p3 r_x4 r_x5 r_z1_10 m_z1_10 o_p0 o_p1 o_p2 (by have q0 := r_x5.1; have u0 := r_x5.2; omega) hE hw hl
  refine lv_iconst (v := 0) hx hb dX5_readCond_0 (by decide) ?_
  refine lv_istore (lv' := [(4, .int 0), (0, .ref p0), (1, .ref p1), (2, .ref p2), (3, .int p3)]) hx hb dX5_readCond_1 hl (by decide) rfl (fun ls hl => ?_)
  refine lv_aload_n hx hb dX5_readCond_3 rfl (lv_at hl 1 rfl) ?_
  refine lv_aload_n hx hb dX5_readCond_4 rfl (lv_at hl 2 rfl) ?_
  refine lv_aload_n hx hb dX5_readCond_5 rfl (lv_at hl 3 rfl) ?_
  refine lv_iload_n hx hb dX5_readCond_6 rfl (lv_at hl 4 rfl) ?_
  refine tk_v (va_runV (As := [.ref p1, .ref p2, .int p3]) (rest := []) ⟨hx, hb, hml, hown, hts⟩ (c_X5_readOne__17 l D cy z s.heap.size Ps w0 hw.1 p0 p1 p2 p3 s0 s1 s2 h_p0 h_p1 h_p2 r_p3 o_p0 o_p1 o_p2) (cwV 3 hts (gV tw_977 tw_979 ts_32 tw_23 tw_980) rfl rfl rfl (by decide +kernel) ⟨Nat.le_of_ble_eq_true rfl, Nat.le_of_ble_eq_true rfl⟩) (tg_preV hw hK hSD hA (ci := 5) (q := (RX5, TX5, 5)) rfl h_p0 rfl) rfl rfl hl.1 rfl (lv_room (Nat.le_of_ble_eq_true rfl)) dX5_readCond_7 ⟨Nat.le_of_ble_eq_true rfl, Nat.le_of_ble_eq_true rfl⟩) hw hA ⟨by decide, by decide⟩ (fun ws H locs hp_v_22 hw hF9 => ?_)
  obtain ⟨hfn, hp_v_22⟩ := hp_v_22
  obtain ⟨sg_23, q_sg_23⟩ : ∃ q9 : OS, (f_X5_readOne__17 p3 s0 s1 s2).1 = q9 := ⟨_, rfl⟩
  have o_p0 : OV vw_SENT Ps ws p0 sg_23 := by rw [← q_sg_23]; exact hfn.1
  obtain ⟨sg_24, q_sg_24⟩ : ∃ q9 : OS, (f_X5_readOne__17 p3 s0 s1 s2).2.1 = q9 := ⟨_, rfl⟩
  have o_p1 : OV vw_TAPE Ps ws p1 sg_24 := by rw [← q_sg_24]; exact hfn.2.1
  obtain ⟨sg_25, q_sg_25⟩ : ∃ q9 : OS, (f_X5_readOne__17 p3 s0 s1 s2).2.2 = q9 := ⟨_, rfl⟩
  have o_p2 : OV vw_POST Ps ws p2 sg_25 := by rw [← q_sg_25]; exact hfn.2.2.1
  obtain ⟨v_26, m_v_26, r_v_26⟩ := (hp_v_22.1)
  refine lv_iconst (v := 0) hx hb dX5_readCond_10 (by decide) ?_
  refine lv_istore (lv' := [(5, .int 0), (4, .int 0), (0, .ref p0), (1, .ref p1), (2, .ref p2), (3, .int p3)]) hx hb dX5_readCond_11 hl (by decide) rfl (fun ls hl => ?_)
  simp only [f_X5_readCond__17, ↓reduceIte, q_sg_23, q_sg_24, q_sg_25] at hE
  exact B13 4294967298 0 0 v_26 sg_23 sg_24 sg_25 ws _ _ ls (by have q0 := rl_0.1; have u0 := rl_0.2; omega) r_p3 (rl_0.to (by decide)) (rl_0.to (by decide)) r_v_26 m_v_26 o_p0 o_p1 o_p2 hE hw (lv_sub hl [2, 3, 4, 5, 1, 0] rfl)
abbrev wr_X7_passOnly__4 : List (Nat × Nat) := []
abbrev wa_X7_passOnly__4 : List Nat := []
set_option maxHeartbeats 4000000 in
set_option maxRecDepth 100000 in
theorem c_X7_passOnly__4 (l : Launch) (D : va_G) (cy : Nat → ClassId) (z : Nat → Nat) (sz : Nat) (Ps : PSI) (w0 : va_W) (hT : HT cy GG Ps w0) (p0 : Nat) (p1 : Int32) (f0_10 : Int32) (s0 : OS) (h_p0 : (p0, 26) ∈ Ps) (r_p1 : RI p1 (-2147483648) 2147483647) (r_f0_10 : RI f0_10 1 4) (m_f0_10 : FLD w0 p0 7 10 (.int f0_10)) (o_p0 : OV vw_TAPE Ps w0 p0 s0) : Met l yX7_passOnly (Cond.code yX7_passOnly cX7_passOnly 2 none :: gT) ({ frames := 2, cells := 0, slots := 0, locals := 400 } : Room) (va_Pc [.ref p0, .int p1] (PRE D cy z w0 sz)) (va_Qv (fun (u : Unit) => (True) ∧ (True)) (BB D cy (va_A w0 sz) (fun (u : Unit) => w0)) (va_A w0 sz)) 0 0 (va_A w0 sz) := by
  refine Met.ofW (cc := cX7_passOnly) (maxL := 2) (ret := none) (by decide) rfl ?_
  intro p e s m args below meth c s₁ B hml hv
  obtain ⟨rfl, hsz, hP, hK, hD0, hSD⟩ := hv
  have hx := B.exec
  have hb := B.bytes
  have hr := B.returns
  have hlocks := B.notSynchronized
  have hts : ∀ w ∈ gT, w.before _ s = true := fun w h => atoms_spec (ws := Cond.code yX7_passOnly cX7_passOnly 2 none :: gT) B.pre w (List.mem_cons_of_mem _ h)
  have hown : s.vm.findClass RX7 = some m.cls := findClass_of_methodNamed B.named
  subst hsz
  have hD := hD0.self (sz := s.heap.size)
  generalize hAe : va_A w0 s.heap.size = A at hD hSD ⊢
  have hA : ∀ q : Nat, s.heap.size ≤ q → A q := fun q h => by rw [← hAe]; exact Or.inr h
  have hl := lv_entry ([.ref p0, .int p1]) (n := 2) (Nat.le_of_ble_eq_true rfl)
  rw [lg_entry_eq]
  generalize (lg_sl ([.ref p0, .int p1]) ++ List.replicate (2 - (lg_sl ([.ref p0, .int p1])).length) Slot.unset).toArray = ls at hl ⊢
  have hl : lv_has ls 2 [(0, .ref p0), (1, .int p1)] := hl
  refine nameQ (fun Q hQ => ?_)
  have hw : WD D cy GG A s wr_X7_passOnly__4 wa_X7_passOnly__4 Ps w0 Ps w0 s.heap [] := ⟨hT, hP, hD, va_S.rf, FR.rf, hT.1, [], (List.append_nil _).symm⟩
  obtain ⟨R9, hR⟩ : ∃ q9 : Unit, f_X7_passOnly__4 p1 s0 = q9 := ⟨_, rfl⟩
  have hE := hR
  have B13 : ∀ (z0_10 : Int32) (s0 : OS) (H : Heap) (locs : List Loc) (ls : Array Slot), RI p1 (-2147483648) 2147483647 → RI z0_10 1 4 → FLD w0 p0 7 10 (.int z0_10) → OV vw_TAPE Ps w0 p0 s0 → f_X7_passOnly__4_13 p1 s0 = R9 → WD D cy GG A s wr_X7_passOnly__4 wa_X7_passOnly__4 Ps w0 Ps w0 H locs → lv_has ls 2 [(0, .ref p0), (1, .int p1)] → W p l e (headSpec (Cond.code yX7_passOnly cX7_passOnly 2 none :: gT) ({ frames := 2, cells := 0, slots := 0, locals := 400 } : Room)).room s m ([.ref p0, .int p1] : List Value).toArray below meth c H locs 0 0 Q (F0 m 13 ls []) := by
    intro z0_10 s0 H locs ls r_p1 r_z0_10 m_z0_10 o_p0 hE hw hl
    have q_z0_10 : s0.1 10 = z0_10 := OV.eqI (V := vw_TAPE) hw.2.2.1 o_p0 m_z0_10 (by decide)
    refine lv_aload_n hx hb dX7_passOnly_13 rfl (lv_at hl 0 rfl) ?_
    refine tk_vr (va_runV (As := []) (rest := []) ⟨hx, hb, hml, hown, hts⟩ (c_X7_pass__4 l D cy z H.size Ps w0 hw.1 p0 z0_10 s0 h_p0 r_z0_10 m_z0_10 o_p0) (cwV 0 hts (gV tw_424 tw_425 tw_426 tw_2 tw_427) rfl rfl rfl (by decide +kernel) ⟨Nat.le_of_ble_eq_true rfl, Nat.le_of_ble_eq_true rfl⟩) (tg_preV hw hK hSD hA (ci := 7) (q := (RX7, TX7, 12)) rfl h_p0 rfl) rfl rfl hl.1 rfl (lv_room (Nat.le_of_ble_eq_true rfl)) dX7_passOnly_14 ⟨Nat.le_of_ble_eq_true rfl, Nat.le_of_ble_eq_true rfl⟩) hw hA (fun  H locs hp_v_1 hw => ?_)
    obtain ⟨hfn, hp_v_1⟩ := hp_v_1
    simp only [f_X7_passOnly__4_13, ↓reduceIte, q_z0_10] at hE
    subst hQ
    exact W.vret hx hb hr (fun t ht hW => ⟨⟨(), rfl, ⟨trivial, trivial⟩, by rw [ht]; exact hw.2.1, va_K.moved hW.alike hK, hw.2.2.1⟩, hw.2.2.2.1.F ht⟩) hw.2.2.2.1.2.2 dX7_passOnly_17
  refine lv_aload_n hx hb dX7_passOnly_0 rfl (lv_at hl 0 rfl) ?_
  refine tg_get (ci := 7) (ts := ty_TAPE) (C := RX7) (T := TX7) (N := 12) hx hb hts inX7 hown hK hw h_p0 rfl rfl 7 (by decide) (hts _ tw_98) (fun _ h9 => h9) (ft := vI (-2147483648) 2147483647) rfl dX7_passOnly_1 (fun u_2 hv_u_2 m_u_2 => ?_)
  obtain ⟨vu_2, rfl, r_vu_2⟩ := hv_u_2
  have q_vu_2 : s0.1 7 = vu_2 := OV.eqI (V := vw_TAPE) hw.2.2.1 o_p0 m_u_2 (by decide)
  refine lv_iload_n hx hb dX7_passOnly_4 rfl (lv_at hl 1 rfl) ?_
  refine lv_icmp_eq (tgt := 13) hx hb dX7_passOnly_5 (by decide) (fun c_5 => ?_) (fun c_5 => ?_)
  · have hE := (rfl : R9 = R9)
    exact B13 f0_10 s0 _ _ ls r_p1 r_f0_10 m_f0_10 o_p0 hE hw hl
  · refine lv_aload_n hx hb dX7_passOnly_8 rfl (lv_at hl 0 rfl) ?_
    refine lv_iconst (v := 1) hx hb dX7_passOnly_9 (by decide) ?_
    refine tk_vr (va_runV (As := [.int 1]) (rest := []) ⟨hx, hb, hml, hown, hts⟩ (c_X7_refuse__6 l D cy z s.heap.size Ps w0 hw.1 p0 1 f0_10 s0 h_p0 (rl_1.to (by decide)) r_f0_10 m_f0_10 o_p0) (cwV 1 hts (gV tw_442 tw_443 tw_444 tw_2 tw_445) rfl rfl rfl (by decide +kernel) ⟨Nat.le_of_ble_eq_true rfl, Nat.le_of_ble_eq_true rfl⟩) (tg_preV hw hK hSD hA (ci := 7) (q := (RX7, TX7, 12)) rfl h_p0 rfl) rfl rfl hl.1 rfl (lv_room (Nat.le_of_ble_eq_true rfl)) dX7_passOnly_10 ⟨Nat.le_of_ble_eq_true rfl, Nat.le_of_ble_eq_true rfl⟩) hw hA (fun  H locs hp_v_3 hw => ?_)
    obtain ⟨hfn, hp_v_3⟩ := hp_v_3
    have hE := (rfl : R9 = R9)
    exact B13 f0_10 s0 _ _ ls r_p1 r_f0_10 m_f0_10 o_p0 hE hw hl
abbrev wr_X5_readOne__16 : List (Nat × Nat) := [(5, 3), (5, 4), (7, 5), (7, 6), (7, 7), (7, 8), (7, 9), (7, 10), (7, 11)]
abbrev wa_X5_readOne__16 : List Nat := [21]
set_option maxHeartbeats 4000000 in
set_option maxRecDepth 100000 in
theorem c_X5_readOne__16 (l : Launch) (D : va_G) (cy : Nat → ClassId) (z : Nat → Nat) (sz : Nat) (Ps : PSI) (w0 : va_W) (hT : HT cy GG Ps w0) (p0 : Nat) (p1 : Nat) (p2 : Nat) (p3 : Int32) (s0 : OS) (s1 : OS) (s2 : OS) (h_p0 : (p0, 32) ∈ Ps) (h_p1 : (p1, 26) ∈ Ps) (h_p2 : (p2, 25) ∈ Ps) (r_p3 : RI p3 8 8) (o_p0 : OV vw_SENT Ps w0 p0 s0) (o_p1 : OV vw_TAPE Ps w0 p1 s1) (o_p2 : OV vw_POST Ps w0 p2 s2) : Met l yX5_readOne (Cond.code yX5_readOne cX5_readOne 5 none :: gT) ({ frames := 5, cells := 0, slots := 0, locals := 1000 } : Room) (va_Pc [.ref p0, .ref p1, .ref p2, .int p3] (PRE D cy z w0 sz)) (va_Qv (fun (u : va_W) => ((OV vw_SENT Ps u p0 ((f_X5_readOne__16 p3 s0 s1 s2).1) ∧ OV vw_TAPE Ps u p1 ((f_X5_readOne__16 p3 s0 s1 s2).2.1) ∧ OV vw_POST Ps u p2 ((f_X5_readOne__16 p3 s0 s1 s2).2.2) ∧ True) ∧ (True)) ∧ HT cy GG Ps u ∧ FR wr_X5_readOne__16 wa_X5_readOne__16 Ps w0 u) (BB D cy (va_A w0 sz) (fun (u : va_W) => u)) (va_A w0 sz)) 0 0 (va_A w0 sz) := by
  refine Met.ofW (cc := cX5_readOne) (maxL := 5) (ret := none) (by decide) rfl ?_
  intro p e s m args below meth c s₁ B hml hv
  obtain ⟨rfl, hsz, hP, hK, hD0, hSD⟩ := hv
  have hx := B.exec
  have hb := B.bytes
  have hr := B.returns
  have hlocks := B.notSynchronized
  have hts : ∀ w ∈ gT, w.before _ s = true := fun w h => atoms_spec (ws := Cond.code yX5_readOne cX5_readOne 5 none :: gT) B.pre w (List.mem_cons_of_mem _ h)
  have hown : s.vm.findClass RX5 = some m.cls := findClass_of_methodNamed B.named
  subst hsz
  have hD := hD0.self (sz := s.heap.size)
  generalize hAe : va_A w0 s.heap.size = A at hD hSD ⊢
  have hA : ∀ q : Nat, s.heap.size ≤ q → A q := fun q h => by rw [← hAe]; exact Or.inr h
  have hl := lv_entry ([.ref p0, .ref p1, .ref p2, .int p3]) (n := 5) (Nat.le_of_ble_eq_true rfl)
  rw [lg_entry_eq]
  generalize (lg_sl ([.ref p0, .ref p1, .ref p2, .int p3]) ++ List.replicate (5 - (lg_sl ([.ref p0, .ref p1, .ref p2, .int p3])).length) Slot.unset).toArray = ls at hl ⊢
  have hl : lv_has ls 5 [(0, .ref p0), (1, .ref p1), (2, .ref p2), (3, .int p3)] := hl
  refine nameQ (fun Q hQ => ?_)
  have hw : WD D cy GG A s wr_X5_readOne__16 wa_X5_readOne__16 Ps w0 Ps w0 s.heap [] := ⟨hT, hP, hD, va_S.rf, FR.rf, hT.1, [], (List.append_nil _).symm⟩
  obtain ⟨R9, hR⟩ : ∃ q9 : OS × OS × OS, f_X5_readOne__16 p3 s0 s1 s2 = q9 := ⟨_, rfl⟩
  have hE := hR
  have B57 : ∀ (x4 : Int32) (s0 : OS) (s1 : OS) (s2 : OS) (ws : va_W) (H : Heap) (locs : List Loc) (ls : Array Slot), RI p3 8 8 → RI x4 (-2147483648) 2147483647 → OV vw_SENT Ps ws p0 s0 → OV vw_TAPE Ps ws p1 s1 → OV vw_POST Ps ws p2 s2 → f_X5_readOne__16_57 p3 x4 s0 s1 s2 = R9 → WD D cy GG A s wr_X5_readOne__16 wa_X5_readOne__16 Ps w0 Ps ws H locs → lv_has ls 5 [(0, .ref p0), (1, .ref p1), (2, .ref p2), (3, .int p3), (4, .int x4)] → W p l e (headSpec (Cond.code yX5_readOne cX5_readOne 5 none :: gT) ({ frames := 5, cells := 0, slots := 0, locals := 1000 } : Room)).room s m ([.ref p0, .ref p1, .ref p2, .int p3] : List Value).toArray below meth c H locs 0 0 Q (F0 m 57 ls []) := by
    intro x4 s0 s1 s2 ws H locs ls r_p3 r_x4 o_p0 o_p1 o_p2 hE hw hl
    refine lv_aload_n hx hb dX5_readOne_57 rfl (lv_at hl 1 rfl) ?_
    refine tg_getN (ci := 7) (ts := ty_TAPE) (C := RX7) (T := TX7) (N := 12) hx hb hts inX7 hown hK hw h_p1 rfl rfl 10 (by decide) (hSD.nest tn_103) (fun _ h9 => h9) (ft := vI 0 4) rfl dX5_readOne_58 (fun u_1 hv_u_1 m_u_1 => ?_)
    obtain ⟨vu_1, rfl, r_vu_1⟩ := hv_u_1
    have q_vu_1 : s1.1 10 = vu_1 := OV.eqI (V := vw_TAPE) hw.2.2.1 o_p1 m_u_1 (by decide)
    refine lv_if_eq (tgt := 65) hx hb dX5_readOne_61 (by decide) (fun c_61 => ?_) (fun c_61 => ?_)
    · have r_vu_1 : RI vu_1 0 0 := rc_eq1 r_vu_1 rl_0 (ti_eq c_61) (by decide)
      refine lv_aload_n hx hb dX5_readOne_65 rfl (lv_at hl 1 rfl) ?_
      refine tk_v (va_runV (As := []) (rest := []) ⟨hx, hb, hml, hown, hts⟩ (c_X7_pass__5 l D cy z H.size Ps ws hw.1 p1 vu_1 s1 h_p1 r_vu_1 m_u_1 o_p1) (cwV 0 hts (gV tw_982 tw_425 tw_426 tw_2 tw_427) rfl rfl rfl (by decide +kernel) ⟨Nat.le_of_ble_eq_true rfl, Nat.le_of_ble_eq_true rfl⟩) (tg_preV hw hK hSD hA (ci := 7) (q := (RX7, TX7, 12)) rfl h_p1 rfl) rfl rfl hl.1 rfl (lv_room (Nat.le_of_ble_eq_true rfl)) dX5_readOne_66 ⟨Nat.le_of_ble_eq_true rfl, Nat.le_of_ble_eq_true rfl⟩) hw hA ⟨by decide, by decide⟩ (fun ws H locs hp_v_2 hw hF9 => ?_)
      have m_u_1 := FLD.over hF9 m_u_1 (by decide)
      obtain ⟨hfn, hp_v_2⟩ := hp_v_2
      have o_p0 := OV.over (V := vw_SENT) hF9 o_p0 (by decide)
      have o_p2 := OV.over (V := vw_POST) hF9 o_p2 (by decide)
      obtain ⟨sg_3, q_sg_3⟩ : ∃ q9 : OS, (f_X7_pass__5 s1) = q9 := ⟨_, rfl⟩
      have o_p1 : OV vw_TAPE Ps ws p1 sg_3 := by rw [← q_sg_3]; exact hfn.1
      obtain ⟨v_4, m_v_4, r_v_4⟩ := (hp_v_2.1)
      refine lv_aload_n hx hb dX5_readOne_69 rfl (lv_at hl 0 rfl) ?_
      refine lv_dup hx hb dX5_readOne_70 rfl ?_
      refine tg_get (ci := 5) (ts := ty_SENT) (C := RX5) (T := TX5) (N := 5) hx hb hts inX5 hown hK hw h_p0 rfl rfl 4 (by decide) (hts _ tw_955) (fun _ h9 => h9) (ft := vI (-2147483648) 2147483647) rfl dX5_readOne_71 (fun u_5 hv_u_5 m_u_5 => ?_)
      obtain ⟨vu_5, rfl, r_vu_5⟩ := hv_u_5
      have q_vu_5 : s0.1 4 = vu_5 := OV.eqI (V := vw_SENT) hw.2.2.1 o_p0 m_u_5 (by decide)
      refine lv_iconst (v := 1) hx hb dX5_readOne_74 (by decide) ?_
      refine lv_iadd hx hb dX5_readOne_75 (lv_topi (fun v_6 e_v_6 => ?_))
      have r_v_6 := ri_any v_6
      have q_v_6 : vu_5 + (1 : Int32) = v_6 := e_v_6.symm
      refine tg_put (ci := 5) (ts := ty_SENT) (v := .int v_6) (ty := .int) (C := RX5) (T := TX5) (N := 5) hx hb hts inX5 tyX5 tyX5_ok nmX5 hown hK hw h_p0 rfl rfl 4 (by decide) (hts _ tw_955) (fun _ h9 => h9) rfl (by decide +kernel) rfl rfl (ft := vI (-2147483648) 2147483647) rfl ⟨_, rfl, r_v_6⟩ (by decide) dX5_readOne_76 (fun ws H locs hw n_k_7 hF9 => ?_)
      have m_v_4 := FLD.over hF9 m_v_4 (by decide)
      have o_p1 := OV.over (V := vw_TAPE) hF9 o_p1 (by decide)
      have o_p2 := OV.over (V := vw_POST) hF9 o_p2 (by decide)
      obtain ⟨sg_8, q_sg_8⟩ : ∃ q9 : OS, sI s0 4 v_6 = q9 := ⟨_, rfl⟩
      have o_p0 : OV vw_SENT Ps ws p0 sg_8 := by rw [← q_sg_8]; exact OV.putI (V := vw_SENT) hF9 n_k_7 o_p0 (by decide)
      refine lv_iload hx hb dX5_readOne_79 (lv_at hl 4 rfl) ?_
      refine lv_sipush (v := 146) hx hb dX5_readOne_81 (by decide) ?_
      refine lv_icmp_ne (tgt := 108) hx hb dX5_readOne_84 (by decide) (fun c_84 => ?_) (fun c_84 => ?_)
      · refine lv_iload hx hb dX5_readOne_108 (lv_at hl 4 rfl) ?_
        refine lv_bipush (v := 40) hx hb dX5_readOne_110 (by decide) ?_
        refine lv_icmp_ne (tgt := 133) hx hb dX5_readOne_112 (by decide) (fun c_112 => ?_) (fun c_112 => ?_)
        · refine lv_aload_n hx hb dX5_readOne_133 rfl (lv_at hl 0 rfl) ?_
          refine lv_aload_n hx hb dX5_readOne_134 rfl (lv_at hl 1 rfl) ?_
          refine lv_aload_n hx hb dX5_readOne_135 rfl (lv_at hl 2 rfl) ?_
          refine lv_iload hx hb dX5_readOne_136 (lv_at hl 4 rfl) ?_
          refine tk_v (va_runV (As := [.ref p1, .ref p2, .int x4]) (rest := []) ⟨hx, hb, hml, hown, hts⟩ (c_X5_readPlain__1 l D cy z H.size Ps ws hw.1 p0 p1 p2 x4 sg_8 sg_3 s2 h_p0 h_p1 h_p2 r_x4 o_p0 o_p1 o_p2) (cwV 3 hts (gV tw_988 tw_990 ts_34 tw_23 tw_991) rfl rfl rfl (by decide +kernel) ⟨Nat.le_of_ble_eq_true rfl, Nat.le_of_ble_eq_true rfl⟩) (tg_preV hw hK hSD hA (ci := 5) (q := (RX5, TX5, 5)) rfl h_p0 rfl) rfl rfl hl.1 rfl (lv_room (Nat.le_of_ble_eq_true rfl)) dX5_readOne_138 ⟨Nat.le_of_ble_eq_true rfl, Nat.le_of_ble_eq_true rfl⟩) hw hA ⟨by decide, by decide⟩ (fun ws H locs hp_v_9 hw hF9 => ?_)
          have n_k_7 := FLD.over hF9 n_k_7 (by decide)
          obtain ⟨hfn, hp_v_9⟩ := hp_v_9
          obtain ⟨sg_10, q_sg_10⟩ : ∃ q9 : OS, (f_X5_readPlain__1 x4 sg_8 sg_3 s2).1 = q9 := ⟨_, rfl⟩
          have o_p0 : OV vw_SENT Ps ws p0 sg_10 := by rw [← q_sg_10]; exact hfn.1
          obtain ⟨sg_11, q_sg_11⟩ : ∃ q9 : OS, (f_X5_readPlain__1 x4 sg_8 sg_3 s2).2.1 = q9 := ⟨_, rfl⟩
          have o_p1 : OV vw_TAPE Ps ws p1 sg_11 := by rw [← q_sg_11]; exact hfn.2.1
          obtain ⟨sg_12, q_sg_12⟩ : ∃ q9 : OS, (f_X5_readPlain__1 x4 sg_8 sg_3 s2).2.2 = q9 := ⟨_, rfl⟩
          have o_p2 : OV vw_POST Ps ws p2 sg_12 := by rw [← q_sg_12]; exact hfn.2.2.1
          obtain ⟨v_13, m_v_13, r_v_13⟩ := (hp_v_9.1)
          simp only [f_X5_readOne__16_57, ↓reduceIte, q_vu_1, eq_true c_61, q_sg_3, q_vu_5, q_v_6, q_sg_8, eq_false c_84, eq_false c_112, q_sg_10, q_sg_11, q_sg_12] at hE
          subst hQ
          exact W.vret hx hb hr (fun t ht hW => ⟨⟨ws, rfl, ⟨⟨⟨(by rw [hR, ← hE]; exact o_p0), (by rw [hR, ← hE]; exact o_p1), (by rw [hR, ← hE]; exact o_p2), trivial⟩, trivial⟩, hw.1, hw.2.2.2.2.1⟩, by rw [ht]; exact hw.2.1, va_K.moved hW.alike hK, hw.2.2.1⟩, hw.2.2.2.1.F ht⟩) hw.2.2.2.1.2.2 dX5_readOne_141
        · have r_x4 : RI x4 40 40 := rc_eq1 r_x4 rl_40 (ti_eq c_112) (by decide)
          refine lv_aload_n hx hb dX5_readOne_115 rfl (lv_at hl 0 rfl) ?_
          refine lv_aload_n hx hb dX5_readOne_116 rfl (lv_at hl 1 rfl) ?_
          refine lv_aload_n hx hb dX5_readOne_117 rfl (lv_at hl 2 rfl) ?_
          refine lv_iload_n hx hb dX5_readOne_118 rfl (lv_at hl 3 rfl) ?_
          refine lv_iconst (v := 1) hx hb dX5_readOne_119 (by decide) ?_
          refine lv_iadd hx hb dX5_readOne_120 (lv_topi (fun v_14 e_v_14 => ?_))
          obtain ⟨t_v_14, r_v_14⟩ := tq_add (lo := 9) (hi := 9) r_p3 rl_1 (by decide +kernel) e_v_14
          have t_v_14 : v_14.toInt = p3.toInt + 1 := t_v_14
          have q_v_14 : p3 + (1 : Int32) = v_14 := e_v_14.symm
          refine tk_v (va_runV (As := [.ref p1, .ref p2, .int v_14]) (rest := []) ⟨hx, hb, hml, hown, hts⟩ (c_X5_readCond__17 l D cy z H.size Ps ws hw.1 p0 p1 p2 v_14 sg_8 sg_3 s2 h_p0 h_p1 h_p2 r_v_14 o_p0 o_p1 o_p2) (cwV 3 hts (gV tw_973 tw_975 ts_31 tw_23 tw_976) rfl rfl rfl (by decide +kernel) ⟨Nat.le_of_ble_eq_true rfl, Nat.le_of_ble_eq_true rfl⟩) (tg_preV hw hK hSD hA (ci := 5) (q := (RX5, TX5, 5)) rfl h_p0 rfl) rfl rfl hl.1 rfl (lv_room (Nat.le_of_ble_eq_true rfl)) dX5_readOne_121 ⟨Nat.le_of_ble_eq_true rfl, Nat.le_of_ble_eq_true rfl⟩) hw hA ⟨by decide, by decide⟩ (fun ws H locs hp_v_15 hw hF9 => ?_)
          have n_k_7 := FLD.over hF9 n_k_7 (by decide)
          obtain ⟨hfn, hp_v_15⟩ := hp_v_15
          obtain ⟨sg_16, q_sg_16⟩ : ∃ q9 : OS, (f_X5_readCond__17 v_14 sg_8 sg_3 s2).1 = q9 := ⟨_, rfl⟩
          have o_p0 : OV vw_SENT Ps ws p0 sg_16 := by rw [← q_sg_16]; exact hfn.1
          obtain ⟨sg_17, q_sg_17⟩ : ∃ q9 : OS, (f_X5_readCond__17 v_14 sg_8 sg_3 s2).2.1 = q9 := ⟨_, rfl⟩
          have o_p1 : OV vw_TAPE Ps ws p1 sg_17 := by rw [← q_sg_17]; exact hfn.2.1
          obtain ⟨sg_18, q_sg_18⟩ : ∃ q9 : OS, (f_X5_readCond__17 v_14 sg_8 sg_3 s2).2.2 = q9 := ⟨_, rfl⟩
          have o_p2 : OV vw_POST Ps ws p2 sg_18 := by rw [← q_sg_18]; exact hfn.2.2.1
          obtain ⟨v_19, m_v_19, r_v_19⟩ := (hp_v_15.1)
          refine lv_aload_n hx hb dX5_readOne_124 rfl (lv_at hl 1 rfl) ?_
          refine lv_bipush (v := 41) hx hb dX5_readOne_125 (by decide) ?_
          refine tk_vr (va_runV (As := [.int 41]) (rest := []) ⟨hx, hb, hml, hown, hts⟩ (c_X7_passOnly__4 l D cy z H.size Ps ws hw.1 p1 41 v_19 sg_17 h_p1 (rl_41.to (by decide)) r_v_19 m_v_19 o_p1) (cwV 1 hts (gV tw_987 tw_514 tw_515 tw_2 tw_516) rfl rfl rfl (by decide +kernel) ⟨Nat.le_of_ble_eq_true rfl, Nat.le_of_ble_eq_true rfl⟩) (tg_preV hw hK hSD hA (ci := 7) (q := (RX7, TX7, 12)) rfl h_p1 rfl) rfl rfl hl.1 rfl (lv_room (Nat.le_of_ble_eq_true rfl)) dX5_readOne_127 ⟨Nat.le_of_ble_eq_true rfl, Nat.le_of_ble_eq_true rfl⟩) hw hA (fun  H locs hp_v_20 hw => ?_)
          obtain ⟨hfn, hp_v_20⟩ := hp_v_20
          refine lv_goto (tgt := 141) hx hb dX5_readOne_130 (by decide) ?_
          simp only [f_X5_readOne__16_57, ↓reduceIte, q_vu_1, eq_true c_61, q_sg_3, q_vu_5, q_v_6, q_sg_8, eq_false c_84, eq_true c_112, q_v_14, q_sg_16, q_sg_17, q_sg_18] at hE
          subst hQ
          exact W.vret hx hb hr (fun t ht hW => ⟨⟨ws, rfl, ⟨⟨⟨(by rw [hR, ← hE]; exact o_p0), (by rw [hR, ← hE]; exact o_p1), (by rw [hR, ← hE]; exact o_p2), trivial⟩, trivial⟩, hw.1, hw.2.2.2.2.1⟩, by rw [ht]; exact hw.2.1, va_K.moved hW.alike hK, hw.2.2.1⟩, hw.2.2.2.1.F ht⟩) hw.2.2.2.1.2.2 dX5_readOne_141
      · have r_x4 : RI x4 146 146 := rc_eq1 r_x4 rl_146 (ti_eq c_84) (by decide)
        refine lv_aload_n hx hb dX5_readOne_87 rfl (lv_at hl 0 rfl) ?_
        refine lv_aload_n hx hb dX5_readOne_88 rfl (lv_at hl 1 rfl) ?_
        refine lv_aload_n hx hb dX5_readOne_89 rfl (lv_at hl 2 rfl) ?_
        refine lv_iload_n hx hb dX5_readOne_90 rfl (lv_at hl 3 rfl) ?_
        refine lv_iconst (v := 1) hx hb dX5_readOne_91 (by decide) ?_
        refine lv_iadd hx hb dX5_readOne_92 (lv_topi (fun v_21 e_v_21 => ?_))
        obtain ⟨t_v_21, r_v_21⟩ := tq_add (lo := 9) (hi := 9) r_p3 rl_1 (by decide +kernel) e_v_21
        have t_v_21 : v_21.toInt = p3.toInt + 1 := t_v_21
        have q_v_21 : p3 + (1 : Int32) = v_21 := e_v_21.symm
        refine tk_v (va_runV (As := [.ref p1, .ref p2, .int v_21]) (rest := []) ⟨hx, hb, hml, hown, hts⟩ (c_X5_readOne__17 l D cy z H.size Ps ws hw.1 p0 p1 p2 v_21 sg_8 sg_3 s2 h_p0 h_p1 h_p2 r_v_21 o_p0 o_p1 o_p2) (cwV 3 hts (gV tw_977 tw_979 ts_32 tw_23 tw_980) rfl rfl rfl (by decide +kernel) ⟨Nat.le_of_ble_eq_true rfl, Nat.le_of_ble_eq_true rfl⟩) (tg_preV hw hK hSD hA (ci := 5) (q := (RX5, TX5, 5)) rfl h_p0 rfl) rfl rfl hl.1 rfl (lv_room (Nat.le_of_ble_eq_true rfl)) dX5_readOne_93 ⟨Nat.le_of_ble_eq_true rfl, Nat.le_of_ble_eq_true rfl⟩) hw hA ⟨by decide, by decide⟩ (fun ws H locs hp_v_22 hw hF9 => ?_)
        have n_k_7 := FLD.over hF9 n_k_7 (by decide)
        obtain ⟨hfn, hp_v_22⟩ := hp_v_22
        obtain ⟨sg_23, q_sg_23⟩ : ∃ q9 : OS, (f_X5_readOne__17 v_21 sg_8 sg_3 s2).1 = q9 := ⟨_, rfl⟩
        have o_p0 : OV vw_SENT Ps ws p0 sg_23 := by rw [← q_sg_23]; exact hfn.1
        obtain ⟨sg_24, q_sg_24⟩ : ∃ q9 : OS, (f_X5_readOne__17 v_21 sg_8 sg_3 s2).2.1 = q9 := ⟨_, rfl⟩
        have o_p1 : OV vw_TAPE Ps ws p1 sg_24 := by rw [← q_sg_24]; exact hfn.2.1
        obtain ⟨sg_25, q_sg_25⟩ : ∃ q9 : OS, (f_X5_readOne__17 v_21 sg_8 sg_3 s2).2.2 = q9 := ⟨_, rfl⟩
        have o_p2 : OV vw_POST Ps ws p2 sg_25 := by rw [← q_sg_25]; exact hfn.2.2.1
        obtain ⟨v_26, m_v_26, r_v_26⟩ := (hp_v_22.1)
        refine lv_aload_n hx hb dX5_readOne_96 rfl (lv_at hl 0 rfl) ?_
        refine lv_sipush (v := 146) hx hb dX5_readOne_97 (by decide) ?_
        refine lv_iconst (v := 0) hx hb dX5_readOne_100 (by decide) ?_
        refine lv_iconst (v := 0) hx hb dX5_readOne_101 (by decide) ?_
        refine tk_v (va_runV (As := [.int 146, .int 0, .int 0]) (rest := []) ⟨hx, hb, hml, hown, hts⟩ (c_X5_addStep__1 l D cy z H.size Ps ws hw.1 p0 146 0 0 sg_23 h_p0 (rl_146.to (by decide)) (rl_0.to (by decide)) (rl_0.to (by decide)) o_p0) (cwV 3 hts (gV tw_983 tw_985 ts_33 tw_23 tw_986) rfl rfl rfl (by decide +kernel) ⟨Nat.le_of_ble_eq_true rfl, Nat.le_of_ble_eq_true rfl⟩) (tg_preV hw hK hSD hA (ci := 5) (q := (RX5, TX5, 5)) rfl h_p0 rfl) rfl rfl hl.1 rfl (lv_room (Nat.le_of_ble_eq_true rfl)) dX5_readOne_102 ⟨Nat.le_of_ble_eq_true rfl, Nat.le_of_ble_eq_true rfl⟩) hw hA ⟨by decide, by decide⟩ (fun ws H locs hp_v_27 hw hF9 => ?_)
        have n_k_7 := FLD.over hF9 n_k_7 (by decide)
        have m_v_26 := FLD.over hF9 m_v_26 (by decide)
        obtain ⟨hfn, hp_v_27⟩ := hp_v_27
        have o_p1 := OV.over (V := vw_TAPE) hF9 o_p1 (by decide)
        have o_p2 := OV.over (V := vw_POST) hF9 o_p2 (by decide)
        obtain ⟨sg_28, q_sg_28⟩ : ∃ q9 : OS, (f_X5_addStep__1 (146 : Int32) (0 : Int32) (0 : Int32) sg_23) = q9 := ⟨_, rfl⟩
        have o_p0 : OV vw_SENT Ps ws p0 sg_28 := by rw [← q_sg_28]; exact hfn.1
        obtain ⟨v_29, m_v_29, r_v_29⟩ := (hp_v_27.1)
        refine lv_goto (tgt := 141) hx hb dX5_readOne_105 (by decide) ?_
        simp only [f_X5_readOne__16_57, ↓reduceIte, q_vu_1, eq_true c_61, q_sg_3, q_vu_5, q_v_6, q_sg_8, eq_true c_84, q_v_21, q_sg_23, q_sg_24, q_sg_25, q_sg_28] at hE
        subst hQ
        exact W.vret hx hb hr (fun t ht hW => ⟨⟨ws, rfl, ⟨⟨⟨(by rw [hR, ← hE]; exact o_p0), (by rw [hR, ← hE]; exact o_p1), (by rw [hR, ← hE]; exact o_p2), trivial⟩, trivial⟩, hw.1, hw.2.2.2.2.1⟩, by rw [ht]; exact hw.2.1, va_K.moved hW.alike hK, hw.2.2.1⟩, hw.2.2.2.1.F ht⟩) hw.2.2.2.1.2.2 dX5_readOne_141
    · have r_vu_1 : RI vu_1 1 4 := rc_neL r_vu_1 rl_0 (ti_ne c_61) (by decide)
      simp only [f_X5_readOne__16_57, ↓reduceIte, q_vu_1, eq_false c_61] at hE
      subst hQ
      exact W.vret hx hb hr (fun t ht hW => ⟨⟨ws, rfl, ⟨⟨⟨(by rw [hR, ← hE]; exact o_p0), (by rw [hR, ← hE]; exact o_p1), (by rw [hR, ← hE]; exact o_p2), trivial⟩, trivial⟩, hw.1, hw.2.2.2.2.1⟩, by rw [ht]; exact hw.2.1, va_K.moved hW.alike hK, hw.2.2.1⟩, hw.2.2.2.1.F ht⟩) hw.2.2.2.1.2.2 dX5_readOne_64
  have B52 : ∀ (x4 : Int32) (z0_4 : Int32) (z1_7 : Int32) (s0 : OS) (s1 : OS) (s2 : OS) (ws : va_W) (H : Heap) (locs : List Loc) (ls : Array Slot), RI p3 8 8 → RI x4 40 155 → RI z0_4 20 2147483647 → FLD ws p0 5 4 (.int z0_4) → RI z1_7 40 155 → FLD ws p1 7 7 (.int z1_7) → OV vw_SENT Ps ws p0 s0 → OV vw_TAPE Ps ws p1 s1 → OV vw_POST Ps ws p2 s2 → f_X5_readOne__16_52 p3 x4 s0 s1 s2 = R9 → WD D cy GG A s wr_X5_readOne__16 wa_X5_readOne__16 Ps w0 Ps ws H locs → lv_has ls 5 [(0, .ref p0), (1, .ref p1), (2, .ref p2), (3, .int p3), (4, .int x4)] → W p l e (headSpec (Cond.code yX5_readOne cX5_readOne 5 none :: gT) ({ frames := 5, cells := 0, slots := 0, locals := 1000 } : Room)).room s m ([.ref p0, .ref p1, .ref p2, .int p3] : List Value).toArray below meth c H locs 0 0 Q (F0 m 52 ls []) := by
    intro x4 z0_4 z1_7 s0 s1 s2 ws H locs ls r_p3 r_x4 r_z0_4 m_z0_4 r_z1_7 m_z1_7 o_p0 o_p1 o_p2 hE hw hl
    have q_z0_4 : s0.1 4 = z0_4 := OV.eqI (V := vw_SENT) hw.2.2.1 o_p0 m_z0_4 (by decide)
    have q_z1_7 : s1.1 7 = z1_7 := OV.eqI (V := vw_TAPE) hw.2.2.1 o_p1 m_z1_7 (by decide)
    refine lv_aload_n hx hb dX5_readOne_52 rfl (lv_at hl 1 rfl) ?_
    refine lv_iconst (v := 4) hx hb dX5_readOne_53 (by decide) ?_
    refine tk_v (va_runV (As := [.int 4]) (rest := []) ⟨hx, hb, hml, hown, hts⟩ (c_X7_refuse__4 l D cy z H.size Ps ws hw.1 p1 4 s1 h_p1 (rl_4.to (by decide)) o_p1) (cwV 1 hts (gV tw_981 tw_443 tw_444 tw_2 tw_445) rfl rfl rfl (by decide +kernel) ⟨Nat.le_of_ble_eq_true rfl, Nat.le_of_ble_eq_true rfl⟩) (tg_preV hw hK hSD hA (ci := 7) (q := (RX7, TX7, 12)) rfl h_p1 rfl) rfl rfl hl.1 rfl (lv_room (Nat.le_of_ble_eq_true rfl)) dX5_readOne_54 ⟨Nat.le_of_ble_eq_true rfl, Nat.le_of_ble_eq_true rfl⟩) hw hA ⟨by decide, by decide⟩ (fun ws H locs hp_v_30 hw hF9 => ?_)
    have m_z0_4 := FLD.over hF9 m_z0_4 (by decide)
    have m_z1_7 := FLD.over hF9 m_z1_7 (by decide)
    obtain ⟨hfn, hp_v_30⟩ := hp_v_30
    have o_p0 := OV.over (V := vw_SENT) hF9 o_p0 (by decide)
    have o_p2 := OV.over (V := vw_POST) hF9 o_p2 (by decide)
    obtain ⟨sg_31, q_sg_31⟩ : ∃ q9 : OS, (f_X7_refuse__4 (4 : Int32) s1) = q9 := ⟨_, rfl⟩
    have o_p1 : OV vw_TAPE Ps ws p1 sg_31 := by rw [← q_sg_31]; exact hfn.1
    obtain ⟨v_32, m_v_32, r_v_32⟩ := (hp_v_30.1)
    simp only [f_X5_readOne__16_52, ↓reduceIte, q_z0_4, q_z1_7, q_sg_31] at hE
    exact B57 x4 s0 sg_31 s2 ws _ _ ls r_p3 (r_x4.to (by decide)) o_p0 o_p1 o_p2 hE hw hl
  have B37 : ∀ (x4 : Int32) (z1_7 : Int32) (s0 : OS) (s1 : OS) (s2 : OS) (ws : va_W) (H : Heap) (locs : List Loc) (ls : Array Slot), RI p3 8 8 → RI x4 40 155 → RI z1_7 40 155 → FLD ws p1 7 7 (.int z1_7) → OV vw_SENT Ps ws p0 s0 → OV vw_TAPE Ps ws p1 s1 → OV vw_POST Ps ws p2 s2 → f_X5_readOne__16_37 p3 x4 s0 s1 s2 = R9 → WD D cy GG A s wr_X5_readOne__16 wa_X5_readOne__16 Ps w0 Ps ws H locs → lv_has ls 5 [(0, .ref p0), (1, .ref p1), (2, .ref p2), (3, .int p3), (4, .int x4)] → W p l e (headSpec (Cond.code yX5_readOne cX5_readOne 5 none :: gT) ({ frames := 5, cells := 0, slots := 0, locals := 1000 } : Room)).room s m ([.ref p0, .ref p1, .ref p2, .int p3] : List Value).toArray below meth c H locs 0 0 Q (F0 m 37 ls []) := by
    intro x4 z1_7 s0 s1 s2 ws H locs ls r_p3 r_x4 r_z1_7 m_z1_7 o_p0 o_p1 o_p2 hE hw hl
    have q_z1_7 : s1.1 7 = z1_7 := OV.eqI (V := vw_TAPE) hw.2.2.1 o_p1 m_z1_7 (by decide)
    refine lv_aload_n hx hb dX5_readOne_37 rfl (lv_at hl 0 rfl) ?_
    refine tg_get (ci := 5) (ts := ty_SENT) (C := RX5) (T := TX5) (N := 5) hx hb hts inX5 hown hK hw h_p0 rfl rfl 4 (by decide) (hts _ tw_955) (fun _ h9 => h9) (ft := vI (-2147483648) 2147483647) rfl dX5_readOne_38 (fun u_33 hv_u_33 m_u_33 => ?_)
    obtain ⟨vu_33, rfl, r_vu_33⟩ := hv_u_33
    have q_vu_33 : s0.1 4 = vu_33 := OV.eqI (V := vw_SENT) hw.2.2.1 o_p0 m_u_33 (by decide)
    refine lv_bipush (v := 20) hx hb dX5_readOne_41 (by decide) ?_
    refine lv_icmp_ge (tgt := 52) hx hb dX5_readOne_43 (by decide) (fun c_43 => ?_) (fun c_43 => ?_)
    · have r_vu_33 : RI vu_33 20 2147483647 := rc_le2 rl_20 r_vu_33 (ti_le c_43) (by decide)
      simp only [f_X5_readOne__16_37, ↓reduceIte, q_z1_7, q_vu_33, eq_true c_43] at hE
      exact B52 x4 vu_33 z1_7 s0 s1 s2 ws _ _ ls r_p3 r_x4 r_vu_33 m_u_33 r_z1_7 m_z1_7 o_p0 o_p1 o_p2 hE hw hl
    · have r_vu_33 : RI vu_33 (-2147483648) 19 := rc_lt1 r_vu_33 rl_20 (ti_nle c_43) (by decide)
      refine lv_iload_n hx hb dX5_readOne_46 rfl (lv_at hl 3 rfl) ?_
      refine lv_bipush (v := 8) hx hb dX5_readOne_47 (by decide) ?_
      refine lv_icmp_le (tgt := 57) hx hb dX5_readOne_49 (by decide) (fun c_49 => ?_) (fun c_49 => ?_)
      · simp only [f_X5_readOne__16_37, ↓reduceIte, q_z1_7, q_vu_33, eq_false c_43, eq_true c_49] at hE
        exact B57 x4 s0 s1 s2 ws _ _ ls r_p3 (r_x4.to (by decide)) o_p0 o_p1 o_p2 hE hw hl
      · have r_p3 : RI p3 9 8 := rc_lt2 rl_8 r_p3 (ti_nle c_49) (by decide)
        exact (r_p3.no (by decide)).elim
  have B29 : ∀ (x4 : Int32) (s0 : OS) (s1 : OS) (s2 : OS) (ws : va_W) (H : Heap) (locs : List Loc) (ls : Array Slot), RI p3 8 8 → RI x4 (-2147483648) 2147483647 → OV vw_SENT Ps ws p0 s0 → OV vw_TAPE Ps ws p1 s1 → OV vw_POST Ps ws p2 s2 → f_X5_readOne__16_29 p3 x4 s0 s1 s2 = R9 → WD D cy GG A s wr_X5_readOne__16 wa_X5_readOne__16 Ps w0 Ps ws H locs → lv_has ls 5 [(0, .ref p0), (1, .ref p1), (2, .ref p2), (3, .int p3), (4, .int x4)] → W p l e (headSpec (Cond.code yX5_readOne cX5_readOne 5 none :: gT) ({ frames := 5, cells := 0, slots := 0, locals := 1000 } : Room)).room s m ([.ref p0, .ref p1, .ref p2, .int p3] : List Value).toArray below meth c H locs 0 0 Q (F0 m 29 ls []) := by
    intro x4 s0 s1 s2 ws H locs ls r_p3 r_x4 o_p0 o_p1 o_p2 hE hw hl
    refine lv_aload_n hx hb dX5_readOne_29 rfl (lv_at hl 1 rfl) ?_
    refine lv_iconst (v := 1) hx hb dX5_readOne_30 (by decide) ?_
    refine tk_v (va_runV (As := [.int 1]) (rest := []) ⟨hx, hb, hml, hown, hts⟩ (c_X7_refuse__4 l D cy z H.size Ps ws hw.1 p1 1 s1 h_p1 (rl_1.to (by decide)) o_p1) (cwV 1 hts (gV tw_981 tw_443 tw_444 tw_2 tw_445) rfl rfl rfl (by decide +kernel) ⟨Nat.le_of_ble_eq_true rfl, Nat.le_of_ble_eq_true rfl⟩) (tg_preV hw hK hSD hA (ci := 7) (q := (RX7, TX7, 12)) rfl h_p1 rfl) rfl rfl hl.1 rfl (lv_room (Nat.le_of_ble_eq_true rfl)) dX5_readOne_31 ⟨Nat.le_of_ble_eq_true rfl, Nat.le_of_ble_eq_true rfl⟩) hw hA ⟨by decide, by decide⟩ (fun ws H locs hp_v_34 hw hF9 => ?_)
    obtain ⟨hfn, hp_v_34⟩ := hp_v_34
    have o_p0 := OV.over (V := vw_SENT) hF9 o_p0 (by decide)
    have o_p2 := OV.over (V := vw_POST) hF9 o_p2 (by decide)
    obtain ⟨sg_35, q_sg_35⟩ : ∃ q9 : OS, (f_X7_refuse__4 (1 : Int32) s1) = q9 := ⟨_, rfl⟩
    have o_p1 : OV vw_TAPE Ps ws p1 sg_35 := by rw [← q_sg_35]; exact hfn.1
    obtain ⟨v_36, m_v_36, r_v_36⟩ := (hp_v_34.1)
    refine lv_goto (tgt := 57) hx hb dX5_readOne_34 (by decide) ?_
    simp only [f_X5_readOne__16_29, ↓reduceIte, q_sg_35] at hE
    exact B57 x4 s0 sg_35 s2 ws _ _ ls r_p3 r_x4 o_p0 o_p1 o_p2 hE hw hl
  refine lv_aload_n hx hb dX5_readOne_0 rfl (lv_at hl 1 rfl) ?_
  refine tg_getN (ci := 7) (ts := ty_TAPE) (C := RX7) (T := TX7) (N := 12) hx hb hts inX7 hown hK hw h_p1 rfl rfl 7 (by decide) (hSD.nest tn_96) (fun _ h9 => h9) (ft := vI (-2147483648) 2147483647) rfl dX5_readOne_1 (fun u_37 hv_u_37 m_u_37 => ?_)
  obtain ⟨vu_37, rfl, r_vu_37⟩ := hv_u_37
  have q_vu_37 : s1.1 7 = vu_37 := OV.eqI (V := vw_TAPE) hw.2.2.1 o_p1 m_u_37 (by decide)
  refine lv_istore (lv' := [(4, .int vu_37), (0, .ref p0), (1, .ref p1), (2, .ref p2), (3, .int p3)]) hx hb dX5_readOne_4 hl (by decide) rfl (fun ls hl => ?_)
  refine lv_iload hx hb dX5_readOne_6 (lv_at hl 0 rfl) ?_
  refine lv_bipush (v := 40) hx hb dX5_readOne_8 (by decide) ?_
  refine lv_icmp_eq (tgt := 37) hx hb dX5_readOne_10 (by decide) (fun c_10 => ?_) (fun c_10 => ?_)
  · have r_vu_37 : RI vu_37 40 40 := rc_eq1 r_vu_37 rl_40 (ti_eq c_10) (by decide)
    simp only [f_X5_readOne__16, ↓reduceIte, q_vu_37, eq_true c_10] at hE
    exact B37 vu_37 vu_37 s0 s1 s2 w0 _ _ ls r_p3 (r_vu_37.to (by decide)) (r_vu_37.to (by decide)) m_u_37 o_p0 o_p1 o_p2 hE hw (lv_sub hl [1, 2, 3, 4, 0] rfl)
  · refine lv_iload hx hb dX5_readOne_13 (lv_at hl 0 rfl) ?_
    refine lv_sipush (v := 146) hx hb dX5_readOne_15 (by decide) ?_
    refine lv_icmp_lt (tgt := 29) hx hb dX5_readOne_18 (by decide) (fun c_18 => ?_) (fun c_18 => ?_)
    · have r_vu_37 : RI vu_37 (-2147483648) 145 := rc_lt1 r_vu_37 rl_146 (ti_lt c_18) (by decide)
      simp only [f_X5_readOne__16, ↓reduceIte, q_vu_37, eq_false c_10, eq_true c_18] at hE
      exact B29 vu_37 s0 s1 s2 w0 _ _ ls r_p3 (r_vu_37.to (by decide)) o_p0 o_p1 o_p2 hE hw (lv_sub hl [1, 2, 3, 4, 0] rfl)
    · have r_vu_37 : RI vu_37 146 2147483647 := rc_le2 rl_146 r_vu_37 (ti_nlt c_18) (by decide)
      refine lv_iload hx hb dX5_readOne_21 (lv_at hl 0 rfl) ?_
      refine lv_sipush (v := 155) hx hb dX5_readOne_23 (by decide) ?_
      refine lv_icmp_le (tgt := 37) hx hb dX5_readOne_26 (by decide) (fun c_26 => ?_) (fun c_26 => ?_)
      · have r_vu_37 : RI vu_37 146 155 := rc_le1 r_vu_37 rl_155 (ti_le c_26) (by decide)
        simp only [f_X5_readOne__16, ↓reduceIte, q_vu_37, eq_false c_10, eq_false c_18, eq_true c_26] at hE
        exact B37 vu_37 vu_37 s0 s1 s2 w0 _ _ ls r_p3 (r_vu_37.to (by decide)) (r_vu_37.to (by decide)) m_u_37 o_p0 o_p1 o_p2 hE hw (lv_sub hl [1, 2, 3, 4, 0] rfl)
      · have r_vu_37 : RI vu_37 156 2147483647 := rc_lt2 rl_155 r_vu_37 (ti_nle c_26) (by decide)
        simp only [f_X5_readOne__16, ↓reduceIte, q_vu_37, eq_false c_10, eq_false c_18, eq_false c_26] at hE
        exact B29 vu_37 s0 s1 s2 w0 _ _ ls r_p3 (r_vu_37.to (by decide)) o_p0 o_p1 o_p2 hE hw (lv_sub hl [1, 2, 3, 4, 0] rfl)
abbrev wr_X5_readCond__16 : List (Nat × Nat) := [(5, 3), (5, 4), (7, 5), (7, 6), (7, 7), (7, 8), (7, 9), (7, 10), (7, 11)]
abbrev wa_X5_readCond__16 : List Nat := [21]
set_option maxHeartbeats 4000000 in
set_option maxRecDepth 100000 in
theorem c_X5_readCond__16 (l : Launch) (D : va_G) (cy : Nat → ClassId) (z : Nat → Nat) (sz : Nat) (Ps : PSI) (w0 : va_W) (hT : HT cy GG Ps w0) (p0 : Nat) (p1 : Nat) (p2 : Nat) (p3 : Int32) (s0 : OS) (s1 : OS) (s2 : OS) (h_p0 : (p0, 32) ∈ Ps) (h_p1 : (p1, 26) ∈ Ps) (h_p2 : (p2, 25) ∈ Ps) (r_p3 : RI p3 8 8) (o_p0 : OV vw_SENT Ps w0 p0 s0) (o_p1 : OV vw_TAPE Ps w0 p1 s1) (o_p2 : OV vw_POST Ps w0 p2 s2) : Met l yX5_readCond (Cond.code yX5_readCond cX5_readCond 7 none :: gT) ({ frames := 6, cells := 0, slots := 0, locals := 1200 } : Room) (va_Pc [.ref p0, .ref p1, .ref p2, .int p3] (PRE D cy z w0 sz)) (va_Qv (fun (u : va_W) => ((OV vw_SENT Ps u p0 ((f_X5_readCond__16 p3 s0 s1 s2).1) ∧ OV vw_TAPE Ps u p1 ((f_X5_readCond__16 p3 s0 s1 s2).2.1) ∧ OV vw_POST Ps u p2 ((f_X5_readCond__16 p3 s0 s1 s2).2.2) ∧ True) ∧ (True)) ∧ HT cy GG Ps u ∧ FR wr_X5_readCond__16 wa_X5_readCond__16 Ps w0 u) (BB D cy (va_A w0 sz) (fun (u : va_W) => u)) (va_A w0 sz)) 0 0 (va_A w0 sz) := by
  refine Met.ofW (cc := cX5_readCond) (maxL := 7) (ret := none) (by decide) rfl ?_
  intro p e s m args below meth c s₁ B hml hv
  obtain ⟨rfl, hsz, hP, hK, hD0, hSD⟩ := hv
  have hx := B.exec
  have hb := B.bytes
  have hr := B.returns
  have hlocks := B.notSynchronized
  have hts : ∀ w ∈ gT, w.before _ s = true := fun w h => atoms_spec (ws := Cond.code yX5_readCond cX5_readCond 7 none :: gT) B.pre w (List.mem_cons_of_mem _ h)
  have hown : s.vm.findClass RX5 = some m.cls := findClass_of_methodNamed B.named
  subst hsz
  have hD := hD0.self (sz := s.heap.size)
  generalize hAe : va_A w0 s.heap.size = A at hD hSD ⊢
  have hA : ∀ q : Nat, s.heap.size ≤ q → A q := fun q h => by rw [← hAe]; exact Or.inr h
  have hl := lv_entry ([.ref p0, .ref p1, .ref p2, .int p3]) (n := 7) (Nat.le_of_ble_eq_true rfl)
  rw [lg_entry_eq]
  generalize (lg_sl ([.ref p0, .ref p1, .ref p2, .int p3]) ++ List.replicate (7 - (lg_sl ([.ref p0, .ref p1, .ref p2, .int p3])).length) Slot.unset).toArray = ls at hl ⊢
  have hl : lv_has ls 7 [(0, .ref p0), (1, .ref p1), (2, .ref p2), (3, .int p3)] := hl
  refine nameQ (fun Q hQ => ?_)
  have hw : WD D cy GG A s wr_X5_readCond__16 wa_X5_readCond__16 Ps w0 Ps w0 s.heap [] := ⟨hT, hP, hD, va_S.rf, FR.rf, hT.1, [], (List.append_nil _).symm⟩
  obtain ⟨R9, hR⟩ : ∃ q9 : OS × OS × OS, f_X5_readCond__16 p3 s0 s1 s2 = q9 := ⟨_, rfl⟩
  have hE := hR
  have B106 : ∀ (x4 : Int32) (x5 : Int32) (s0 : OS) (s1 : OS) (s2 : OS) (ws : va_W) (H : Heap) (locs : List Loc) (ls : Array Slot), RI p3 8 8 → RI x4 (-2147483648) 2147483647 → RI x5 0 21 → OV vw_SENT Ps ws p0 s0 → OV vw_TAPE Ps ws p1 s1 → OV vw_POST Ps ws p2 s2 → f_X5_readCond__16_106 p3 x4 x5 s0 s1 s2 = R9 → WD D cy GG A s wr_X5_readCond__16 wa_X5_readCond__16 Ps w0 Ps ws H locs → lv_has ls 7 [(0, .ref p0), (1, .ref p1), (2, .ref p2), (3, .int p3), (4, .int x4), (5, .int x5)] → W p l e (headSpec (Cond.code yX5_readCond cX5_readCond 7 none :: gT) ({ frames := 6, cells := 0, slots := 0, locals := 1200 } : Room)).room s m ([.ref p0, .ref p1, .ref p2, .int p3] : List Value).toArray below meth c H locs 0 0 Q (F0 m 106 ls []) := by
    intro x4 x5 s0 s1 s2 ws H locs ls r_p3 r_x4 r_x5 o_p0 o_p1 o_p2 hE hw hl
    refine lv_iload hx hb dX5_readCond_106 (lv_at hl 4 rfl) ?_
    refine lv_if_eq (tgt := 120) hx hb dX5_readCond_108 (by decide) (fun c_108 => ?_) (fun c_108 => ?_)
    · have r_x4 : RI x4 0 0 := rc_eq1 r_x4 rl_0 (ti_eq c_108) (by decide)
      simp only [f_X5_readCond__16_106, ↓reduceIte, eq_true c_108] at hE
      subst hQ
      exact W.vret hx hb hr (fun t ht hW => ⟨⟨ws, rfl, ⟨⟨⟨(by rw [hR, ← hE]; exact o_p0), (by rw [hR, ← hE]; exact o_p1), (by rw [hR, ← hE]; exact o_p2), trivial⟩, trivial⟩, hw.1, hw.2.2.2.2.1⟩, by rw [ht]; exact hw.2.1, va_K.moved hW.alike hK, hw.2.2.1⟩, hw.2.2.2.1.F ht⟩) hw.2.2.2.1.2.2 dX5_readCond_120
    · refine lv_aload_n hx hb dX5_readCond_111 rfl (lv_at hl 0 rfl) ?_
      refine lv_sipush (v := 144) hx hb dX5_readCond_112 (by decide) ?_
      refine lv_iconst (v := 0) hx hb dX5_readCond_115 (by decide) ?_
      refine lv_iconst (v := 0) hx hb dX5_readCond_116 (by decide) ?_
      refine tk_v (va_runV (As := [.int 144, .int 0, .int 0]) (rest := []) ⟨hx, hb, hml, hown, hts⟩ (c_X5_addStep__1 l D cy z H.size Ps ws hw.1 p0 144 0 0 s0 h_p0 (rl_144.to (by decide)) (rl_0.to (by decide)) (rl_0.to (by decide)) o_p0) (cwV 3 hts (gV tw_983 tw_985 ts_33 tw_23 tw_986) rfl rfl rfl (by decide +kernel) ⟨Nat.le_of_ble_eq_true rfl, Nat.le_of_ble_eq_true rfl⟩) (tg_preV hw hK hSD hA (ci := 5) (q := (RX5, TX5, 5)) rfl h_p0 rfl) rfl rfl hl.1 rfl (lv_room (Nat.le_of_ble_eq_true rfl)) dX5_readCond_117 ⟨Nat.le_of_ble_eq_true rfl, Nat.le_of_ble_eq_true rfl⟩) hw hA ⟨by decide, by decide⟩ (fun ws H locs hp_v_1 hw hF9 => ?_)
      obtain ⟨hfn, hp_v_1⟩ := hp_v_1
      have o_p1 := OV.over (V := vw_TAPE) hF9 o_p1 (by decide)
      have o_p2 := OV.over (V := vw_POST) hF9 o_p2 (by decide)
      obtain ⟨sg_2, q_sg_2⟩ : ∃ q9 : OS, (f_X5_addStep__1 (144 : Int32) (0 : Int32) (0 : Int32) s0) = q9 := ⟨_, rfl⟩
      have o_p0 : OV vw_SENT Ps ws p0 sg_2 := by rw [← q_sg_2]; exact hfn.1
      obtain ⟨v_3, m_v_3, r_v_3⟩ := (hp_v_1.1)
      simp only [f_X5_readCond__16_106, ↓reduceIte, eq_false c_108, q_sg_2] at hE
      subst hQ
      exact W.vret hx hb hr (fun t ht hW => ⟨⟨ws, rfl, ⟨⟨⟨(by rw [hR, ← hE]; exact o_p0), (by rw [hR, ← hE]; exact o_p1), (by rw [hR, ← hE]; exact o_p2), trivial⟩, trivial⟩, hw.1, hw.2.2.2.2.1⟩, by rw [ht]; exact hw.2.1, va_K.moved hW.alike hK, hw.2.2.1⟩, hw.2.2.2.1.F ht⟩) hw.2.2.2.1.2.2 dX5_readCond_120
  have B13 : ∀ (nf : Nat) (x4 : Int32) (x5 : Int32) (s0 : OS) (s1 : OS) (s2 : OS) (ws : va_W) (H : Heap) (locs : List Loc) (ls : Array Slot), 20 - x5.toInt < (nf : Int) → RI p3 8 8 → RI x4 (-2147483648) 2147483647 → RI x5 0 20 → OV vw_SENT Ps ws p0 s0 → OV vw_TAPE Ps ws p1 s1 → OV vw_POST Ps ws p2 s2 → f_X5_readCond__16_13 p3 nf x4 x5 s0 s1 s2 = R9 → WD D cy GG A s wr_X5_readCond__16 wa_X5_readCond__16 Ps w0 Ps ws H locs → lv_has ls 7 [(0, .ref p0), (1, .ref p1), (2, .ref p2), (3, .int p3), (4, .int x4), (5, .int x5)] → W p l e (headSpec (Cond.code yX5_readCond cX5_readCond 7 none :: gT) ({ frames := 6, cells := 0, slots := 0, locals := 1200 } : Room)).room s m ([.ref p0, .ref p1, .ref p2, .int p3] : List Value).toArray below meth c H locs 0 0 Q (F0 m 13 ls []) := by
    intro nf13
    induction nf13 with
    | zero =>
      intro x4 x5 s0 s1 s2 ws H locs ls hn13 r_p3 r_x4 r_x5 o_p0 o_p1 o_p2 hE hw hl
      exact absurd hn13 (by have q0 := r_x5.1; have u0 := r_x5.2; omega)
    | succ nf13 ih13 =>
      have B72 : ∀ (x4 : Int32) (x5 : Int32) (x6 : Int32) (s0 : OS) (s1 : OS) (s2 : OS) (ws : va_W) (H : Heap) (locs : List Loc) (ls : Array Slot), RI p3 8 8 → RI x4 (-2147483648) 2147483647 → RI x5 0 19 → RI x6 0 1 → OV vw_SENT Ps ws p0 s0 → OV vw_TAPE Ps ws p1 s1 → OV vw_POST Ps ws p2 s2 → 20 - x5.toInt < ((nf13 + 1 : Nat) : Int) → f_X5_readCond__16_72 (f_X5_readCond__16_13 p3 nf13) p3 x4 x5 x6 s0 s1 s2 = R9 → WD D cy GG A s wr_X5_readCond__16 wa_X5_readCond__16 Ps w0 Ps ws H locs → lv_has ls 7 [(0, .ref p0), (1, .ref p1), (2, .ref p2), (3, .int p3), (4, .int x4), (5, .int x5), (6, .int x6)] → W p l e (headSpec (Cond.code yX5_readCond cX5_readCond 7 none :: gT) ({ frames := 6, cells := 0, slots := 0, locals := 1200 } : Room)).room s m ([.ref p0, .ref p1, .ref p2, .int p3] : List Value).toArray below meth c H locs 0 0 Q (F0 m 72 ls []) := by
        intro x4 x5 x6 s0 s1 s2 ws H locs ls r_p3 r_x4 r_x5 r_x6 o_p0 o_p1 o_p2 hn13 hE hw hl
        refine lv_iload hx hb dX5_readCond_72 (lv_at hl 4 rfl) ?_
        refine lv_iload hx hb dX5_readCond_74 (lv_at hl 6 rfl) ?_
        refine lv_ior hx hb dX5_readCond_76 (lv_topi (fun v_4 e_v_4 => ?_))
        have r_v_4 := ri_any v_4
        have q_v_4 : x4 ||| x6 = v_4 := e_v_4.symm
        refine lv_istore (lv' := [(4, .int v_4), (0, .ref p0), (1, .ref p1), (2, .ref p2), (3, .int p3), (5, .int x5), (6, .int x6)]) hx hb dX5_readCond_77 hl (by decide) rfl (fun ls hl => ?_)
        refine lv_aload_n hx hb dX5_readCond_79 rfl (lv_at hl 1 rfl) ?_
        refine lv_aload_n hx hb dX5_readCond_80 rfl (lv_at hl 2 rfl) ?_
        refine lv_aload_n hx hb dX5_readCond_81 rfl (lv_at hl 3 rfl) ?_
        refine lv_iload_n hx hb dX5_readCond_82 rfl (lv_at hl 4 rfl) ?_
        refine tk_v (va_runV (As := [.ref p1, .ref p2, .int p3]) (rest := []) ⟨hx, hb, hml, hown, hts⟩ (c_X5_readOne__16 l D cy z H.size Ps ws hw.1 p0 p1 p2 p3 s0 s1 s2 h_p0 h_p1 h_p2 r_p3 o_p0 o_p1 o_p2) (cwV 3 hts (gV tw_977 tw_979 ts_32 tw_23 tw_980) rfl rfl rfl (by decide +kernel) ⟨Nat.le_of_ble_eq_true rfl, Nat.le_of_ble_eq_true rfl⟩) (tg_preV hw hK hSD hA (ci := 5) (q := (RX5, TX5, 5)) rfl h_p0 rfl) rfl rfl hl.1 rfl (lv_room (Nat.le_of_ble_eq_true rfl)) dX5_readCond_83 ⟨Nat.le_of_ble_eq_true rfl, Nat.le_of_ble_eq_true rfl⟩) hw hA ⟨by decide, by decide⟩ (fun ws H locs hp_v_5 hw hF9 => ?_)
        obtain ⟨hfn, hp_v_5⟩ := hp_v_5
        obtain ⟨sg_6, q_sg_6⟩ : ∃ q9 : OS, (f_X5_readOne__16 p3 s0 s1 s2).1 = q9 := ⟨_, rfl⟩
        have o_p0 : OV vw_SENT Ps ws p0 sg_6 := by rw [← q_sg_6]; exact hfn.1
        obtain ⟨sg_7, q_sg_7⟩ : ∃ q9 : OS, (f_X5_readOne__16 p3 s0 s1 s2).2.1 = q9 := ⟨_, rfl⟩
        have o_p1 : OV vw_TAPE Ps ws p1 sg_7 := by rw [← q_sg_7]; exact hfn.2.1
        obtain ⟨sg_8, q_sg_8⟩ : ∃ q9 : OS, (f_X5_readOne__16 p3 s0 s1 s2).2.2 = q9 := ⟨_, rfl⟩
        have o_p2 : OV vw_POST Ps ws p2 sg_8 := by rw [← q_sg_8]; exact hfn.2.2.1
        refine lv_iload hx hb dX5_readCond_86 (lv_at hl 6 rfl) ?_
        refine lv_if_ne (tgt := 100) hx hb dX5_readCond_88 (by decide) (fun c_88 => ?_) (fun c_88 => ?_)
        · have r_x6 : RI x6 1 1 := rc_neL r_x6 rl_0 (ti_ne c_88) (by decide)
          obtain ⟨v_9, e_v_9⟩ : ∃ q9 : Int32, q9 = x5 + Int32.ofInt 1 := ⟨_, rfl⟩
          obtain ⟨t_v_9, r_v_9⟩ := tq_add (lo := 1) (hi := 20) r_x5 (show RI (Int32.ofInt 1) 1 1 by unfold RI; decide +kernel) (by decide +kernel) e_v_9
          have t_v_9 : v_9.toInt = x5.toInt + 1 := t_v_9
          refine lv_iinc (v := v_9) (lv' := [(5, .int v_9), (4, .int v_4), (0, .ref p0), (1, .ref p1), (2, .ref p2), (3, .int p3), (6, .int x6)]) hx hb dX5_readCond_100 hl (k := 5) rfl e_v_9.symm (by decide) rfl (fun ls hl => ?_)
          have q_v_9 : x5 + (1 : Int32) = v_9 := by rw [e_v_9, show Int32.ofInt 1 = (1 : Int32) by decide]
          refine lv_goto (tgt := 13) hx hb dX5_readCond_103 (by decide) ?_
          simp only [f_X5_readCond__16_72, ↓reduceIte, q_v_4, q_sg_6, q_sg_7, q_sg_8, eq_false c_88, q_v_9] at hE
          exact ih13 v_4 v_9 sg_6 sg_7 sg_8 ws _ _ ls (by have q0 := r_v_9.1; have u0 := r_v_9.2; have o0 := r_x5.1; have p0 := r_x5.2; omega) r_p3 r_v_4 (r_v_9.to (by decide)) o_p0 o_p1 o_p2 hE hw (lv_sub hl [2, 3, 4, 5, 1, 0] rfl)
        · have r_x6 : RI x6 0 0 := rc_eq1 r_x6 rl_0 (ti_eq c_88) (by decide)
          refine lv_aload_n hx hb dX5_readCond_91 rfl (lv_at hl 1 rfl) ?_
          refine lv_sipush (v := 145) hx hb dX5_readCond_92 (by decide) ?_
          refine lv_iconst (v := 0) hx hb dX5_readCond_95 (by decide) ?_
          refine lv_iconst (v := 0) hx hb dX5_readCond_96 (by decide) ?_
          refine tk_v (va_runV (As := [.int 145, .int 0, .int 0]) (rest := []) ⟨hx, hb, hml, hown, hts⟩ (c_X5_addStep__1 l D cy z H.size Ps ws hw.1 p0 145 0 0 sg_6 h_p0 (rl_145.to (by decide)) (rl_0.to (by decide)) (rl_0.to (by decide)) o_p0) (cwV 3 hts (gV tw_983 tw_985 ts_33 tw_23 tw_986) rfl rfl rfl (by decide +kernel) ⟨Nat.le_of_ble_eq_true rfl, Nat.le_of_ble_eq_true rfl⟩) (tg_preV hw hK hSD hA (ci := 5) (q := (RX5, TX5, 5)) rfl h_p0 rfl) rfl rfl hl.1 rfl (lv_room (Nat.le_of_ble_eq_true rfl)) dX5_readCond_97 ⟨Nat.le_of_ble_eq_true rfl, Nat.le_of_ble_eq_true rfl⟩) hw hA ⟨by decide, by decide⟩ (fun ws H locs hp_v_10 hw hF9 => ?_)
          obtain ⟨hfn, hp_v_10⟩ := hp_v_10
          have o_p1 := OV.over (V := vw_TAPE) hF9 o_p1 (by decide)
          have o_p2 := OV.over (V := vw_POST) hF9 o_p2 (by decide)
          obtain ⟨sg_11, q_sg_11⟩ : ∃ q9 : OS, (f_X5_addStep__1 (145 : Int32) (0 : Int32) (0 : Int32) sg_6) = q9 := ⟨_, rfl⟩
          have o_p0 : OV vw_SENT Ps ws p0 sg_11 := by rw [← q_sg_11]; exact hfn.1
          obtain ⟨v_12, m_v_12, r_v_12⟩ := (hp_v_10.1)
          obtain ⟨v_13, e_v_13⟩ : ∃ q9 : Int32, q9 = x5 + Int32.ofInt 1 := ⟨_, rfl⟩
          obtain ⟨t_v_13, r_v_13⟩ := tq_add (lo := 1) (hi := 20) r_x5 (show RI (Int32.ofInt 1) 1 1 by unfold RI; decide +kernel) (by decide +kernel) e_v_13
          have t_v_13 : v_13.toInt = x5.toInt + 1 := t_v_13
          refine lv_iinc (v := v_13) (lv' := [(5, .int v_13), (4, .int v_4), (0, .ref p0), (1, .ref p1), (2, .ref p2), (3, .int p3), (6, .int x6)]) hx hb dX5_readCond_100 hl (k := 5) rfl e_v_13.symm (by decide) rfl (fun ls hl => ?_)
          have q_v_13 : x5 + (1 : Int32) = v_13 := by rw [e_v_13, show Int32.ofInt 1 = (1 : Int32) by decide]
          refine lv_goto (tgt := 13) hx hb dX5_readCond_103 (by decide) ?_
          simp only [f_X5_readCond__16_72, ↓reduceIte, q_v_4, q_sg_6, q_sg_7, q_sg_8, eq_true c_88, q_sg_11, q_v_13] at hE
          exact ih13 v_4 v_13 sg_11 sg_7 sg_8 ws _ _ ls (by have q0 := r_v_13.1; have u0 := r_v_13.2; have o0 := r_x5.1; have p0 := r_x5.2; omega) r_p3 r_v_4 (r_v_13.to (by decide)) o_p0 o_p1 o_p2 hE hw (lv_sub hl [2, 3, 4, 5, 1, 0] rfl)
      have B40 : ∀ (x4 : Int32) (x5 : Int32) (s0 : OS) (s1 : OS) (s2 : OS) (ws : va_W) (H : Heap) (locs : List Loc) (ls : Array Slot), RI p3 8 8 → RI x4 (-2147483648) 2147483647 → RI x5 0 19 → OV vw_SENT Ps ws p0 s0 → OV vw_TAPE Ps ws p1 s1 → OV vw_POST Ps ws p2 s2 → 20 - x5.toInt < ((nf13 + 1 : Nat) : Int) → f_X5_readCond__16_40 (f_X5_readCond__16_13 p3 nf13) p3 x4 x5 s0 s1 s2 = R9 → WD D cy GG A s wr_X5_readCond__16 wa_X5_readCond__16 Ps w0 Ps ws H locs → lv_has ls 7 [(0, .ref p0), (1, .ref p1), (2, .ref p2), (3, .int p3), (4, .int x4), (5, .int x5)] → W p l e (headSpec (Cond.code yX5_readCond cX5_readCond 7 none :: gT) ({ frames := 6, cells := 0, slots := 0, locals := 1200 } : Room)).room s m ([.ref p0, .ref p1, .ref p2, .int p3] : List Value).toArray below meth c H locs 0 0 Q (F0 m 40 ls []) := by
        intro x4 x5 s0 s1 s2 ws H locs ls r_p3 r_x4 r_x5 o_p0 o_p1 o_p2 hn13 hE hw hl
        refine lv_aload_n hx hb dX5_readCond_40 rfl (lv_at hl 1 rfl) ?_
        refine lv_sipush (v := 144) hx hb dX5_readCond_41 (by decide) ?_
        refine tk_ir (va_runV (As := [.int 144]) (rest := []) ⟨hx, hb, hml, hown, hts⟩ (c_X7_sees__1 l D cy z H.size Ps ws hw.1 p1 144 s1 h_p1 (rl_144.to (by decide)) o_p1) (cwV 1 hts (gV tw_994 tw_995 tw_996 tw_2 tw_997) rfl rfl rfl (by decide +kernel) ⟨Nat.le_of_ble_eq_true rfl, Nat.le_of_ble_eq_true rfl⟩) (tg_preV hw hK hSD hA (ci := 7) (q := (RX7, TX7, 12)) rfl h_p1 rfl) rfl rfl hl.1 rfl (lv_room (Nat.le_of_ble_eq_true rfl)) dX5_readCond_44 ⟨Nat.le_of_ble_eq_true rfl, Nat.le_of_ble_eq_true rfl⟩) hw hA (fun v_14  H locs hp_v_14 hw => ?_)
        obtain ⟨hfn, hp_v_14⟩ := hp_v_14
        have q_v_14 : (f_X7_sees__1 (144 : Int32) s1) = v_14 := hfn.1
        have r_v_14 : RI v_14 0 1 := hp_v_14.1
        refine lv_istore (lv' := [(6, .int v_14), (0, .ref p0), (1, .ref p1), (2, .ref p2), (3, .int p3), (4, .int x4), (5, .int x5)]) hx hb dX5_readCond_47 hl (by decide) rfl (fun ls hl => ?_)
        refine lv_aload_n hx hb dX5_readCond_49 rfl (lv_at hl 2 rfl) ?_
        refine tk_v (va_runV (As := []) (rest := []) ⟨hx, hb, hml, hown, hts⟩ (c_X7_pass__6 l D cy z H.size Ps ws hw.1 p1 s1 h_p1 o_p1) (cwV 0 hts (gV tw_982 tw_425 tw_426 tw_2 tw_427) rfl rfl rfl (by decide +kernel) ⟨Nat.le_of_ble_eq_true rfl, Nat.le_of_ble_eq_true rfl⟩) (tg_preV hw hK hSD hA (ci := 7) (q := (RX7, TX7, 12)) rfl h_p1 rfl) rfl rfl hl.1 rfl (lv_room (Nat.le_of_ble_eq_true rfl)) dX5_readCond_50 ⟨Nat.le_of_ble_eq_true rfl, Nat.le_of_ble_eq_true rfl⟩) hw hA ⟨by decide, by decide⟩ (fun ws H locs hp_v_15 hw hF9 => ?_)
        obtain ⟨hfn, hp_v_15⟩ := hp_v_15
        have o_p0 := OV.over (V := vw_SENT) hF9 o_p0 (by decide)
        have o_p2 := OV.over (V := vw_POST) hF9 o_p2 (by decide)
        obtain ⟨sg_16, q_sg_16⟩ : ∃ q9 : OS, (f_X7_pass__6 s1) = q9 := ⟨_, rfl⟩
        have o_p1 : OV vw_TAPE Ps ws p1 sg_16 := by rw [← q_sg_16]; exact hfn.1
        refine lv_iload hx hb dX5_readCond_53 (lv_at hl 0 rfl) ?_
        refine lv_if_eq (tgt := 72) hx hb dX5_readCond_55 (by decide) (fun c_55 => ?_) (fun c_55 => ?_)
        · have r_v_14 : RI v_14 0 0 := rc_eq1 r_v_14 rl_0 (ti_eq c_55) (by decide)
          simp only [f_X5_readCond__16_40, ↓reduceIte, q_v_14, q_sg_16, eq_true c_55] at hE
          exact B72 x4 x5 v_14 s0 sg_16 s2 ws _ _ ls r_p3 r_x4 r_x5 (r_v_14.to (by decide)) o_p0 o_p1 o_p2 (by have q0 := r_x5.1; have u0 := r_x5.2; omega) hE hw (lv_sub hl [1, 2, 3, 4, 5, 6, 0] rfl)
        · have r_v_14 : RI v_14 1 1 := rc_neL r_v_14 rl_0 (ti_ne c_55) (by decide)
          refine lv_iload hx hb dX5_readCond_58 (lv_at hl 5 rfl) ?_
          refine lv_if_eq (tgt := 72) hx hb dX5_readCond_60 (by decide) (fun c_60 => ?_) (fun c_60 => ?_)
          · have r_x4 : RI x4 0 0 := rc_eq1 r_x4 rl_0 (ti_eq c_60) (by decide)
            simp only [f_X5_readCond__16_40, ↓reduceIte, q_v_14, q_sg_16, eq_false c_55, eq_true c_60] at hE
            exact B72 x4 x5 v_14 s0 sg_16 s2 ws _ _ ls r_p3 (r_x4.to (by decide)) r_x5 (r_v_14.to (by decide)) o_p0 o_p1 o_p2 (by have q0 := r_x5.1; have u0 := r_x5.2; omega) hE hw (lv_sub hl [1, 2, 3, 4, 5, 6, 0] rfl)
          · refine lv_aload_n hx hb dX5_readCond_63 rfl (lv_at hl 1 rfl) ?_
            refine lv_sipush (v := 144) hx hb dX5_readCond_64 (by decide) ?_
            refine lv_iconst (v := 0) hx hb dX5_readCond_67 (by decide) ?_
            refine lv_iconst (v := 0) hx hb dX5_readCond_68 (by decide) ?_
            refine tk_v (va_runV (As := [.int 144, .int 0, .int 0]) (rest := []) ⟨hx, hb, hml, hown, hts⟩ (c_X5_addStep__1 l D cy z H.size Ps ws hw.1 p0 144 0 0 s0 h_p0 (rl_144.to (by decide)) (rl_0.to (by decide)) (rl_0.to (by decide)) o_p0) (cwV 3 hts (gV tw_983 tw_985 ts_33 tw_23 tw_986) rfl rfl rfl (by decide +kernel) ⟨Nat.le_of_ble_eq_true rfl, Nat.le_of_ble_eq_true rfl⟩) (tg_preV hw hK hSD hA (ci := 5) (q := (RX5, TX5, 5)) rfl h_p0 rfl) rfl rfl hl.1 rfl (lv_room (Nat.le_of_ble_eq_true rfl)) dX5_readCond_69 ⟨Nat.le_of_ble_eq_true rfl, Nat.le_of_ble_eq_true rfl⟩) hw hA ⟨by decide, by decide⟩ (fun ws H locs hp_v_17 hw hF9 => ?_)
            obtain ⟨hfn, hp_v_17⟩ := hp_v_17
            have o_p1 := OV.over (V := vw_TAPE) hF9 o_p1 (by decide)
            have o_p2 := OV.over (V := vw_POST) hF9 o_p2 (by decide)
            obtain ⟨sg_18, q_sg_18⟩ : ∃ q9 : OS, (f_X5_addStep__1 (144 : Int32) (0 : Int32) (0 : Int32) s0) = q9 := ⟨_, rfl⟩
            have o_p0 : OV vw_SENT Ps ws p0 sg_18 := by rw [← q_sg_18]; exact hfn.1
            obtain ⟨v_19, m_v_19, r_v_19⟩ := (hp_v_17.1)
            simp only [f_X5_readCond__16_40, ↓reduceIte, q_v_14, q_sg_16, eq_false c_55, eq_false c_60, q_sg_18] at hE
            exact B72 x4 x5 v_14 sg_18 sg_16 s2 ws _ _ ls r_p3 r_x4 r_x5 (r_v_14.to (by decide)) o_p0 o_p1 o_p2 (by have q0 := r_x5.1; have u0 := r_x5.2; omega) hE hw (lv_sub hl [1, 2, 3, 4, 5, 6, 0] rfl)
      intro x4 x5 s0 s1 s2 ws H locs ls hn13 r_p3 r_x4 r_x5 o_p0 o_p1 o_p2 hE hw hl
      refine lv_iload hx hb dX5_readCond_13 (lv_at hl 5 rfl) ?_
      refine lv_bipush (v := 20) hx hb dX5_readCond_15 (by decide) ?_
      refine lv_icmp_ge (tgt := 106) hx hb dX5_readCond_17 (by decide) (fun c_17 => ?_) (fun c_17 => ?_)
      · have r_x5 : RI x5 20 20 := rc_le2 rl_20 r_x5 (ti_le c_17) (by decide)
        simp only [f_X5_readCond__16_13, ↓reduceIte, eq_true c_17] at hE
        exact B106 x4 x5 s0 s1 s2 ws _ _ ls r_p3 r_x4 (r_x5.to (by decide)) o_p0 o_p1 o_p2 hE hw hl
      · have r_x5 : RI x5 0 19 := rc_lt1 r_x5 rl_20 (ti_nle c_17) (by decide)
        refine lv_aload_n hx hb dX5_readCond_20 rfl (lv_at hl 1 rfl) ?_
        refine lv_sipush (v := 144) hx hb dX5_readCond_21 (by decide) ?_
        refine tk_ir (va_runV (As := [.int 144]) (rest := []) ⟨hx, hb, hml, hown, hts⟩ (c_X7_sees__1 l D cy z H.size Ps ws hw.1 p1 144 s1 h_p1 (rl_144.to (by decide)) o_p1) (cwV 1 hts (gV tw_994 tw_995 tw_996 tw_2 tw_997) rfl rfl rfl (by decide +kernel) ⟨Nat.le_of_ble_eq_true rfl, Nat.le_of_ble_eq_true rfl⟩) (tg_preV hw hK hSD hA (ci := 7) (q := (RX7, TX7, 12)) rfl h_p1 rfl) rfl rfl hl.1 rfl (lv_room (Nat.le_of_ble_eq_true rfl)) dX5_readCond_24 ⟨Nat.le_of_ble_eq_true rfl, Nat.le_of_ble_eq_true rfl⟩) hw hA (fun v_20  H locs hp_v_20 hw => ?_)
        obtain ⟨hfn, hp_v_20⟩ := hp_v_20
        have q_v_20 : (f_X7_sees__1 (144 : Int32) s1) = v_20 := hfn.1
        have r_v_20 : RI v_20 0 1 := hp_v_20.1
        refine lv_if_ne (tgt := 40) hx hb dX5_readCond_27 (by decide) (fun c_27 => ?_) (fun c_27 => ?_)
        · have r_v_20 : RI v_20 1 1 := rc_neL r_v_20 rl_0 (ti_ne c_27) (by decide)
          simp only [f_X5_readCond__16_13, ↓reduceIte, eq_false c_17, q_v_20, eq_false c_27] at hE
          exact B40 x4 x5 s0 s1 s2 ws _ _ ls r_p3 r_x4 r_x5 o_p0 o_p1 o_p2 (by have q0 := r_x5.1; have u0 := r_x5.2; omega) hE hw hl
        · have r_v_20 : RI v_20 0 0 := rc_eq1 r_v_20 rl_0 (ti_eq c_27) (by decide)
          refine lv_aload_n hx hb dX5_readCond_30 rfl (lv_at hl 1 rfl) ?_
          refine lv_sipush (v := 145) hx hb dX5_readCond_31 (by decide) ?_
          refine tk_ir (va_runV (As := [.int 145]) (rest := []) ⟨hx, hb, hml, hown, hts⟩ (c_X7_sees__1 l D cy z H.size Ps ws hw.1 p1 145 s1 h_p1 (rl_145.to (by decide)) o_p1) (cwV 1 hts (gV tw_994 tw_995 tw_996 tw_2 tw_997) rfl rfl rfl (by decide +kernel) ⟨Nat.le_of_ble_eq_true rfl, Nat.le_of_ble_eq_true rfl⟩) (tg_preV hw hK hSD hA (ci := 7) (q := (RX7, TX7, 12)) rfl h_p1 rfl) rfl rfl hl.1 rfl (lv_room (Nat.le_of_ble_eq_true rfl)) dX5_readCond_34 ⟨Nat.le_of_ble_eq_true rfl, Nat.le_of_ble_eq_true rfl⟩) hw hA (fun v_21  H locs hp_v_21 hw => ?_)
          obtain ⟨hfn, hp_v_21⟩ := hp_v_21
          have q_v_21 : (f_X7_sees__1 (145 : Int32) s1) = v_21 := hfn.1
          have r_v_21 : RI v_21 0 1 := hp_v_21.1
          refine lv_if_eq (tgt := 106) hx hb dX5_readCond_37 (by decide) (fun c_37 => ?_) (fun c_37 => ?_)
          · have r_v_21 : RI v_21 0 0 := rc_eq1 r_v_21 rl_0 (ti_eq c_37) (by decide)
            simp only [f_X5_readCond__16_13, ↓reduceIte, eq_false c_17, q_v_20, eq_true c_27, q_v_21, eq_true c_37] at hE
            exact B106 x4 x5 s0 s1 s2 ws _ _ ls r_p3 r_x4 (r_x5.to (by decide)) o_p0 o_p1 o_p2 hE hw hl
          · have r_v_21 : RI v_21 1 1 := rc_neL r_v_21 rl_0 (ti_ne c_37) (by decide)
            simp only [f_X5_readCond__16_13, ↓reduceIte, eq_false c_17, q_v_20, eq_true c_27, q_v_21, eq_false c_37] at hE
            exact B40 x4 x5 s0 s1 s2 ws _ _ ls r_p3 r_x4 r_x5 o_p0 o_p1 o_p2 (by have q0 := r_x5.1; have u0 := r_x5.2; omega) hE hw hl
  refine lv_iconst (v := 0) hx hb dX5_readCond_0 (by decide) ?_
  refine lv_istore (lv' := [(4, .int 0), (0, .ref p0), (1, .ref p1), (2, .ref p2), (3, .int p3)]) hx hb dX5_readCond_1 hl (by decide) rfl (fun ls hl => ?_)
  refine lv_aload_n hx hb dX5_readCond_3 rfl (lv_at hl 1 rfl) ?_
  refine lv_aload_n hx hb dX5_readCond_4 rfl (lv_at hl 2 rfl) ?_
  refine lv_aload_n hx hb dX5_readCond_5 rfl (lv_at hl 3 rfl) ?_
  refine lv_iload_n hx hb dX5_readCond_6 rfl (lv_at hl 4 rfl) ?_
  refine tk_v (va_runV (As := [.ref p1, .ref p2, .int p3]) (rest := []) ⟨hx, hb, hml, hown, hts⟩ (c_X5_readOne__16 l D cy z s.heap.size Ps w0 hw.1 p0 p1 p2 p3 s0 s1 s2 h_p0 h_p1 h_p2 r_p3 o_p0 o_p1 o_p2) (cwV 3 hts (gV tw_977 tw_979 ts_32 tw_23 tw_980) rfl rfl rfl (by decide +kernel) ⟨Nat.le_of_ble_eq_true rfl, Nat.le_of_ble_eq_true rfl⟩) (tg_preV hw hK hSD hA (ci := 5) (q := (RX5, TX5, 5)) rfl h_p0 rfl) rfl rfl hl.1 rfl (lv_room (Nat.le_of_ble_eq_true rfl)) dX5_readCond_7 ⟨Nat.le_of_ble_eq_true rfl, Nat.le_of_ble_eq_true rfl⟩) hw hA ⟨by decide, by decide⟩ (fun ws H locs hp_v_22 hw hF9 => ?_)
  obtain ⟨hfn, hp_v_22⟩ := hp_v_22
  obtain ⟨sg_23, q_sg_23⟩ : ∃ q9 : OS, (f_X5_readOne__16 p3 s0 s1 s2).1 = q9 := ⟨_, rfl⟩
  have o_p0 : OV vw_SENT Ps ws p0 sg_23 := by rw [← q_sg_23]; exact hfn.1
  obtain ⟨sg_24, q_sg_24⟩ : ∃ q9 : OS, (f_X5_readOne__16 p3 s0 s1 s2).2.1 = q9 := ⟨_, rfl⟩
  have o_p1 : OV vw_TAPE Ps ws p1 sg_24 := by rw [← q_sg_24]; exact hfn.2.1
  obtain ⟨sg_25, q_sg_25⟩ : ∃ q9 : OS, (f_X5_readOne__16 p3 s0 s1 s2).2.2 = q9 := ⟨_, rfl⟩
  have o_p2 : OV vw_POST Ps ws p2 sg_25 := by rw [← q_sg_25]; exact hfn.2.2.1
  refine lv_iconst (v := 0) hx hb dX5_readCond_10 (by decide) ?_
  refine lv_istore (lv' := [(5, .int 0), (4, .int 0), (0, .ref p0), (1, .ref p1), (2, .ref p2), (3, .int p3)]) hx hb dX5_readCond_11 hl (by decide) rfl (fun ls hl => ?_)
  simp only [f_X5_readCond__16, ↓reduceIte, q_sg_23, q_sg_24, q_sg_25] at hE
  exact B13 4294967298 0 0 sg_23 sg_24 sg_25 ws _ _ ls (by have q0 := rl_0.1; have u0 := rl_0.2; omega) r_p3 (rl_0.to (by decide)) (rl_0.to (by decide)) o_p0 o_p1 o_p2 hE hw (lv_sub hl [2, 3, 4, 5, 1, 0] rfl)
abbrev wr_X5_readOne__15 : List (Nat × Nat) := [(5, 3), (5, 4), (7, 5), (7, 6), (7, 7), (7, 8), (7, 9), (7, 10), (7, 11)]
abbrev wa_X5_readOne__15 : List Nat := [21]
set_option maxHeartbeats 4000000 in
set_option maxRecDepth 100000 in
theorem c_X5_readOne__15 (l : Launch) (D : va_G) (cy : Nat → ClassId) (z : Nat → Nat) (sz : Nat) (Ps : PSI) (w0 : va_W) (hT : HT cy GG Ps w0) (p0 : Nat) (p1 : Nat) (p2 : Nat) (p3 : Int32) (s0 : OS) (s1 : OS) (s2 : OS) (h_p0 : (p0, 32) ∈ Ps) (h_p1 : (p1, 26) ∈ Ps) (h_p2 : (p2, 25) ∈ Ps) (r_p3 : RI p3 7 7) (o_p0 : OV vw_SENT Ps w0 p0 s0) (o_p1 : OV vw_TAPE Ps w0 p1 s1) (o_p2 : OV vw_POST Ps w0 p2 s2) : Met l yX5_readOne (Cond.code yX5_readOne cX5_readOne 5 none :: gT) ({ frames := 7, cells := 0, slots := 0, locals := 1400 } : Room) (va_Pc [.ref p0, .ref p1, .ref p2, .int p3] (PRE D cy z w0 sz)) (va_Qv (fun (u : va_W) => ((OV vw_SENT Ps u p0 ((f_X5_readOne__15 p3 s0 s1 s2).1) ∧ OV vw_TAPE Ps u p1 ((f_X5_readOne__15 p3 s0 s1 s2).2.1) ∧ OV vw_POST Ps u p2 ((f_X5_readOne__15 p3 s0 s1 s2).2.2) ∧ True) ∧ (True)) ∧ HT cy GG Ps u ∧ FR wr_X5_readOne__15 wa_X5_readOne__15 Ps w0 u) (BB D cy (va_A w0 sz) (fun (u : va_W) => u)) (va_A w0 sz)) 0 0 (va_A w0 sz) := by
  refine Met.ofW (cc := cX5_readOne) (maxL := 5) (ret := none) (by decide) rfl ?_
  intro p e s m args below meth c s₁ B hml hv
  obtain ⟨rfl, hsz, hP, hK, hD0, hSD⟩ := hv
  have hx := B.exec
  have hb := B.bytes
  have hr := B.returns
  have hlocks := B.notSynchronized
  have hts : ∀ w ∈ gT, w.before _ s = true := fun w h => atoms_spec (ws := Cond.code yX5_readOne cX5_readOne 5 none :: gT) B.pre w (List.mem_cons_of_mem _ h)
  have hown : s.vm.findClass RX5 = some m.cls := findClass_of_methodNamed B.named
  subst hsz
  have hD := hD0.self (sz := s.heap.size)
  generalize hAe : va_A w0 s.heap.size = A at hD hSD ⊢
  have hA : ∀ q : Nat, s.heap.size ≤ q → A q := fun q h => by rw [← hAe]; exact Or.inr h
  have hl := lv_entry ([.ref p0, .ref p1, .ref p2, .int p3]) (n := 5) (Nat.le_of_ble_eq_true rfl)
  rw [lg_entry_eq]
  generalize (lg_sl ([.ref p0, .ref p1, .ref p2, .int p3]) ++ List.replicate (5 - (lg_sl ([.ref p0, .ref p1, .ref p2, .int p3])).length) Slot.unset).toArray = ls at hl ⊢
  have hl : lv_has ls 5 [(0, .ref p0), (1, .ref p1), (2, .ref p2), (3, .int p3)] := hl
  refine nameQ (fun Q hQ => ?_)
  have hw : WD D cy GG A s wr_X5_readOne__15 wa_X5_readOne__15 Ps w0 Ps w0 s.heap [] := ⟨hT, hP, hD, va_S.rf, FR.rf, hT.1, [], (List.append_nil _).symm⟩
  obtain ⟨R9, hR⟩ : ∃ q9 : OS × OS × OS, f_X5_readOne__15 p3 s0 s1 s2 = q9 := ⟨_, rfl⟩
  have hE := hR
  have B57 : ∀ (x4 : Int32) (s0 : OS) (s1 : OS) (s2 : OS) (ws : va_W) (H : Heap) (locs : List Loc) (ls : Array Slot), RI p3 7 7 → RI x4 (-2147483648) 2147483647 → OV vw_SENT Ps ws p0 s0 → OV vw_TAPE Ps ws p1 s1 → OV vw_POST Ps ws p2 s2 → f_X5_readOne__15_57 p3 x4 s0 s1 s2 = R9 → WD D cy GG A s wr_X5_readOne__15 wa_X5_readOne__15 Ps w0 Ps ws H locs → lv_has ls 5 [(0, .ref p0), (1, .ref p1), (2, .ref p2), (3, .int p3), (4, .int x4)] → W p l e (headSpec (Cond.code yX5_readOne cX5_readOne 5 none :: gT) ({ frames := 7, cells := 0, slots := 0, locals := 1400 } : Room)).room s m ([.ref p0, .ref p1, .ref p2, .int p3] : List Value).toArray below meth c H locs 0 0 Q (F0 m 57 ls []) := by
    intro x4 s0 s1 s2 ws H locs ls r_p3 r_x4 o_p0 o_p1 o_p2 hE hw hl
    refine lv_aload_n hx hb dX5_readOne_57 rfl (lv_at hl 1 rfl) ?_
    refine tg_getN (ci := 7) (ts := ty_TAPE) (C := RX7) (T := TX7) (N := 12) hx hb hts inX7 hown hK hw h_p1 rfl rfl 10 (by decide) (hSD.nest tn_103) (fun _ h9 => h9) (ft := vI 0 4) rfl dX5_readOne_58 (fun u_1 hv_u_1 m_u_1 => ?_)
    obtain ⟨vu_1, rfl, r_vu_1⟩ := hv_u_1
    have q_vu_1 : s1.1 10 = vu_1 := OV.eqI (V := vw_TAPE) hw.2.2.1 o_p1 m_u_1 (by decide)
    refine lv_if_eq (tgt := 65) hx hb dX5_readOne_61 (by decide) (fun c_61 => ?_) (fun c_61 => ?_)
    · have r_vu_1 : RI vu_1 0 0 := rc_eq1 r_vu_1 rl_0 (ti_eq c_61) (by decide)
      refine lv_aload_n hx hb dX5_readOne_65 rfl (lv_at hl 1 rfl) ?_
      refine tk_v (va_runV (As := []) (rest := []) ⟨hx, hb, hml, hown, hts⟩ (c_X7_pass__5 l D cy z H.size Ps ws hw.1 p1 vu_1 s1 h_p1 r_vu_1 m_u_1 o_p1) (cwV 0 hts (gV tw_982 tw_425 tw_426 tw_2 tw_427) rfl rfl rfl (by decide +kernel) ⟨Nat.le_of_ble_eq_true rfl, Nat.le_of_ble_eq_true rfl⟩) (tg_preV hw hK hSD hA (ci := 7) (q := (RX7, TX7, 12)) rfl h_p1 rfl) rfl rfl hl.1 rfl (lv_room (Nat.le_of_ble_eq_true rfl)) dX5_readOne_66 ⟨Nat.le_of_ble_eq_true rfl, Nat.le_of_ble_eq_true rfl⟩) hw hA ⟨by decide, by decide⟩ (fun ws H locs hp_v_2 hw hF9 => ?_)
      have m_u_1 := FLD.over hF9 m_u_1 (by decide)
      obtain ⟨hfn, hp_v_2⟩ := hp_v_2
      have o_p0 := OV.over (V := vw_SENT) hF9 o_p0 (by decide)
      have o_p2 := OV.over (V := vw_POST) hF9 o_p2 (by decide)
      obtain ⟨sg_3, q_sg_3⟩ : ∃ q9 : OS, (f_X7_pass__5 s1) = q9 := ⟨_, rfl⟩
      have o_p1 : OV vw_TAPE Ps ws p1 sg_3 := by rw [← q_sg_3]; exact hfn.1
      obtain ⟨v_4, m_v_4, r_v_4⟩ := (hp_v_2.1)
      refine lv_aload_n hx hb dX5_readOne_69 rfl (lv_at hl 0 rfl) ?_
      refine lv_dup hx hb dX5_readOne_70 rfl ?_
      refine tg_get (ci := 5) (ts := ty_SENT) (C := RX5) (T := TX5) (N := 5) hx hb hts inX5 hown hK hw h_p0 rfl rfl 4 (by decide) (hts _ tw_955) (fun _ h9 => h9) (ft := vI (-2147483648) 2147483647) rfl dX5_readOne_71 (fun u_5 hv_u_5 m_u_5 => ?_)
      obtain ⟨vu_5, rfl, r_vu_5⟩ := hv_u_5
      have q_vu_5 : s0.1 4 = vu_5 := OV.eqI (V := vw_SENT) hw.2.2.1 o_p0 m_u_5 (by decide)
      refine lv_iconst (v := 1) hx hb dX5_readOne_74 (by decide) ?_
      refine lv_iadd hx hb dX5_readOne_75 (lv_topi (fun v_6 e_v_6 => ?_))
      have r_v_6 := ri_any v_6
      have q_v_6 : vu_5 + (1 : Int32) = v_6 := e_v_6.symm
      refine tg_put (ci := 5) (ts := ty_SENT) (v := .int v_6) (ty := .int) (C := RX5) (T := TX5) (N := 5) hx hb hts inX5 tyX5 tyX5_ok nmX5 hown hK hw h_p0 rfl rfl 4 (by decide) (hts _ tw_955) (fun _ h9 => h9) rfl (by decide +kernel) rfl rfl (ft := vI (-2147483648) 2147483647) rfl ⟨_, rfl, r_v_6⟩ (by decide) dX5_readOne_76 (fun ws H locs hw n_k_7 hF9 => ?_)
      have m_v_4 := FLD.over hF9 m_v_4 (by decide)
      have o_p1 := OV.over (V := vw_TAPE) hF9 o_p1 (by decide)
      have o_p2 := OV.over (V := vw_POST) hF9 o_p2 (by decide)
      obtain ⟨sg_8, q_sg_8⟩ : ∃ q9 : OS, sI s0 4 v_6 = q9 := ⟨_, rfl⟩
      have o_p0 : OV vw_SENT Ps ws p0 sg_8 := by rw [← q_sg_8]; exact OV.putI (V := vw_SENT) hF9 n_k_7 o_p0 (by decide)
      refine lv_iload hx hb dX5_readOne_79 (lv_at hl 4 rfl) ?_
      refine lv_sipush (v := 146) hx hb dX5_readOne_81 (by decide) ?_
      refine lv_icmp_ne (tgt := 108) hx hb dX5_readOne_84 (by decide) (fun c_84 => ?_) (fun c_84 => ?_)
      · refine lv_iload hx hb dX5_readOne_108 (lv_at hl 4 rfl) ?_
        refine lv_bipush (v := 40) hx hb dX5_readOne_110 (by decide) ?_
        refine lv_icmp_ne (tgt := 133) hx hb dX5_readOne_112 (by decide) (fun c_112 => ?_) (fun c_112 => ?_)
        · refine lv_aload_n hx hb dX5_readOne_133 rfl (lv_at hl 0 rfl) ?_
          refine lv_aload_n hx hb dX5_readOne_134 rfl (lv_at hl 1 rfl) ?_
          refine lv_aload_n hx hb dX5_readOne_135 rfl (lv_at hl 2 rfl) ?_
          refine lv_iload hx hb dX5_readOne_136 (lv_at hl 4 rfl) ?_
          refine tk_v (va_runV (As := [.ref p1, .ref p2, .int x4]) (rest := []) ⟨hx, hb, hml, hown, hts⟩ (c_X5_readPlain__1 l D cy z H.size Ps ws hw.1 p0 p1 p2 x4 sg_8 sg_3 s2 h_p0 h_p1 h_p2 r_x4 o_p0 o_p1 o_p2) (cwV 3 hts (gV tw_988 tw_990 ts_34 tw_23 tw_991) rfl rfl rfl (by decide +kernel) ⟨Nat.le_of_ble_eq_true rfl, Nat.le_of_ble_eq_true rfl⟩) (tg_preV hw hK hSD hA (ci := 5) (q := (RX5, TX5, 5)) rfl h_p0 rfl) rfl rfl hl.1 rfl (lv_room (Nat.le_of_ble_eq_true rfl)) dX5_readOne_138 ⟨Nat.le_of_ble_eq_true rfl, Nat.le_of_ble_eq_true rfl⟩) hw hA ⟨by decide, by decide⟩ (fun ws H locs hp_v_9 hw hF9 => ?_)
          have n_k_7 := FLD.over hF9 n_k_7 (by decide)
          obtain ⟨hfn, hp_v_9⟩ := hp_v_9
          obtain ⟨sg_10, q_sg_10⟩ : ∃ q9 : OS, (f_X5_readPlain__1 x4 sg_8 sg_3 s2).1 = q9 := ⟨_, rfl⟩
          have o_p0 : OV vw_SENT Ps ws p0 sg_10 := by rw [← q_sg_10]; exact hfn.1
          obtain ⟨sg_11, q_sg_11⟩ : ∃ q9 : OS, (f_X5_readPlain__1 x4 sg_8 sg_3 s2).2.1 = q9 := ⟨_, rfl⟩
          have o_p1 : OV vw_TAPE Ps ws p1 sg_11 := by rw [← q_sg_11]; exact hfn.2.1
          obtain ⟨sg_12, q_sg_12⟩ : ∃ q9 : OS, (f_X5_readPlain__1 x4 sg_8 sg_3 s2).2.2 = q9 := ⟨_, rfl⟩
          have o_p2 : OV vw_POST Ps ws p2 sg_12 := by rw [← q_sg_12]; exact hfn.2.2.1
          obtain ⟨v_13, m_v_13, r_v_13⟩ := (hp_v_9.1)
          simp only [f_X5_readOne__15_57, ↓reduceIte, q_vu_1, eq_true c_61, q_sg_3, q_vu_5, q_v_6, q_sg_8, eq_false c_84, eq_false c_112, q_sg_10, q_sg_11, q_sg_12] at hE
          subst hQ
          exact W.vret hx hb hr (fun t ht hW => ⟨⟨ws, rfl, ⟨⟨⟨(by rw [hR, ← hE]; exact o_p0), (by rw [hR, ← hE]; exact o_p1), (by rw [hR, ← hE]; exact o_p2), trivial⟩, trivial⟩, hw.1, hw.2.2.2.2.1⟩, by rw [ht]; exact hw.2.1, va_K.moved hW.alike hK, hw.2.2.1⟩, hw.2.2.2.1.F ht⟩) hw.2.2.2.1.2.2 dX5_readOne_141
        · have r_x4 : RI x4 40 40 := rc_eq1 r_x4 rl_40 (ti_eq c_112) (by decide)
          refine lv_aload_n hx hb dX5_readOne_115 rfl (lv_at hl 0 rfl) ?_
          refine lv_aload_n hx hb dX5_readOne_116 rfl (lv_at hl 1 rfl) ?_
          refine lv_aload_n hx hb dX5_readOne_117 rfl (lv_at hl 2 rfl) ?_
          refine lv_iload_n hx hb dX5_readOne_118 rfl (lv_at hl 3 rfl) ?_
          refine lv_iconst (v := 1) hx hb dX5_readOne_119 (by decide) ?_
          refine lv_iadd hx hb dX5_readOne_120 (lv_topi (fun v_14 e_v_14 => ?_))
          obtain ⟨t_v_14, r_v_14⟩ := tq_add (lo := 8) (hi := 8) r_p3 rl_1 (by decide +kernel) e_v_14
          have t_v_14 : v_14.toInt = p3.toInt + 1 := t_v_14
          have q_v_14 : p3 + (1 : Int32) = v_14 := e_v_14.symm
          refine tk_v (va_runV (As := [.ref p1, .ref p2, .int v_14]) (rest := []) ⟨hx, hb, hml, hown, hts⟩ (c_X5_readCond__16 l D cy z H.size Ps ws hw.1 p0 p1 p2 v_14 sg_8 sg_3 s2 h_p0 h_p1 h_p2 r_v_14 o_p0 o_p1 o_p2) (cwV 3 hts (gV tw_973 tw_975 ts_31 tw_23 tw_976) rfl rfl rfl (by decide +kernel) ⟨Nat.le_of_ble_eq_true rfl, Nat.le_of_ble_eq_true rfl⟩) (tg_preV hw hK hSD hA (ci := 5) (q := (RX5, TX5, 5)) rfl h_p0 rfl) rfl rfl hl.1 rfl (lv_room (Nat.le_of_ble_eq_true rfl)) dX5_readOne_121 ⟨Nat.le_of_ble_eq_true rfl, Nat.le_of_ble_eq_true rfl⟩) hw hA ⟨by decide, by decide⟩ (fun ws H locs hp_v_15 hw hF9 => ?_)
          obtain ⟨hfn, hp_v_15⟩ := hp_v_15
          obtain ⟨sg_16, q_sg_16⟩ : ∃ q9 : OS, (f_X5_readCond__16 v_14 sg_8 sg_3 s2).1 = q9 := ⟨_, rfl⟩
          have o_p0 : OV vw_SENT Ps ws p0 sg_16 := by rw [← q_sg_16]; exact hfn.1
          obtain ⟨sg_17, q_sg_17⟩ : ∃ q9 : OS, (f_X5_readCond__16 v_14 sg_8 sg_3 s2).2.1 = q9 := ⟨_, rfl⟩
          have o_p1 : OV vw_TAPE Ps ws p1 sg_17 := by rw [← q_sg_17]; exact hfn.2.1
          obtain ⟨sg_18, q_sg_18⟩ : ∃ q9 : OS, (f_X5_readCond__16 v_14 sg_8 sg_3 s2).2.2 = q9 := ⟨_, rfl⟩
          have o_p2 : OV vw_POST Ps ws p2 sg_18 := by rw [← q_sg_18]; exact hfn.2.2.1
          refine lv_aload_n hx hb dX5_readOne_124 rfl (lv_at hl 1 rfl) ?_
          refine lv_bipush (v := 41) hx hb dX5_readOne_125 (by decide) ?_
          refine tk_v (va_runV (As := [.int 41]) (rest := []) ⟨hx, hb, hml, hown, hts⟩ (c_X7_passOnly__3 l D cy z H.size Ps ws hw.1 p1 41 sg_17 h_p1 (rl_41.to (by decide)) o_p1) (cwV 1 hts (gV tw_987 tw_514 tw_515 tw_2 tw_516) rfl rfl rfl (by decide +kernel) ⟨Nat.le_of_ble_eq_true rfl, Nat.le_of_ble_eq_true rfl⟩) (tg_preV hw hK hSD hA (ci := 7) (q := (RX7, TX7, 12)) rfl h_p1 rfl) rfl rfl hl.1 rfl (lv_room (Nat.le_of_ble_eq_true rfl)) dX5_readOne_127 ⟨Nat.le_of_ble_eq_true rfl, Nat.le_of_ble_eq_true rfl⟩) hw hA ⟨by decide, by decide⟩ (fun ws H locs hp_v_19 hw hF9 => ?_)
          obtain ⟨hfn, hp_v_19⟩ := hp_v_19
          have o_p0 := OV.over (V := vw_SENT) hF9 o_p0 (by decide)
          have o_p2 := OV.over (V := vw_POST) hF9 o_p2 (by decide)
          obtain ⟨sg_20, q_sg_20⟩ : ∃ q9 : OS, (f_X7_passOnly__3 (41 : Int32) sg_17) = q9 := ⟨_, rfl⟩
          have o_p1 : OV vw_TAPE Ps ws p1 sg_20 := by rw [← q_sg_20]; exact hfn.1
          refine lv_goto (tgt := 141) hx hb dX5_readOne_130 (by decide) ?_
          simp only [f_X5_readOne__15_57, ↓reduceIte, q_vu_1, eq_true c_61, q_sg_3, q_vu_5, q_v_6, q_sg_8, eq_false c_84, eq_true c_112, q_v_14, q_sg_16, q_sg_17, q_sg_18, q_sg_20] at hE
          subst hQ
          exact W.vret hx hb hr (fun t ht hW => ⟨⟨ws, rfl, ⟨⟨⟨(by rw [hR, ← hE]; exact o_p0), (by rw [hR, ← hE]; exact o_p1), (by rw [hR, ← hE]; exact o_p2), trivial⟩, trivial⟩, hw.1, hw.2.2.2.2.1⟩, by rw [ht]; exact hw.2.1, va_K.moved hW.alike hK, hw.2.2.1⟩, hw.2.2.2.1.F ht⟩) hw.2.2.2.1.2.2 dX5_readOne_141
      · have r_x4 : RI x4 146 146 := rc_eq1 r_x4 rl_146 (ti_eq c_84) (by decide)
        refine lv_aload_n hx hb dX5_readOne_87 rfl (lv_at hl 0 rfl) ?_
        refine lv_aload_n hx hb dX5_readOne_88 rfl (lv_at hl 1 rfl) ?_
        refine lv_aload_n hx hb dX5_readOne_89 rfl (lv_at hl 2 rfl) ?_
        refine lv_iload_n hx hb dX5_readOne_90 rfl (lv_at hl 3 rfl) ?_
        refine lv_iconst (v := 1) hx hb dX5_readOne_91 (by decide) ?_
        refine lv_iadd hx hb dX5_readOne_92 (lv_topi (fun v_21 e_v_21 => ?_))
        obtain ⟨t_v_21, r_v_21⟩ := tq_add (lo := 8) (hi := 8) r_p3 rl_1 (by decide +kernel) e_v_21
        have t_v_21 : v_21.toInt = p3.toInt + 1 := t_v_21
        have q_v_21 : p3 + (1 : Int32) = v_21 := e_v_21.symm
        refine tk_v (va_runV (As := [.ref p1, .ref p2, .int v_21]) (rest := []) ⟨hx, hb, hml, hown, hts⟩ (c_X5_readOne__16 l D cy z H.size Ps ws hw.1 p0 p1 p2 v_21 sg_8 sg_3 s2 h_p0 h_p1 h_p2 r_v_21 o_p0 o_p1 o_p2) (cwV 3 hts (gV tw_977 tw_979 ts_32 tw_23 tw_980) rfl rfl rfl (by decide +kernel) ⟨Nat.le_of_ble_eq_true rfl, Nat.le_of_ble_eq_true rfl⟩) (tg_preV hw hK hSD hA (ci := 5) (q := (RX5, TX5, 5)) rfl h_p0 rfl) rfl rfl hl.1 rfl (lv_room (Nat.le_of_ble_eq_true rfl)) dX5_readOne_93 ⟨Nat.le_of_ble_eq_true rfl, Nat.le_of_ble_eq_true rfl⟩) hw hA ⟨by decide, by decide⟩ (fun ws H locs hp_v_22 hw hF9 => ?_)
        obtain ⟨hfn, hp_v_22⟩ := hp_v_22
        obtain ⟨sg_23, q_sg_23⟩ : ∃ q9 : OS, (f_X5_readOne__16 v_21 sg_8 sg_3 s2).1 = q9 := ⟨_, rfl⟩
        have o_p0 : OV vw_SENT Ps ws p0 sg_23 := by rw [← q_sg_23]; exact hfn.1
        obtain ⟨sg_24, q_sg_24⟩ : ∃ q9 : OS, (f_X5_readOne__16 v_21 sg_8 sg_3 s2).2.1 = q9 := ⟨_, rfl⟩
        have o_p1 : OV vw_TAPE Ps ws p1 sg_24 := by rw [← q_sg_24]; exact hfn.2.1
        obtain ⟨sg_25, q_sg_25⟩ : ∃ q9 : OS, (f_X5_readOne__16 v_21 sg_8 sg_3 s2).2.2 = q9 := ⟨_, rfl⟩
        have o_p2 : OV vw_POST Ps ws p2 sg_25 := by rw [← q_sg_25]; exact hfn.2.2.1
        refine lv_aload_n hx hb dX5_readOne_96 rfl (lv_at hl 0 rfl) ?_
        refine lv_sipush (v := 146) hx hb dX5_readOne_97 (by decide) ?_
        refine lv_iconst (v := 0) hx hb dX5_readOne_100 (by decide) ?_
        refine lv_iconst (v := 0) hx hb dX5_readOne_101 (by decide) ?_
        refine tk_v (va_runV (As := [.int 146, .int 0, .int 0]) (rest := []) ⟨hx, hb, hml, hown, hts⟩ (c_X5_addStep__1 l D cy z H.size Ps ws hw.1 p0 146 0 0 sg_23 h_p0 (rl_146.to (by decide)) (rl_0.to (by decide)) (rl_0.to (by decide)) o_p0) (cwV 3 hts (gV tw_983 tw_985 ts_33 tw_23 tw_986) rfl rfl rfl (by decide +kernel) ⟨Nat.le_of_ble_eq_true rfl, Nat.le_of_ble_eq_true rfl⟩) (tg_preV hw hK hSD hA (ci := 5) (q := (RX5, TX5, 5)) rfl h_p0 rfl) rfl rfl hl.1 rfl (lv_room (Nat.le_of_ble_eq_true rfl)) dX5_readOne_102 ⟨Nat.le_of_ble_eq_true rfl, Nat.le_of_ble_eq_true rfl⟩) hw hA ⟨by decide, by decide⟩ (fun ws H locs hp_v_26 hw hF9 => ?_)
        obtain ⟨hfn, hp_v_26⟩ := hp_v_26
        have o_p1 := OV.over (V := vw_TAPE) hF9 o_p1 (by decide)
        have o_p2 := OV.over (V := vw_POST) hF9 o_p2 (by decide)
        obtain ⟨sg_27, q_sg_27⟩ : ∃ q9 : OS, (f_X5_addStep__1 (146 : Int32) (0 : Int32) (0 : Int32) sg_23) = q9 := ⟨_, rfl⟩
        have o_p0 : OV vw_SENT Ps ws p0 sg_27 := by rw [← q_sg_27]; exact hfn.1
        obtain ⟨v_28, m_v_28, r_v_28⟩ := (hp_v_26.1)
        refine lv_goto (tgt := 141) hx hb dX5_readOne_105 (by decide) ?_
        simp only [f_X5_readOne__15_57, ↓reduceIte, q_vu_1, eq_true c_61, q_sg_3, q_vu_5, q_v_6, q_sg_8, eq_true c_84, q_v_21, q_sg_23, q_sg_24, q_sg_25, q_sg_27] at hE
        subst hQ
        exact W.vret hx hb hr (fun t ht hW => ⟨⟨ws, rfl, ⟨⟨⟨(by rw [hR, ← hE]; exact o_p0), (by rw [hR, ← hE]; exact o_p1), (by rw [hR, ← hE]; exact o_p2), trivial⟩, trivial⟩, hw.1, hw.2.2.2.2.1⟩, by rw [ht]; exact hw.2.1, va_K.moved hW.alike hK, hw.2.2.1⟩, hw.2.2.2.1.F ht⟩) hw.2.2.2.1.2.2 dX5_readOne_141
    · have r_vu_1 : RI vu_1 1 4 := rc_neL r_vu_1 rl_0 (ti_ne c_61) (by decide)
      simp only [f_X5_readOne__15_57, ↓reduceIte, q_vu_1, eq_false c_61] at hE
      subst hQ
      exact W.vret hx hb hr (fun t ht hW => ⟨⟨ws, rfl, ⟨⟨⟨(by rw [hR, ← hE]; exact o_p0), (by rw [hR, ← hE]; exact o_p1), (by rw [hR, ← hE]; exact o_p2), trivial⟩, trivial⟩, hw.1, hw.2.2.2.2.1⟩, by rw [ht]; exact hw.2.1, va_K.moved hW.alike hK, hw.2.2.1⟩, hw.2.2.2.1.F ht⟩) hw.2.2.2.1.2.2 dX5_readOne_64
  have B52 : ∀ (x4 : Int32) (z0_4 : Int32) (z1_7 : Int32) (s0 : OS) (s1 : OS) (s2 : OS) (ws : va_W) (H : Heap) (locs : List Loc) (ls : Array Slot), RI p3 7 7 → RI x4 40 155 → RI z0_4 20 2147483647 → FLD ws p0 5 4 (.int z0_4) → RI z1_7 40 155 → FLD ws p1 7 7 (.int z1_7) → OV vw_SENT Ps ws p0 s0 → OV vw_TAPE Ps ws p1 s1 → OV vw_POST Ps ws p2 s2 → f_X5_readOne__15_52 p3 x4 s0 s1 s2 = R9 → WD D cy GG A s wr_X5_readOne__15 wa_X5_readOne__15 Ps w0 Ps ws H locs → lv_has ls 5 [(0, .ref p0), (1, .ref p1), (2, .ref p2), (3, .int p3), (4, .int x4)] → W p l e (headSpec (Cond.code yX5_readOne cX5_readOne 5 none :: gT) ({ frames := 7, cells := 0, slots := 0, locals := 1400 } : Room)).room s m ([.ref p0, .ref p1, .ref p2, .int p3] : List Value).toArray below meth c H locs 0 0 Q (F0 m 52 ls []) := by
    intro x4 z0_4 z1_7 s0 s1 s2 ws H locs ls r_p3 r_x4 r_z0_4 m_z0_4 r_z1_7 m_z1_7 o_p0 o_p1 o_p2 hE hw hl
    have q_z0_4 : s0.1 4 = z0_4 := OV.eqI (V := vw_SENT) hw.2.2.1 o_p0 m_z0_4 (by decide)
    have q_z1_7 : s1.1 7 = z1_7 := OV.eqI (V := vw_TAPE) hw.2.2.1 o_p1 m_z1_7 (by decide)
    refine lv_aload_n hx hb dX5_readOne_52 rfl (lv_at hl 1 rfl) ?_
    refine lv_iconst (v := 4) hx hb dX5_readOne_53 (by decide) ?_
    refine tk_v (va_runV (As := [.int 4]) (rest := []) ⟨hx, hb, hml, hown, hts⟩ (c_X7_refuse__4 l D cy z H.size Ps ws hw.1 p1 4 s1 h_p1 (rl_4.to (by decide)) o_p1) (cwV 1 hts (gV tw_981 tw_443 tw_444 tw_2 tw_445) rfl rfl rfl (by decide +kernel) ⟨Nat.le_of_ble_eq_true rfl, Nat.le_of_ble_eq_true rfl⟩) (tg_preV hw hK hSD hA (ci := 7) (q := (RX7, TX7, 12)) rfl h_p1 rfl) rfl rfl hl.1 rfl (lv_room (Nat.le_of_ble_eq_true rfl)) dX5_readOne_54 ⟨Nat.le_of_ble_eq_true rfl, Nat.le_of_ble_eq_true rfl⟩) hw hA ⟨by decide, by decide⟩ (fun ws H locs hp_v_29 hw hF9 => ?_)
    have m_z0_4 := FLD.over hF9 m_z0_4 (by decide)
    have m_z1_7 := FLD.over hF9 m_z1_7 (by decide)
    obtain ⟨hfn, hp_v_29⟩ := hp_v_29
    have o_p0 := OV.over (V := vw_SENT) hF9 o_p0 (by decide)
    have o_p2 := OV.over (V := vw_POST) hF9 o_p2 (by decide)
    obtain ⟨sg_30, q_sg_30⟩ : ∃ q9 : OS, (f_X7_refuse__4 (4 : Int32) s1) = q9 := ⟨_, rfl⟩
    have o_p1 : OV vw_TAPE Ps ws p1 sg_30 := by rw [← q_sg_30]; exact hfn.1
    obtain ⟨v_31, m_v_31, r_v_31⟩ := (hp_v_29.1)
    simp only [f_X5_readOne__15_52, ↓reduceIte, q_z0_4, q_z1_7, q_sg_30] at hE
    exact B57 x4 s0 sg_30 s2 ws _ _ ls r_p3 (r_x4.to (by decide)) o_p0 o_p1 o_p2 hE hw hl
  have B37 : ∀ (x4 : Int32) (z1_7 : Int32) (s0 : OS) (s1 : OS) (s2 : OS) (ws : va_W) (H : Heap) (locs : List Loc) (ls : Array Slot), RI p3 7 7 → RI x4 40 155 → RI z1_7 40 155 → FLD ws p1 7 7 (.int z1_7) → OV vw_SENT Ps ws p0 s0 → OV vw_TAPE Ps ws p1 s1 → OV vw_POST Ps ws p2 s2 → f_X5_readOne__15_37 p3 x4 s0 s1 s2 = R9 → WD D cy GG A s wr_X5_readOne__15 wa_X5_readOne__15 Ps w0 Ps ws H locs → lv_has ls 5 [(0, .ref p0), (1, .ref p1), (2, .ref p2), (3, .int p3), (4, .int x4)] → W p l e (headSpec (Cond.code yX5_readOne cX5_readOne 5 none :: gT) ({ frames := 7, cells := 0, slots := 0, locals := 1400 } : Room)).room s m ([.ref p0, .ref p1, .ref p2, .int p3] : List Value).toArray below meth c H locs 0 0 Q (F0 m 37 ls []) := by
    intro x4 z1_7 s0 s1 s2 ws H locs ls r_p3 r_x4 r_z1_7 m_z1_7 o_p0 o_p1 o_p2 hE hw hl
    have q_z1_7 : s1.1 7 = z1_7 := OV.eqI (V := vw_TAPE) hw.2.2.1 o_p1 m_z1_7 (by decide)
    refine lv_aload_n hx hb dX5_readOne_37 rfl (lv_at hl 0 rfl) ?_
    refine tg_get (ci := 5) (ts := ty_SENT) (C := RX5) (T := TX5) (N := 5) hx hb hts inX5 hown hK hw h_p0 rfl rfl 4 (by decide) (hts _ tw_955) (fun _ h9 => h9) (ft := vI (-2147483648) 2147483647) rfl dX5_readOne_38 (fun u_32 hv_u_32 m_u_32 => ?_)
    obtain ⟨vu_32, rfl, r_vu_32⟩ := hv_u_32
    have q_vu_32 : s0.1 4 = vu_32 := OV.eqI (V := vw_SENT) hw.2.2.1 o_p0 m_u_32 (by decide)
    refine lv_bipush (v := 20) hx hb dX5_readOne_41 (by decide) ?_
    refine lv_icmp_ge (tgt := 52) hx hb dX5_readOne_43 (by decide) (fun c_43 => ?_) (fun c_43 => ?_)
    · have r_vu_32 : RI vu_32 20 2147483647 := rc_le2 rl_20 r_vu_32 (ti_le c_43) (by decide)
      simp only [f_X5_readOne__15_37, ↓reduceIte, q_z1_7, q_vu_32, eq_true c_43] at hE
      exact B52 x4 vu_32 z1_7 s0 s1 s2 ws _ _ ls r_p3 r_x4 r_vu_32 m_u_32 r_z1_7 m_z1_7 o_p0 o_p1 o_p2 hE hw hl
    · have r_vu_32 : RI vu_32 (-2147483648) 19 := rc_lt1 r_vu_32 rl_20 (ti_nle c_43) (by decide)
      refine lv_iload_n hx hb dX5_readOne_46 rfl (lv_at hl 3 rfl) ?_
      refine lv_bipush (v := 8) hx hb dX5_readOne_47 (by decide) ?_
      refine lv_icmp_le (tgt := 57) hx hb dX5_readOne_49 (by decide) (fun c_49 => ?_) (fun c_49 => ?_)
      · simp only [f_X5_readOne__15_37, ↓reduceIte, q_z1_7, q_vu_32, eq_false c_43, eq_true c_49] at hE
        exact B57 x4 s0 s1 s2 ws _ _ ls r_p3 (r_x4.to (by decide)) o_p0 o_p1 o_p2 hE hw hl
      · have r_p3 : RI p3 9 7 := rc_lt2 rl_8 r_p3 (ti_nle c_49) (by decide)
        exact (r_p3.no (by decide)).elim
  have B29 : ∀ (x4 : Int32) (s0 : OS) (s1 : OS) (s2 : OS) (ws : va_W) (H : Heap) (locs : List Loc) (ls : Array Slot), RI p3 7 7 → RI x4 (-2147483648) 2147483647 → OV vw_SENT Ps ws p0 s0 → OV vw_TAPE Ps ws p1 s1 → OV vw_POST Ps ws p2 s2 → f_X5_readOne__15_29 p3 x4 s0 s1 s2 = R9 → WD D cy GG A s wr_X5_readOne__15 wa_X5_readOne__15 Ps w0 Ps ws H locs → lv_has ls 5 [(0, .ref p0), (1, .ref p1), (2, .ref p2), (3, .int p3), (4, .int x4)] → W p l e (headSpec (Cond.code yX5_readOne cX5_readOne 5 none :: gT) ({ frames := 7, cells := 0, slots := 0, locals := 1400 } : Room)).room s m ([.ref p0, .ref p1, .ref p2, .int p3] : List Value).toArray below meth c H locs 0 0 Q (F0 m 29 ls []) := by
    intro x4 s0 s1 s2 ws H locs ls r_p3 r_x4 o_p0 o_p1 o_p2 hE hw hl
    refine lv_aload_n hx hb dX5_readOne_29 rfl (lv_at hl 1 rfl) ?_
    refine lv_iconst (v := 1) hx hb dX5_readOne_30 (by decide) ?_
    refine tk_v (va_runV (As := [.int 1]) (rest := []) ⟨hx, hb, hml, hown, hts⟩ (c_X7_refuse__4 l D cy z H.size Ps ws hw.1 p1 1 s1 h_p1 (rl_1.to (by decide)) o_p1) (cwV 1 hts (gV tw_981 tw_443 tw_444 tw_2 tw_445) rfl rfl rfl (by decide +kernel) ⟨Nat.le_of_ble_eq_true rfl, Nat.le_of_ble_eq_true rfl⟩) (tg_preV hw hK hSD hA (ci := 7) (q := (RX7, TX7, 12)) rfl h_p1 rfl) rfl rfl hl.1 rfl (lv_room (Nat.le_of_ble_eq_true rfl)) dX5_readOne_31 ⟨Nat.le_of_ble_eq_true rfl, Nat.le_of_ble_eq_true rfl⟩) hw hA ⟨by decide, by decide⟩ (fun ws H locs hp_v_33 hw hF9 => ?_)
    obtain ⟨hfn, hp_v_33⟩ := hp_v_33
    have o_p0 := OV.over (V := vw_SENT) hF9 o_p0 (by decide)
    have o_p2 := OV.over (V := vw_POST) hF9 o_p2 (by decide)
    obtain ⟨sg_34, q_sg_34⟩ : ∃ q9 : OS, (f_X7_refuse__4 (1 : Int32) s1) = q9 := ⟨_, rfl⟩
    have o_p1 : OV vw_TAPE Ps ws p1 sg_34 := by rw [← q_sg_34]; exact hfn.1
    obtain ⟨v_35, m_v_35, r_v_35⟩ := (hp_v_33.1)
    refine lv_goto (tgt := 57) hx hb dX5_readOne_34 (by decide) ?_
    simp only [f_X5_readOne__15_29, ↓reduceIte, q_sg_34] at hE
    exact B57 x4 s0 sg_34 s2 ws _ _ ls r_p3 r_x4 o_p0 o_p1 o_p2 hE hw hl
  refine lv_aload_n hx hb dX5_readOne_0 rfl (lv_at hl 1 rfl) ?_
  refine tg_getN (ci := 7) (ts := ty_TAPE) (C := RX7) (T := TX7) (N := 12) hx hb hts inX7 hown hK hw h_p1 rfl rfl 7 (by decide) (hSD.nest tn_96) (fun _ h9 => h9) (ft := vI (-2147483648) 2147483647) rfl dX5_readOne_1 (fun u_36 hv_u_36 m_u_36 => ?_)
  obtain ⟨vu_36, rfl, r_vu_36⟩ := hv_u_36
  have q_vu_36 : s1.1 7 = vu_36 := OV.eqI (V := vw_TAPE) hw.2.2.1 o_p1 m_u_36 (by decide)
  refine lv_istore (lv' := [(4, .int vu_36), (0, .ref p0), (1, .ref p1), (2, .ref p2), (3, .int p3)]) hx hb dX5_readOne_4 hl (by decide) rfl (fun ls hl => ?_)
  refine lv_iload hx hb dX5_readOne_6 (lv_at hl 0 rfl) ?_
  refine lv_bipush (v := 40) hx hb dX5_readOne_8 (by decide) ?_
  refine lv_icmp_eq (tgt := 37) hx hb dX5_readOne_10 (by decide) (fun c_10 => ?_) (fun c_10 => ?_)
  · have r_vu_36 : RI vu_36 40 40 := rc_eq1 r_vu_36 rl_40 (ti_eq c_10) (by decide)
    simp only [f_X5_readOne__15, ↓reduceIte, q_vu_36, eq_true c_10] at hE
    exact B37 vu_36 vu_36 s0 s1 s2 w0 _ _ ls r_p3 (r_vu_36.to (by decide)) (r_vu_36.to (by decide)) m_u_36 o_p0 o_p1 o_p2 hE hw (lv_sub hl [1, 2, 3, 4, 0] rfl)
  · refine lv_iload hx hb dX5_readOne_13 (lv_at hl 0 rfl) ?_
    refine lv_sipush (v := 146) hx hb dX5_readOne_15 (by decide) ?_
    refine lv_icmp_lt (tgt := 29) hx hb dX5_readOne_18 (by decide) (fun c_18 => ?_) (fun c_18 => ?_)
    · have r_vu_36 : RI vu_36 (-2147483648) 145 := rc_lt1 r_vu_36 rl_146 (ti_lt c_18) (by decide)
      simp only [f_X5_readOne__15, ↓reduceIte, q_vu_36, eq_false c_10, eq_true c_18] at hE
      exact B29 vu_36 s0 s1 s2 w0 _ _ ls r_p3 (r_vu_36.to (by decide)) o_p0 o_p1 o_p2 hE hw (lv_sub hl [1, 2, 3, 4, 0] rfl)
    · have r_vu_36 : RI vu_36 146 2147483647 := rc_le2 rl_146 r_vu_36 (ti_nlt c_18) (by decide)
      refine lv_iload hx hb dX5_readOne_21 (lv_at hl 0 rfl) ?_
      refine lv_sipush (v := 155) hx hb dX5_readOne_23 (by decide) ?_
      refine lv_icmp_le (tgt := 37) hx hb dX5_readOne_26 (by decide) (fun c_26 => ?_) (fun c_26 => ?_)
      · have r_vu_36 : RI vu_36 146 155 := rc_le1 r_vu_36 rl_155 (ti_le c_26) (by decide)
        simp only [f_X5_readOne__15, ↓reduceIte, q_vu_36, eq_false c_10, eq_false c_18, eq_true c_26] at hE
        exact B37 vu_36 vu_36 s0 s1 s2 w0 _ _ ls r_p3 (r_vu_36.to (by decide)) (r_vu_36.to (by decide)) m_u_36 o_p0 o_p1 o_p2 hE hw (lv_sub hl [1, 2, 3, 4, 0] rfl)
      · have r_vu_36 : RI vu_36 156 2147483647 := rc_lt2 rl_155 r_vu_36 (ti_nle c_26) (by decide)
        simp only [f_X5_readOne__15, ↓reduceIte, q_vu_36, eq_false c_10, eq_false c_18, eq_false c_26] at hE
        exact B29 vu_36 s0 s1 s2 w0 _ _ ls r_p3 (r_vu_36.to (by decide)) o_p0 o_p1 o_p2 hE hw (lv_sub hl [1, 2, 3, 4, 0] rfl)
abbrev wr_X5_readCond__15 : List (Nat × Nat) := [(5, 3), (5, 4), (7, 5), (7, 6), (7, 7), (7, 8), (7, 9), (7, 10), (7, 11)]
abbrev wa_X5_readCond__15 : List Nat := [21]
set_option maxHeartbeats 4000000 in
set_option maxRecDepth 100000 in
theorem c_X5_readCond__15 (l : Launch) (D : va_G) (cy : Nat → ClassId) (z : Nat → Nat) (sz : Nat) (Ps : PSI) (w0 : va_W) (hT : HT cy GG Ps w0) (p0 : Nat) (p1 : Nat) (p2 : Nat) (p3 : Int32) (s0 : OS) (s1 : OS) (s2 : OS) (h_p0 : (p0, 32) ∈ Ps) (h_p1 : (p1, 26) ∈ Ps) (h_p2 : (p2, 25) ∈ Ps) (r_p3 : RI p3 7 7) (o_p0 : OV vw_SENT Ps w0 p0 s0) (o_p1 : OV vw_TAPE Ps w0 p1 s1) (o_p2 : OV vw_POST Ps w0 p2 s2) : Met l yX5_readCond (Cond.code yX5_readCond cX5_readCond 7 none :: gT) ({ frames := 8, cells := 0, slots := 0, locals := 1600 } : Room) (va_Pc [.ref p0, .ref p1, .ref p2, .int p3] (PRE D cy z w0 sz)) (va_Qv (fun (u : va_W) => ((OV vw_SENT Ps u p0 ((f_X5_readCond__15 p3 s0 s1 s2).1) ∧ OV vw_TAPE Ps u p1 ((f_X5_readCond__15 p3 s0 s1 s2).2.1) ∧ OV vw_POST Ps u p2 ((f_X5_readCond__15 p3 s0 s1 s2).2.2) ∧ True) ∧ (True)) ∧ HT cy GG Ps u ∧ FR wr_X5_readCond__15 wa_X5_readCond__15 Ps w0 u) (BB D cy (va_A w0 sz) (fun (u : va_W) => u)) (va_A w0 sz)) 0 0 (va_A w0 sz) := by
  refine Met.ofW (cc := cX5_readCond) (maxL := 7) (ret := none) (by decide) rfl ?_
  intro p e s m args below meth c s₁ B hml hv
  obtain ⟨rfl, hsz, hP, hK, hD0, hSD⟩ := hv
  have hx := B.exec
  have hb := B.bytes
  have hr := B.returns
  have hlocks := B.notSynchronized
  have hts : ∀ w ∈ gT, w.before _ s = true := fun w h => atoms_spec (ws := Cond.code yX5_readCond cX5_readCond 7 none :: gT) B.pre w (List.mem_cons_of_mem _ h)
  have hown : s.vm.findClass RX5 = some m.cls := findClass_of_methodNamed B.named
  subst hsz
  have hD := hD0.self (sz := s.heap.size)
  generalize hAe : va_A w0 s.heap.size = A at hD hSD ⊢
  have hA : ∀ q : Nat, s.heap.size ≤ q → A q := fun q h => by rw [← hAe]; exact Or.inr h
  have hl := lv_entry ([.ref p0, .ref p1, .ref p2, .int p3]) (n := 7) (Nat.le_of_ble_eq_true rfl)
  rw [lg_entry_eq]
  generalize (lg_sl ([.ref p0, .ref p1, .ref p2, .int p3]) ++ List.replicate (7 - (lg_sl ([.ref p0, .ref p1, .ref p2, .int p3])).length) Slot.unset).toArray = ls at hl ⊢
  have hl : lv_has ls 7 [(0, .ref p0), (1, .ref p1), (2, .ref p2), (3, .int p3)] := hl
  refine nameQ (fun Q hQ => ?_)
  have hw : WD D cy GG A s wr_X5_readCond__15 wa_X5_readCond__15 Ps w0 Ps w0 s.heap [] := ⟨hT, hP, hD, va_S.rf, FR.rf, hT.1, [], (List.append_nil _).symm⟩
  obtain ⟨R9, hR⟩ : ∃ q9 : OS × OS × OS, f_X5_readCond__15 p3 s0 s1 s2 = q9 := ⟨_, rfl⟩
  have hE := hR
  have B106 : ∀ (x4 : Int32) (x5 : Int32) (s0 : OS) (s1 : OS) (s2 : OS) (ws : va_W) (H : Heap) (locs : List Loc) (ls : Array Slot), RI p3 7 7 → RI x4 (-2147483648) 2147483647 → RI x5 0 21 → OV vw_SENT Ps ws p0 s0 → OV vw_TAPE Ps ws p1 s1 → OV vw_POST Ps ws p2 s2 → f_X5_readCond__15_106 p3 x4 x5 s0 s1 s2 = R9 → WD D cy GG A s wr_X5_readCond__15 wa_X5_readCond__15 Ps w0 Ps ws H locs → lv_has ls 7 [(0, .ref p0), (1, .ref p1), (2, .ref p2), (3, .int p3), (4, .int x4), (5, .int x5)] → W p l e (headSpec (Cond.code yX5_readCond cX5_readCond 7 none :: gT) ({ frames := 8, cells := 0, slots := 0, locals := 1600 } : Room)).room s m ([.ref p0, .ref p1, .ref p2, .int p3] : List Value).toArray below meth c H locs 0 0 Q (F0 m 106 ls []) := by
    intro x4 x5 s0 s1 s2 ws H locs ls r_p3 r_x4 r_x5 o_p0 o_p1 o_p2 hE hw hl
    refine lv_iload hx hb dX5_readCond_106 (lv_at hl 4 rfl) ?_
    refine lv_if_eq (tgt := 120) hx hb dX5_readCond_108 (by decide) (fun c_108 => ?_) (fun c_108 => ?_)
    · have r_x4 : RI x4 0 0 := rc_eq1 r_x4 rl_0 (ti_eq c_108) (by decide)
      simp only [f_X5_readCond__15_106, ↓reduceIte, eq_true c_108] at hE
      subst hQ
      exact W.vret hx hb hr (fun t ht hW => ⟨⟨ws, rfl, ⟨⟨⟨(by rw [hR, ← hE]; exact o_p0), (by rw [hR, ← hE]; exact o_p1), (by rw [hR, ← hE]; exact o_p2), trivial⟩, trivial⟩, hw.1, hw.2.2.2.2.1⟩, by rw [ht]; exact hw.2.1, va_K.moved hW.alike hK, hw.2.2.1⟩, hw.2.2.2.1.F ht⟩) hw.2.2.2.1.2.2 dX5_readCond_120
    · refine lv_aload_n hx hb dX5_readCond_111 rfl (lv_at hl 0 rfl) ?_
      refine lv_sipush (v := 144) hx hb dX5_readCond_112 (by decide) ?_
      refine lv_iconst (v := 0) hx hb dX5_readCond_115 (by decide) ?_
      refine lv_iconst (v := 0) hx hb dX5_readCond_116 (by decide) ?_
      refine tk_v (va_runV (As := [.int 144, .int 0, .int 0]) (rest := []) ⟨hx, hb, hml, hown, hts⟩ (c_X5_addStep__1 l D cy z H.size Ps ws hw.1 p0 144 0 0 s0 h_p0 (rl_144.to (by decide)) (rl_0.to (by decide)) (rl_0.to (by decide)) o_p0) (cwV 3 hts (gV tw_983 tw_985 ts_33 tw_23 tw_986) rfl rfl rfl (by decide +kernel) ⟨Nat.le_of_ble_eq_true rfl, Nat.le_of_ble_eq_true rfl⟩) (tg_preV hw hK hSD hA (ci := 5) (q := (RX5, TX5, 5)) rfl h_p0 rfl) rfl rfl hl.1 rfl (lv_room (Nat.le_of_ble_eq_true rfl)) dX5_readCond_117 ⟨Nat.le_of_ble_eq_true rfl, Nat.le_of_ble_eq_true rfl⟩) hw hA ⟨by decide, by decide⟩ (fun ws H locs hp_v_1 hw hF9 => ?_)
      obtain ⟨hfn, hp_v_1⟩ := hp_v_1
      have o_p1 := OV.over (V := vw_TAPE) hF9 o_p1 (by decide)
      have o_p2 := OV.over (V := vw_POST) hF9 o_p2 (by decide)
      obtain ⟨sg_2, q_sg_2⟩ : ∃ q9 : OS, (f_X5_addStep__1 (144 : Int32) (0 : Int32) (0 : Int32) s0) = q9 := ⟨_, rfl⟩
      have o_p0 : OV vw_SENT Ps ws p0 sg_2 := by rw [← q_sg_2]; exact hfn.1
      obtain ⟨v_3, m_v_3, r_v_3⟩ := (hp_v_1.1)
      simp only [f_X5_readCond__15_106, ↓reduceIte, eq_false c_108, q_sg_2] at hE
      subst hQ
      exact W.vret hx hb hr (fun t ht hW => ⟨⟨ws, rfl, ⟨⟨⟨(by rw [hR, ← hE]; exact o_p0), (by rw [hR, ← hE]; exact o_p1), (by rw [hR, ← hE]; exact o_p2), trivial⟩, trivial⟩, hw.1, hw.2.2.2.2.1⟩, by rw [ht]; exact hw.2.1, va_K.moved hW.alike hK, hw.2.2.1⟩, hw.2.2.2.1.F ht⟩) hw.2.2.2.1.2.2 dX5_readCond_120
  have B13 : ∀ (nf : Nat) (x4 : Int32) (x5 : Int32) (s0 : OS) (s1 : OS) (s2 : OS) (ws : va_W) (H : Heap) (locs : List Loc) (ls : Array Slot), 20 - x5.toInt < (nf : Int) → RI p3 7 7 → RI x4 (-2147483648) 2147483647 → RI x5 0 20 → OV vw_SENT Ps ws p0 s0 → OV vw_TAPE Ps ws p1 s1 → OV vw_POST Ps ws p2 s2 → f_X5_readCond__15_13 p3 nf x4 x5 s0 s1 s2 = R9 → WD D cy GG A s wr_X5_readCond__15 wa_X5_readCond__15 Ps w0 Ps ws H locs → lv_has ls 7 [(0, .ref p0), (1, .ref p1), (2, .ref p2), (3, .int p3), (4, .int x4), (5, .int x5)] → W p l e (headSpec (Cond.code yX5_readCond cX5_readCond 7 none :: gT) ({ frames := 8, cells := 0, slots := 0, locals := 1600 } : Room)).room s m ([.ref p0, .ref p1, .ref p2, .int p3] : List Value).toArray below meth c H locs 0 0 Q (F0 m 13 ls []) := by
    intro nf13
    induction nf13 with
    | zero =>
      intro x4 x5 s0 s1 s2 ws H locs ls hn13 r_p3 r_x4 r_x5 o_p0 o_p1 o_p2 hE hw hl
      exact absurd hn13 (by have q0 := r_x5.1; have u0 := r_x5.2; omega)
    | succ nf13 ih13 =>
      have B72 : ∀ (x4 : Int32) (x5 : Int32) (x6 : Int32) (s0 : OS) (s1 : OS) (s2 : OS) (ws : va_W) (H : Heap) (locs : List Loc) (ls : Array Slot), RI p3 7 7 → RI x4 (-2147483648) 2147483647 → RI x5 0 19 → RI x6 0 1 → OV vw_SENT Ps ws p0 s0 → OV vw_TAPE Ps ws p1 s1 → OV vw_POST Ps ws p2 s2 → 20 - x5.toInt < ((nf13 + 1 : Nat) : Int) → f_X5_readCond__15_72 (f_X5_readCond__15_13 p3 nf13) p3 x4 x5 x6 s0 s1 s2 = R9 → WD D cy GG A s wr_X5_readCond__15 wa_X5_readCond__15 Ps w0 Ps ws H locs → lv_has ls 7 [(0, .ref p0), (1, .ref p1), (2, .ref p2), (3, .int p3), (4, .int x4), (5, .int x5), (6, .int x6)] → W p l e (headSpec (Cond.code yX5_readCond cX5_readCond 7 none :: gT) ({ frames := 8, cells := 0, slots := 0, locals := 1600 } : Room)).room s m ([.ref p0, .ref p1, .ref p2, .int p3] : List Value).toArray below meth c H locs 0 0 Q (F0 m 72 ls []) := by
        intro x4 x5 x6 s0 s1 s2 ws H locs ls r_p3 r_x4 r_x5 r_x6 o_p0 o_p1 o_p2 hn13 hE hw hl
        refine lv_iload hx hb dX5_readCond_72 (lv_at hl 4 rfl) ?_
        refine lv_iload hx hb dX5_readCond_74 (lv_at hl 6 rfl) ?_
        refine lv_ior hx hb dX5_readCond_76 (lv_topi (fun v_4 e_v_4 => ?_))
        have r_v_4 := ri_any v_4
        have q_v_4 : x4 ||| x6 = v_4 := e_v_4.symm
        refine lv_istore (lv' := [(4, .int v_4), (0, .ref p0), (1, .ref p1), (2, .ref p2), (3, .int p3), (5, .int x5), (6, .int x6)]) hx hb dX5_readCond_77 hl (by decide) rfl (fun ls hl => ?_)
        refine lv_aload_n hx hb dX5_readCond_79 rfl (lv_at hl 1 rfl) ?_
        refine lv_aload_n hx hb dX5_readCond_80 rfl (lv_at hl 2 rfl) ?_
        refine lv_aload_n hx hb dX5_readCond_81 rfl (lv_at hl 3 rfl) ?_
        refine lv_iload_n hx hb dX5_readCond_82 rfl (lv_at hl 4 rfl) ?_
        refine tk_v (va_runV (As := [.ref p1, .ref p2, .int p3]) (rest := []) ⟨hx, hb, hml, hown, hts⟩ (c_X5_readOne__15 l D cy z H.size Ps ws hw.1 p0 p1 p2 p3 s0 s1 s2 h_p0 h_p1 h_p2 r_p3 o_p0 o_p1 o_p2) (cwV 3 hts (gV tw_977 tw_979 ts_32 tw_23 tw_980) rfl rfl rfl (by decide +kernel) ⟨Nat.le_of_ble_eq_true rfl, Nat.le_of_ble_eq_true rfl⟩) (tg_preV hw hK hSD hA (ci := 5) (q := (RX5, TX5, 5)) rfl h_p0 rfl) rfl rfl hl.1 rfl (lv_room (Nat.le_of_ble_eq_true rfl)) dX5_readCond_83 ⟨Nat.le_of_ble_eq_true rfl, Nat.le_of_ble_eq_true rfl⟩) hw hA ⟨by decide, by decide⟩ (fun ws H locs hp_v_5 hw hF9 => ?_)
        obtain ⟨hfn, hp_v_5⟩ := hp_v_5
        obtain ⟨sg_6, q_sg_6⟩ : ∃ q9 : OS, (f_X5_readOne__15 p3 s0 s1 s2).1 = q9 := ⟨_, rfl⟩
        have o_p0 : OV vw_SENT Ps ws p0 sg_6 := by rw [← q_sg_6]; exact hfn.1
        obtain ⟨sg_7, q_sg_7⟩ : ∃ q9 : OS, (f_X5_readOne__15 p3 s0 s1 s2).2.1 = q9 := ⟨_, rfl⟩
        have o_p1 : OV vw_TAPE Ps ws p1 sg_7 := by rw [← q_sg_7]; exact hfn.2.1
        obtain ⟨sg_8, q_sg_8⟩ : ∃ q9 : OS, (f_X5_readOne__15 p3 s0 s1 s2).2.2 = q9 := ⟨_, rfl⟩
        have o_p2 : OV vw_POST Ps ws p2 sg_8 := by rw [← q_sg_8]; exact hfn.2.2.1
        refine lv_iload hx hb dX5_readCond_86 (lv_at hl 6 rfl) ?_
        refine lv_if_ne (tgt := 100) hx hb dX5_readCond_88 (by decide) (fun c_88 => ?_) (fun c_88 => ?_)
        · have r_x6 : RI x6 1 1 := rc_neL r_x6 rl_0 (ti_ne c_88) (by decide)
          obtain ⟨v_9, e_v_9⟩ : ∃ q9 : Int32, q9 = x5 + Int32.ofInt 1 := ⟨_, rfl⟩
          obtain ⟨t_v_9, r_v_9⟩ := tq_add (lo := 1) (hi := 20) r_x5 (show RI (Int32.ofInt 1) 1 1 by unfold RI; decide +kernel) (by decide +kernel) e_v_9
          have t_v_9 : v_9.toInt = x5.toInt + 1 := t_v_9
          refine lv_iinc (v := v_9) (lv' := [(5, .int v_9), (4, .int v_4), (0, .ref p0), (1, .ref p1), (2, .ref p2), (3, .int p3), (6, .int x6)]) hx hb dX5_readCond_100 hl (k := 5) rfl e_v_9.symm (by decide) rfl (fun ls hl => ?_)
          have q_v_9 : x5 + (1 : Int32) = v_9 := by rw [e_v_9, show Int32.ofInt 1 = (1 : Int32) by decide]
          refine lv_goto (tgt := 13) hx hb dX5_readCond_103 (by decide) ?_
          simp only [f_X5_readCond__15_72, ↓reduceIte, q_v_4, q_sg_6, q_sg_7, q_sg_8, eq_false c_88, q_v_9] at hE
          exact ih13 v_4 v_9 sg_6 sg_7 sg_8 ws _ _ ls (by have q0 := r_v_9.1; have u0 := r_v_9.2; have o0 := r_x5.1; have p0 := r_x5.2; omega) r_p3 r_v_4 (r_v_9.to (by decide)) o_p0 o_p1 o_p2 hE hw (lv_sub hl [2, 3, 4, 5, 1, 0] rfl)
        · have r_x6 : RI x6 0 0 := rc_eq1 r_x6 rl_0 (ti_eq c_88) (by decide)
          refine lv_aload_n hx hb dX5_readCond_91 rfl (lv_at hl 1 rfl) ?_
          refine lv_sipush (v := 145) hx hb dX5_readCond_92 (by decide) ?_
          refine lv_iconst (v := 0) hx hb dX5_readCond_95 (by decide) ?_
          refine lv_iconst (v := 0) hx hb dX5_readCond_96 (by decide) ?_
          refine tk_v (va_runV (As := [.int 145, .int 0, .int 0]) (rest := []) ⟨hx, hb, hml, hown, hts⟩ (c_X5_addStep__1 l D cy z H.size Ps ws hw.1 p0 145 0 0 sg_6 h_p0 (rl_145.to (by decide)) (rl_0.to (by decide)) (rl_0.to (by decide)) o_p0) (cwV 3 hts (gV tw_983 tw_985 ts_33 tw_23 tw_986) rfl rfl rfl (by decide +kernel) ⟨Nat.le_of_ble_eq_true rfl, Nat.le_of_ble_eq_true rfl⟩) (tg_preV hw hK hSD hA (ci := 5) (q := (RX5, TX5, 5)) rfl h_p0 rfl) rfl rfl hl.1 rfl (lv_room (Nat.le_of_ble_eq_true rfl)) dX5_readCond_97 ⟨Nat.le_of_ble_eq_true rfl, Nat.le_of_ble_eq_true rfl⟩) hw hA ⟨by decide, by decide⟩ (fun ws H locs hp_v_10 hw hF9 => ?_)
          obtain ⟨hfn, hp_v_10⟩ := hp_v_10
          have o_p1 := OV.over (V := vw_TAPE) hF9 o_p1 (by decide)
          have o_p2 := OV.over (V := vw_POST) hF9 o_p2 (by decide)
          obtain ⟨sg_11, q_sg_11⟩ : ∃ q9 : OS, (f_X5_addStep__1 (145 : Int32) (0 : Int32) (0 : Int32) sg_6) = q9 := ⟨_, rfl⟩
          have o_p0 : OV vw_SENT Ps ws p0 sg_11 := by rw [← q_sg_11]; exact hfn.1
          obtain ⟨v_12, m_v_12, r_v_12⟩ := (hp_v_10.1)
          obtain ⟨v_13, e_v_13⟩ : ∃ q9 : Int32, q9 = x5 + Int32.ofInt 1 := ⟨_, rfl⟩
          obtain ⟨t_v_13, r_v_13⟩ := tq_add (lo := 1) (hi := 20) r_x5 (show RI (Int32.ofInt 1) 1 1 by unfold RI; decide +kernel) (by decide +kernel) e_v_13
          have t_v_13 : v_13.toInt = x5.toInt + 1 := t_v_13
          refine lv_iinc (v := v_13) (lv' := [(5, .int v_13), (4, .int v_4), (0, .ref p0), (1, .ref p1), (2, .ref p2), (3, .int p3), (6, .int x6)]) hx hb dX5_readCond_100 hl (k := 5) rfl e_v_13.symm (by decide) rfl (fun ls hl => ?_)
          have q_v_13 : x5 + (1 : Int32) = v_13 := by rw [e_v_13, show Int32.ofInt 1 = (1 : Int32) by decide]
          refine lv_goto (tgt := 13) hx hb dX5_readCond_103 (by decide) ?_
          simp only [f_X5_readCond__15_72, ↓reduceIte, q_v_4, q_sg_6, q_sg_7, q_sg_8, eq_true c_88, q_sg_11, q_v_13] at hE
          exact ih13 v_4 v_13 sg_11 sg_7 sg_8 ws _ _ ls (by have q0 := r_v_13.1; have u0 := r_v_13.2; have o0 := r_x5.1; have p0 := r_x5.2; omega) r_p3 r_v_4 (r_v_13.to (by decide)) o_p0 o_p1 o_p2 hE hw (lv_sub hl [2, 3, 4, 5, 1, 0] rfl)
      have B40 : ∀ (x4 : Int32) (x5 : Int32) (s0 : OS) (s1 : OS) (s2 : OS) (ws : va_W) (H : Heap) (locs : List Loc) (ls : Array Slot), RI p3 7 7 → RI x4 (-2147483648) 2147483647 → RI x5 0 19 → OV vw_SENT Ps ws p0 s0 → OV vw_TAPE Ps ws p1 s1 → OV vw_POST Ps ws p2 s2 → 20 - x5.toInt < ((nf13 + 1 : Nat) : Int) → f_X5_readCond__15_40 (f_X5_readCond__15_13 p3 nf13) p3 x4 x5 s0 s1 s2 = R9 → WD D cy GG A s wr_X5_readCond__15 wa_X5_readCond__15 Ps w0 Ps ws H locs → lv_has ls 7 [(0, .ref p0), (1, .ref p1), (2, .ref p2), (3, .int p3), (4, .int x4), (5, .int x5)] → W p l e (headSpec (Cond.code yX5_readCond cX5_readCond 7 none :: gT) ({ frames := 8, cells := 0, slots := 0, locals := 1600 } : Room)).room s m ([.ref p0, .ref p1, .ref p2, .int p3] : List Value).toArray below meth c H locs 0 0 Q (F0 m 40 ls []) := by
        intro x4 x5 s0 s1 s2 ws H locs ls r_p3 r_x4 r_x5 o_p0 o_p1 o_p2 hn13 hE hw hl
        refine lv_aload_n hx hb dX5_readCond_40 rfl (lv_at hl 1 rfl) ?_
        refine lv_sipush (v := 144) hx hb dX5_readCond_41 (by decide) ?_
        refine tk_ir (va_runV (As := [.int 144]) (rest := []) ⟨hx, hb, hml, hown, hts⟩ (c_X7_sees__1 l D cy z H.size Ps ws hw.1 p1 144 s1 h_p1 (rl_144.to (by decide)) o_p1) (cwV 1 hts (gV tw_994 tw_995 tw_996 tw_2 tw_997) rfl rfl rfl (by decide +kernel) ⟨Nat.le_of_ble_eq_true rfl, Nat.le_of_ble_eq_true rfl⟩) (tg_preV hw hK hSD hA (ci := 7) (q := (RX7, TX7, 12)) rfl h_p1 rfl) rfl rfl hl.1 rfl (lv_room (Nat.le_of_ble_eq_true rfl)) dX5_readCond_44 ⟨Nat.le_of_ble_eq_true rfl, Nat.le_of_ble_eq_true rfl⟩) hw hA (fun v_14  H locs hp_v_14 hw => ?_)
        obtain ⟨hfn, hp_v_14⟩ := hp_v_14
        have q_v_14 : (f_X7_sees__1 (144 : Int32) s1) = v_14 := hfn.1
        have r_v_14 : RI v_14 0 1 := hp_v_14.1
        refine lv_istore (lv' := [(6, .int v_14), (0, .ref p0), (1, .ref p1), (2, .ref p2), (3, .int p3), (4, .int x4), (5, .int x5)]) hx hb dX5_readCond_47 hl (by decide) rfl (fun ls hl => ?_)
        refine lv_aload_n hx hb dX5_readCond_49 rfl (lv_at hl 2 rfl) ?_
        refine tk_v (va_runV (As := []) (rest := []) ⟨hx, hb, hml, hown, hts⟩ (c_X7_pass__6 l D cy z H.size Ps ws hw.1 p1 s1 h_p1 o_p1) (cwV 0 hts (gV tw_982 tw_425 tw_426 tw_2 tw_427) rfl rfl rfl (by decide +kernel) ⟨Nat.le_of_ble_eq_true rfl, Nat.le_of_ble_eq_true rfl⟩) (tg_preV hw hK hSD hA (ci := 7) (q := (RX7, TX7, 12)) rfl h_p1 rfl) rfl rfl hl.1 rfl (lv_room (Nat.le_of_ble_eq_true rfl)) dX5_readCond_50 ⟨Nat.le_of_ble_eq_true rfl, Nat.le_of_ble_eq_true rfl⟩) hw hA ⟨by decide, by decide⟩ (fun ws H locs hp_v_15 hw hF9 => ?_)
        obtain ⟨hfn, hp_v_15⟩ := hp_v_15
        have o_p0 := OV.over (V := vw_SENT) hF9 o_p0 (by decide)
        have o_p2 := OV.over (V := vw_POST) hF9 o_p2 (by decide)
        obtain ⟨sg_16, q_sg_16⟩ : ∃ q9 : OS, (f_X7_pass__6 s1) = q9 := ⟨_, rfl⟩
        have o_p1 : OV vw_TAPE Ps ws p1 sg_16 := by rw [← q_sg_16]; exact hfn.1
        refine lv_iload hx hb dX5_readCond_53 (lv_at hl 0 rfl) ?_
        refine lv_if_eq (tgt := 72) hx hb dX5_readCond_55 (by decide) (fun c_55 => ?_) (fun c_55 => ?_)
        · have r_v_14 : RI v_14 0 0 := rc_eq1 r_v_14 rl_0 (ti_eq c_55) (by decide)
          simp only [f_X5_readCond__15_40, ↓reduceIte, q_v_14, q_sg_16, eq_true c_55] at hE
          exact B72 x4 x5 v_14 s0 sg_16 s2 ws _ _ ls r_p3 r_x4 r_x5 (r_v_14.to (by decide)) o_p0 o_p1 o_p2 (by have q0 := r_x5.1; have u0 := r_x5.2; omega) hE hw (lv_sub hl [1, 2, 3, 4, 5, 6, 0] rfl)
        · have r_v_14 : RI v_14 1 1 := rc_neL r_v_14 rl_0 (ti_ne c_55) (by decide)
          refine lv_iload hx hb dX5_readCond_58 (lv_at hl 5 rfl) ?_
          refine lv_if_eq (tgt := 72) hx hb dX5_readCond_60 (by decide) (fun c_60 => ?_) (fun c_60 => ?_)
          · have r_x4 : RI x4 0 0 := rc_eq1 r_x4 rl_0 (ti_eq c_60) (by decide)
            simp only [f_X5_readCond__15_40, ↓reduceIte, q_v_14, q_sg_16, eq_false c_55, eq_true c_60] at hE
            exact B72 x4 x5 v_14 s0 sg_16 s2 ws _ _ ls r_p3 (r_x4.to (by decide)) r_x5 (r_v_14.to (by decide)) o_p0 o_p1 o_p2 (by have q0 := r_x5.1; have u0 := r_x5.2; omega) hE hw (lv_sub hl [1, 2, 3, 4, 5, 6, 0] rfl)
          · refine lv_aload_n hx hb dX5_readCond_63 rfl (lv_at hl 1 rfl) ?_
            refine lv_sipush (v := 144) hx hb dX5_readCond_64 (by decide) ?_
            refine lv_iconst (v := 0) hx hb dX5_readCond_67 (by decide) ?_
            refine lv_iconst (v := 0) hx hb dX5_readCond_68 (by decide) ?_
            refine tk_v (va_runV (As := [.int 144, .int 0, .int 0]) (rest := []) ⟨hx, hb, hml, hown, hts⟩ (c_X5_addStep__1 l D cy z H.size Ps ws hw.1 p0 144 0 0 s0 h_p0 (rl_144.to (by decide)) (rl_0.to (by decide)) (rl_0.to (by decide)) o_p0) (cwV 3 hts (gV tw_983 tw_985 ts_33 tw_23 tw_986) rfl rfl rfl (by decide +kernel) ⟨Nat.le_of_ble_eq_true rfl, Nat.le_of_ble_eq_true rfl⟩) (tg_preV hw hK hSD hA (ci := 5) (q := (RX5, TX5, 5)) rfl h_p0 rfl) rfl rfl hl.1 rfl (lv_room (Nat.le_of_ble_eq_true rfl)) dX5_readCond_69 ⟨Nat.le_of_ble_eq_true rfl, Nat.le_of_ble_eq_true rfl⟩) hw hA ⟨by decide, by decide⟩ (fun ws H locs hp_v_17 hw hF9 => ?_)
            obtain ⟨hfn, hp_v_17⟩ := hp_v_17
            have o_p1 := OV.over (V := vw_TAPE) hF9 o_p1 (by decide)
            have o_p2 := OV.over (V := vw_POST) hF9 o_p2 (by decide)
            obtain ⟨sg_18, q_sg_18⟩ : ∃ q9 : OS, (f_X5_addStep__1 (144 : Int32) (0 : Int32) (0 : Int32) s0) = q9 := ⟨_, rfl⟩
            have o_p0 : OV vw_SENT Ps ws p0 sg_18 := by rw [← q_sg_18]; exact hfn.1
            obtain ⟨v_19, m_v_19, r_v_19⟩ := (hp_v_17.1)
            simp only [f_X5_readCond__15_40, ↓reduceIte, q_v_14, q_sg_16, eq_false c_55, eq_false c_60, q_sg_18] at hE
            exact B72 x4 x5 v_14 sg_18 sg_16 s2 ws _ _ ls r_p3 r_x4 r_x5 (r_v_14.to (by decide)) o_p0 o_p1 o_p2 (by have q0 := r_x5.1; have u0 := r_x5.2; omega) hE hw (lv_sub hl [1, 2, 3, 4, 5, 6, 0] rfl)
      intro x4 x5 s0 s1 s2 ws H locs ls hn13 r_p3 r_x4 r_x5 o_p0 o_p1 o_p2 hE hw hl
      refine lv_iload hx hb dX5_readCond_13 (lv_at hl 5 rfl) ?_
      refine lv_bipush (v := 20) hx hb dX5_readCond_15 (by decide) ?_
      refine lv_icmp_ge (tgt := 106) hx hb dX5_readCond_17 (by decide) (fun c_17 => ?_) (fun c_17 => ?_)
      · have r_x5 : RI x5 20 20 := rc_le2 rl_20 r_x5 (ti_le c_17) (by decide)
        simp only [f_X5_readCond__15_13, ↓reduceIte, eq_true c_17] at hE
        exact B106 x4 x5 s0 s1 s2 ws _ _ ls r_p3 r_x4 (r_x5.to (by decide)) o_p0 o_p1 o_p2 hE hw hl
      · have r_x5 : RI x5 0 19 := rc_lt1 r_x5 rl_20 (ti_nle c_17) (by decide)
        refine lv_aload_n hx hb dX5_readCond_20 rfl (lv_at hl 1 rfl) ?_
        refine lv_sipush (v := 144) hx hb dX5_readCond_21 (by decide) ?_
        refine tk_ir (va_runV (As := [.int 144]) (rest := []) ⟨hx, hb, hml, hown, hts⟩ (c_X7_sees__1 l D cy z H.size Ps ws hw.1 p1 144 s1 h_p1 (rl_144.to (by decide)) o_p1) (cwV 1 hts (gV tw_994 tw_995 tw_996 tw_2 tw_997) rfl rfl rfl (by decide +kernel) ⟨Nat.le_of_ble_eq_true rfl, Nat.le_of_ble_eq_true rfl⟩) (tg_preV hw hK hSD hA (ci := 7) (q := (RX7, TX7, 12)) rfl h_p1 rfl) rfl rfl hl.1 rfl (lv_room (Nat.le_of_ble_eq_true rfl)) dX5_readCond_24 ⟨Nat.le_of_ble_eq_true rfl, Nat.le_of_ble_eq_true rfl⟩) hw hA (fun v_20  H locs hp_v_20 hw => ?_)
        obtain ⟨hfn, hp_v_20⟩ := hp_v_20
        have q_v_20 : (f_X7_sees__1 (144 : Int32) s1) = v_20 := hfn.1
        have r_v_20 : RI v_20 0 1 := hp_v_20.1
        refine lv_if_ne (tgt := 40) hx hb dX5_readCond_27 (by decide) (fun c_27 => ?_) (fun c_27 => ?_)
        · have r_v_20 : RI v_20 1 1 := rc_neL r_v_20 rl_0 (ti_ne c_27) (by decide)
          simp only [f_X5_readCond__15_13, ↓reduceIte, eq_false c_17, q_v_20, eq_false c_27] at hE
          exact B40 x4 x5 s0 s1 s2 ws _ _ ls r_p3 r_x4 r_x5 o_p0 o_p1 o_p2 (by have q0 := r_x5.1; have u0 := r_x5.2; omega) hE hw hl
        · have r_v_20 : RI v_20 0 0 := rc_eq1 r_v_20 rl_0 (ti_eq c_27) (by decide)
          refine lv_aload_n hx hb dX5_readCond_30 rfl (lv_at hl 1 rfl) ?_
          refine lv_sipush (v := 145) hx hb dX5_readCond_31 (by decide) ?_
          refine tk_ir (va_runV (As := [.int 145]) (rest := []) ⟨hx, hb, hml, hown, hts⟩ (c_X7_sees__1 l D cy z H.size Ps ws hw.1 p1 145 s1 h_p1 (rl_145.to (by decide)) o_p1) (cwV 1 hts (gV tw_994 tw_995 tw_996 tw_2 tw_997) rfl rfl rfl (by decide +kernel) ⟨Nat.le_of_ble_eq_true rfl, Nat.le_of_ble_eq_true rfl⟩) (tg_preV hw hK hSD hA (ci := 7) (q := (RX7, TX7, 12)) rfl h_p1 rfl) rfl rfl hl.1 rfl (lv_room (Nat.le_of_ble_eq_true rfl)) dX5_readCond_34 ⟨Nat.le_of_ble_eq_true rfl, Nat.le_of_ble_eq_true rfl⟩) hw hA (fun v_21  H locs hp_v_21 hw => ?_)
          obtain ⟨hfn, hp_v_21⟩ := hp_v_21
          have q_v_21 : (f_X7_sees__1 (145 : Int32) s1) = v_21 := hfn.1
          have r_v_21 : RI v_21 0 1 := hp_v_21.1
          refine lv_if_eq (tgt := 106) hx hb dX5_readCond_37 (by decide) (fun c_37 => ?_) (fun c_37 => ?_)
          · have r_v_21 : RI v_21 0 0 := rc_eq1 r_v_21 rl_0 (ti_eq c_37) (by decide)
            simp only [f_X5_readCond__15_13, ↓reduceIte, eq_false c_17, q_v_20, eq_true c_27, q_v_21, eq_true c_37] at hE
            exact B106 x4 x5 s0 s1 s2 ws _ _ ls r_p3 r_x4 (r_x5.to (by decide)) o_p0 o_p1 o_p2 hE hw hl
          · have r_v_21 : RI v_21 1 1 := rc_neL r_v_21 rl_0 (ti_ne c_37) (by decide)
            simp only [f_X5_readCond__15_13, ↓reduceIte, eq_false c_17, q_v_20, eq_true c_27, q_v_21, eq_false c_37] at hE
            exact B40 x4 x5 s0 s1 s2 ws _ _ ls r_p3 r_x4 r_x5 o_p0 o_p1 o_p2 (by have q0 := r_x5.1; have u0 := r_x5.2; omega) hE hw hl
  refine lv_iconst (v := 0) hx hb dX5_readCond_0 (by decide) ?_
  refine lv_istore (lv' := [(4, .int 0), (0, .ref p0), (1, .ref p1), (2, .ref p2), (3, .int p3)]) hx hb dX5_readCond_1 hl (by decide) rfl (fun ls hl => ?_)
  refine lv_aload_n hx hb dX5_readCond_3 rfl (lv_at hl 1 rfl) ?_
  refine lv_aload_n hx hb dX5_readCond_4 rfl (lv_at hl 2 rfl) ?_
  refine lv_aload_n hx hb dX5_readCond_5 rfl (lv_at hl 3 rfl) ?_
  refine lv_iload_n hx hb dX5_readCond_6 rfl (lv_at hl 4 rfl) ?_
  refine tk_v (va_runV (As := [.ref p1, .ref p2, .int p3]) (rest := []) ⟨hx, hb, hml, hown, hts⟩ (c_X5_readOne__15 l D cy z s.heap.size Ps w0 hw.1 p0 p1 p2 p3 s0 s1 s2 h_p0 h_p1 h_p2 r_p3 o_p0 o_p1 o_p2) (cwV 3 hts (gV tw_977 tw_979 ts_32 tw_23 tw_980) rfl rfl rfl (by decide +kernel) ⟨Nat.le_of_ble_eq_true rfl, Nat.le_of_ble_eq_true rfl⟩) (tg_preV hw hK hSD hA (ci := 5) (q := (RX5, TX5, 5)) rfl h_p0 rfl) rfl rfl hl.1 rfl (lv_room (Nat.le_of_ble_eq_true rfl)) dX5_readCond_7 ⟨Nat.le_of_ble_eq_true rfl, Nat.le_of_ble_eq_true rfl⟩) hw hA ⟨by decide, by decide⟩ (fun ws H locs hp_v_22 hw hF9 => ?_)
  obtain ⟨hfn, hp_v_22⟩ := hp_v_22
  obtain ⟨sg_23, q_sg_23⟩ : ∃ q9 : OS, (f_X5_readOne__15 p3 s0 s1 s2).1 = q9 := ⟨_, rfl⟩
  have o_p0 : OV vw_SENT Ps ws p0 sg_23 := by rw [← q_sg_23]; exact hfn.1
  obtain ⟨sg_24, q_sg_24⟩ : ∃ q9 : OS, (f_X5_readOne__15 p3 s0 s1 s2).2.1 = q9 := ⟨_, rfl⟩
  have o_p1 : OV vw_TAPE Ps ws p1 sg_24 := by rw [← q_sg_24]; exact hfn.2.1
  obtain ⟨sg_25, q_sg_25⟩ : ∃ q9 : OS, (f_X5_readOne__15 p3 s0 s1 s2).2.2 = q9 := ⟨_, rfl⟩
  have o_p2 : OV vw_POST Ps ws p2 sg_25 := by rw [← q_sg_25]; exact hfn.2.2.1
  refine lv_iconst (v := 0) hx hb dX5_readCond_10 (by decide) ?_
  refine lv_istore (lv' := [(5, .int 0), (4, .int 0), (0, .ref p0), (1, .ref p1), (2, .ref p2), (3, .int p3)]) hx hb dX5_readCond_11 hl (by decide) rfl (fun ls hl => ?_)
  simp only [f_X5_readCond__15, ↓reduceIte, q_sg_23, q_sg_24, q_sg_25] at hE
  exact B13 4294967298 0 0 sg_23 sg_24 sg_25 ws _ _ ls (by have q0 := rl_0.1; have u0 := rl_0.2; omega) r_p3 (rl_0.to (by decide)) (rl_0.to (by decide)) o_p0 o_p1 o_p2 hE hw (lv_sub hl [2, 3, 4, 5, 1, 0] rfl)
abbrev wr_X5_readOne__14 : List (Nat × Nat) := [(5, 3), (5, 4), (7, 5), (7, 6), (7, 7), (7, 8), (7, 9), (7, 10), (7, 11)]
abbrev wa_X5_readOne__14 : List Nat := [21]
set_option maxHeartbeats 4000000 in
set_option maxRecDepth 100000 in
theorem c_X5_readOne__14 (l : Launch) (D : va_G) (cy : Nat → ClassId) (z : Nat → Nat) (sz : Nat) (Ps : PSI) (w0 : va_W) (hT : HT cy GG Ps w0) (p0 : Nat) (p1 : Nat) (p2 : Nat) (p3 : Int32) (s0 : OS) (s1 : OS) (s2 : OS) (h_p0 : (p0, 32) ∈ Ps) (h_p1 : (p1, 26) ∈ Ps) (h_p2 : (p2, 25) ∈ Ps) (r_p3 : RI p3 6 6) (o_p0 : OV vw_SENT Ps w0 p0 s0) (o_p1 : OV vw_TAPE Ps w0 p1 s1) (o_p2 : OV vw_POST Ps w0 p2 s2) : Met l yX5_readOne (Cond.code yX5_readOne cX5_readOne 5 none :: gT) ({ frames := 9, cells := 0, slots := 0, locals := 1800 } : Room) (va_Pc [.ref p0, .ref p1, .ref p2, .int p3] (PRE D cy z w0 sz)) (va_Qv (fun (u : va_W) => ((OV vw_SENT Ps u p0 ((f_X5_readOne__14 p3 s0 s1 s2).1) ∧ OV vw_TAPE Ps u p1 ((f_X5_readOne__14 p3 s0 s1 s2).2.1) ∧ OV vw_POST Ps u p2 ((f_X5_readOne__14 p3 s0 s1 s2).2.2) ∧ True) ∧ (True)) ∧ HT cy GG Ps u ∧ FR wr_X5_readOne__14 wa_X5_readOne__14 Ps w0 u) (BB D cy (va_A w0 sz) (fun (u : va_W) => u)) (va_A w0 sz)) 0 0 (va_A w0 sz) := by
  refine Met.ofW (cc := cX5_readOne) (maxL := 5) (ret := none) (by decide) rfl ?_
  intro p e s m args below meth c s₁ B hml hv
  obtain ⟨rfl, hsz, hP, hK, hD0, hSD⟩ := hv
  have hx := B.exec
  have hb := B.bytes
  have hr := B.returns
  have hlocks := B.notSynchronized
  have hts : ∀ w ∈ gT, w.before _ s = true := fun w h => atoms_spec (ws := Cond.code yX5_readOne cX5_readOne 5 none :: gT) B.pre w (List.mem_cons_of_mem _ h)
  have hown : s.vm.findClass RX5 = some m.cls := findClass_of_methodNamed B.named
  subst hsz
  have hD := hD0.self (sz := s.heap.size)
  generalize hAe : va_A w0 s.heap.size = A at hD hSD ⊢
  have hA : ∀ q : Nat, s.heap.size ≤ q → A q := fun q h => by rw [← hAe]; exact Or.inr h
  have hl := lv_entry ([.ref p0, .ref p1, .ref p2, .int p3]) (n := 5) (Nat.le_of_ble_eq_true rfl)
  rw [lg_entry_eq]
  generalize (lg_sl ([.ref p0, .ref p1, .ref p2, .int p3]) ++ List.replicate (5 - (lg_sl ([.ref p0, .ref p1, .ref p2, .int p3])).length) Slot.unset).toArray = ls at hl ⊢
  have hl : lv_has ls 5 [(0, .ref p0), (1, .ref p1), (2, .ref p2), (3, .int p3)] := hl
  refine nameQ (fun Q hQ => ?_)
  have hw : WD D cy GG A s wr_X5_readOne__14 wa_X5_readOne__14 Ps w0 Ps w0 s.heap [] := ⟨hT, hP, hD, va_S.rf, FR.rf, hT.1, [], (List.append_nil _).symm⟩
  obtain ⟨R9, hR⟩ : ∃ q9 : OS × OS × OS, f_X5_readOne__14 p3 s0 s1 s2 = q9 := ⟨_, rfl⟩
  have hE := hR
  have B57 : ∀ (x4 : Int32) (s0 : OS) (s1 : OS) (s2 : OS) (ws : va_W) (H : Heap) (locs : List Loc) (ls : Array Slot), RI p3 6 6 → RI x4 (-2147483648) 2147483647 → OV vw_SENT Ps ws p0 s0 → OV vw_TAPE Ps ws p1 s1 → OV vw_POST Ps ws p2 s2 → f_X5_readOne__14_57 p3 x4 s0 s1 s2 = R9 → WD D cy GG A s wr_X5_readOne__14 wa_X5_readOne__14 Ps w0 Ps ws H locs → lv_has ls 5 [(0, .ref p0), (1, .ref p1), (2, .ref p2), (3, .int p3), (4, .int x4)] → W p l e (headSpec (Cond.code yX5_readOne cX5_readOne 5 none :: gT) ({ frames := 9, cells := 0, slots := 0, locals := 1800 } : Room)).room s m ([.ref p0, .ref p1, .ref p2, .int p3] : List Value).toArray below meth c H locs 0 0 Q (F0 m 57 ls []) := by
    intro x4 s0 s1 s2 ws H locs ls r_p3 r_x4 o_p0 o_p1 o_p2 hE hw hl
    refine lv_aload_n hx hb dX5_readOne_57 rfl (lv_at hl 1 rfl) ?_
    refine tg_getN (ci := 7) (ts := ty_TAPE) (C := RX7) (T := TX7) (N := 12) hx hb hts inX7 hown hK hw h_p1 rfl rfl 10 (by decide) (hSD.nest tn_103) (fun _ h9 => h9) (ft := vI 0 4) rfl dX5_readOne_58 (fun u_1 hv_u_1 m_u_1 => ?_)
    obtain ⟨vu_1, rfl, r_vu_1⟩ := hv_u_1
    have q_vu_1 : s1.1 10 = vu_1 := OV.eqI (V := vw_TAPE) hw.2.2.1 o_p1 m_u_1 (by decide)
    refine lv_if_eq (tgt := 65) hx hb dX5_readOne_61 (by decide) (fun c_61 => ?_) (fun c_61 => ?_)
    · have r_vu_1 : RI vu_1 0 0 := rc_eq1 r_vu_1 rl_0 (ti_eq c_61) (by decide)
      refine lv_aload_n hx hb dX5_readOne_65 rfl (lv_at hl 1 rfl) ?_
      refine tk_v (va_runV (As := []) (rest := []) ⟨hx, hb, hml, hown, hts⟩ (c_X7_pass__5 l D cy z H.size Ps ws hw.1 p1 vu_1 s1 h_p1 r_vu_1 m_u_1 o_p1) (cwV 0 hts (gV tw_982 tw_425 tw_426 tw_2 tw_427) rfl rfl rfl (by decide +kernel) ⟨Nat.le_of_ble_eq_true rfl, Nat.le_of_ble_eq_true rfl⟩) (tg_preV hw hK hSD hA (ci := 7) (q := (RX7, TX7, 12)) rfl h_p1 rfl) rfl rfl hl.1 rfl (lv_room (Nat.le_of_ble_eq_true rfl)) dX5_readOne_66 ⟨Nat.le_of_ble_eq_true rfl, Nat.le_of_ble_eq_true rfl⟩) hw hA ⟨by decide, by decide⟩ (fun ws H locs hp_v_2 hw hF9 => ?_)
      have m_u_1 := FLD.over hF9 m_u_1 (by decide)
      obtain ⟨hfn, hp_v_2⟩ := hp_v_2
      have o_p0 := OV.over (V := vw_SENT) hF9 o_p0 (by decide)
      have o_p2 := OV.over (V := vw_POST) hF9 o_p2 (by decide)
      obtain ⟨sg_3, q_sg_3⟩ : ∃ q9 : OS, (f_X7_pass__5 s1) = q9 := ⟨_, rfl⟩
      have o_p1 : OV vw_TAPE Ps ws p1 sg_3 := by rw [← q_sg_3]; exact hfn.1
      obtain ⟨v_4, m_v_4, r_v_4⟩ := (hp_v_2.1)
      refine lv_aload_n hx hb dX5_readOne_69 rfl (lv_at hl 0 rfl) ?_
      refine lv_dup hx hb dX5_readOne_70 rfl ?_
      refine tg_get (ci := 5) (ts := ty_SENT) (C := RX5) (T := TX5) (N := 5) hx hb hts inX5 hown hK hw h_p0 rfl rfl 4 (by decide) (hts _ tw_955) (fun _ h9 => h9) (ft := vI (-2147483648) 2147483647) rfl dX5_readOne_71 (fun u_5 hv_u_5 m_u_5 => ?_)
      obtain ⟨vu_5, rfl, r_vu_5⟩ := hv_u_5
      have q_vu_5 : s0.1 4 = vu_5 := OV.eqI (V := vw_SENT) hw.2.2.1 o_p0 m_u_5 (by decide)
      refine lv_iconst (v := 1) hx hb dX5_readOne_74 (by decide) ?_
      refine lv_iadd hx hb dX5_readOne_75 (lv_topi (fun v_6 e_v_6 => ?_))
      have r_v_6 := ri_any v_6
      have q_v_6 : vu_5 + (1 : Int32) = v_6 := e_v_6.symm
      refine tg_put (ci := 5) (ts := ty_SENT) (v := .int v_6) (ty := .int) (C := RX5) (T := TX5) (N := 5) hx hb hts inX5 tyX5 tyX5_ok nmX5 hown hK hw h_p0 rfl rfl 4 (by decide) (hts _ tw_955) (fun _ h9 => h9) rfl (by decide +kernel) rfl rfl (ft := vI (-2147483648) 2147483647) rfl ⟨_, rfl, r_v_6⟩ (by decide) dX5_readOne_76 (fun ws H locs hw n_k_7 hF9 => ?_)
      have m_v_4 := FLD.over hF9 m_v_4 (by decide)
      have o_p1 := OV.over (V := vw_TAPE) hF9 o_p1 (by decide)
      have o_p2 := OV.over (V := vw_POST) hF9 o_p2 (by decide)
      obtain ⟨sg_8, q_sg_8⟩ : ∃ q9 : OS, sI s0 4 v_6 = q9 := ⟨_, rfl⟩
      have o_p0 : OV vw_SENT Ps ws p0 sg_8 := by rw [← q_sg_8]; exact OV.putI (V := vw_SENT) hF9 n_k_7 o_p0 (by decide)
      refine lv_iload hx hb dX5_readOne_79 (lv_at hl 4 rfl) ?_
      refine lv_sipush (v := 146) hx hb dX5_readOne_81 (by decide) ?_
      refine lv_icmp_ne (tgt := 108) hx hb dX5_readOne_84 (by decide) (fun c_84 => ?_) (fun c_84 => ?_)
      · refine lv_iload hx hb dX5_readOne_108 (lv_at hl 4 rfl) ?_
        refine lv_bipush (v := 40) hx hb dX5_readOne_110 (by decide) ?_
        refine lv_icmp_ne (tgt := 133) hx hb dX5_readOne_112 (by decide) (fun c_112 => ?_) (fun c_112 => ?_)
        · refine lv_aload_n hx hb dX5_readOne_133 rfl (lv_at hl 0 rfl) ?_
          refine lv_aload_n hx hb dX5_readOne_134 rfl (lv_at hl 1 rfl) ?_
          refine lv_aload_n hx hb dX5_readOne_135 rfl (lv_at hl 2 rfl) ?_
          refine lv_iload hx hb dX5_readOne_136 (lv_at hl 4 rfl) ?_
          refine tk_v (va_runV (As := [.ref p1, .ref p2, .int x4]) (rest := []) ⟨hx, hb, hml, hown, hts⟩ (c_X5_readPlain__1 l D cy z H.size Ps ws hw.1 p0 p1 p2 x4 sg_8 sg_3 s2 h_p0 h_p1 h_p2 r_x4 o_p0 o_p1 o_p2) (cwV 3 hts (gV tw_988 tw_990 ts_34 tw_23 tw_991) rfl rfl rfl (by decide +kernel) ⟨Nat.le_of_ble_eq_true rfl, Nat.le_of_ble_eq_true rfl⟩) (tg_preV hw hK hSD hA (ci := 5) (q := (RX5, TX5, 5)) rfl h_p0 rfl) rfl rfl hl.1 rfl (lv_room (Nat.le_of_ble_eq_true rfl)) dX5_readOne_138 ⟨Nat.le_of_ble_eq_true rfl, Nat.le_of_ble_eq_true rfl⟩) hw hA ⟨by decide, by decide⟩ (fun ws H locs hp_v_9 hw hF9 => ?_)
          have n_k_7 := FLD.over hF9 n_k_7 (by decide)
          obtain ⟨hfn, hp_v_9⟩ := hp_v_9
          obtain ⟨sg_10, q_sg_10⟩ : ∃ q9 : OS, (f_X5_readPlain__1 x4 sg_8 sg_3 s2).1 = q9 := ⟨_, rfl⟩
          have o_p0 : OV vw_SENT Ps ws p0 sg_10 := by rw [← q_sg_10]; exact hfn.1
          obtain ⟨sg_11, q_sg_11⟩ : ∃ q9 : OS, (f_X5_readPlain__1 x4 sg_8 sg_3 s2).2.1 = q9 := ⟨_, rfl⟩
          have o_p1 : OV vw_TAPE Ps ws p1 sg_11 := by rw [← q_sg_11]; exact hfn.2.1
          obtain ⟨sg_12, q_sg_12⟩ : ∃ q9 : OS, (f_X5_readPlain__1 x4 sg_8 sg_3 s2).2.2 = q9 := ⟨_, rfl⟩
          have o_p2 : OV vw_POST Ps ws p2 sg_12 := by rw [← q_sg_12]; exact hfn.2.2.1
          obtain ⟨v_13, m_v_13, r_v_13⟩ := (hp_v_9.1)
          simp only [f_X5_readOne__14_57, ↓reduceIte, q_vu_1, eq_true c_61, q_sg_3, q_vu_5, q_v_6, q_sg_8, eq_false c_84, eq_false c_112, q_sg_10, q_sg_11, q_sg_12] at hE
          subst hQ
          exact W.vret hx hb hr (fun t ht hW => ⟨⟨ws, rfl, ⟨⟨⟨(by rw [hR, ← hE]; exact o_p0), (by rw [hR, ← hE]; exact o_p1), (by rw [hR, ← hE]; exact o_p2), trivial⟩, trivial⟩, hw.1, hw.2.2.2.2.1⟩, by rw [ht]; exact hw.2.1, va_K.moved hW.alike hK, hw.2.2.1⟩, hw.2.2.2.1.F ht⟩) hw.2.2.2.1.2.2 dX5_readOne_141
        · have r_x4 : RI x4 40 40 := rc_eq1 r_x4 rl_40 (ti_eq c_112) (by decide)
          refine lv_aload_n hx hb dX5_readOne_115 rfl (lv_at hl 0 rfl) ?_
          refine lv_aload_n hx hb dX5_readOne_116 rfl (lv_at hl 1 rfl) ?_
          refine lv_aload_n hx hb dX5_readOne_117 rfl (lv_at hl 2 rfl) ?_
          refine lv_iload_n hx hb dX5_readOne_118 rfl (lv_at hl 3 rfl) ?_
          refine lv_iconst (v := 1) hx hb dX5_readOne_119 (by decide) ?_
          refine lv_iadd hx hb dX5_readOne_120 (lv_topi (fun v_14 e_v_14 => ?_))
          obtain ⟨t_v_14, r_v_14⟩ := tq_add (lo := 7) (hi := 7) r_p3 rl_1 (by decide +kernel) e_v_14
          have t_v_14 : v_14.toInt = p3.toInt + 1 := t_v_14
          have q_v_14 : p3 + (1 : Int32) = v_14 := e_v_14.symm
          refine tk_v (va_runV (As := [.ref p1, .ref p2, .int v_14]) (rest := []) ⟨hx, hb, hml, hown, hts⟩ (c_X5_readCond__15 l D cy z H.size Ps ws hw.1 p0 p1 p2 v_14 sg_8 sg_3 s2 h_p0 h_p1 h_p2 r_v_14 o_p0 o_p1 o_p2) (cwV 3 hts (gV tw_973 tw_975 ts_31 tw_23 tw_976) rfl rfl rfl (by decide +kernel) ⟨Nat.le_of_ble_eq_true rfl, Nat.le_of_ble_eq_true rfl⟩) (tg_preV hw hK hSD hA (ci := 5) (q := (RX5, TX5, 5)) rfl h_p0 rfl) rfl rfl hl.1 rfl (lv_room (Nat.le_of_ble_eq_true rfl)) dX5_readOne_121 ⟨Nat.le_of_ble_eq_true rfl, Nat.le_of_ble_eq_true rfl⟩) hw hA ⟨by decide, by decide⟩ (fun ws H locs hp_v_15 hw hF9 => ?_)
          obtain ⟨hfn, hp_v_15⟩ := hp_v_15
          obtain ⟨sg_16, q_sg_16⟩ : ∃ q9 : OS, (f_X5_readCond__15 v_14 sg_8 sg_3 s2).1 = q9 := ⟨_, rfl⟩
          have o_p0 : OV vw_SENT Ps ws p0 sg_16 := by rw [← q_sg_16]; exact hfn.1
          obtain ⟨sg_17, q_sg_17⟩ : ∃ q9 : OS, (f_X5_readCond__15 v_14 sg_8 sg_3 s2).2.1 = q9 := ⟨_, rfl⟩
          have o_p1 : OV vw_TAPE Ps ws p1 sg_17 := by rw [← q_sg_17]; exact hfn.2.1
          obtain ⟨sg_18, q_sg_18⟩ : ∃ q9 : OS, (f_X5_readCond__15 v_14 sg_8 sg_3 s2).2.2 = q9 := ⟨_, rfl⟩
          have o_p2 : OV vw_POST Ps ws p2 sg_18 := by rw [← q_sg_18]; exact hfn.2.2.1
          refine lv_aload_n hx hb dX5_readOne_124 rfl (lv_at hl 1 rfl) ?_
          refine lv_bipush (v := 41) hx hb dX5_readOne_125 (by decide) ?_
          refine tk_v (va_runV (As := [.int 41]) (rest := []) ⟨hx, hb, hml, hown, hts⟩ (c_X7_passOnly__3 l D cy z H.size Ps ws hw.1 p1 41 sg_17 h_p1 (rl_41.to (by decide)) o_p1) (cwV 1 hts (gV tw_987 tw_514 tw_515 tw_2 tw_516) rfl rfl rfl (by decide +kernel) ⟨Nat.le_of_ble_eq_true rfl, Nat.le_of_ble_eq_true rfl⟩) (tg_preV hw hK hSD hA (ci := 7) (q := (RX7, TX7, 12)) rfl h_p1 rfl) rfl rfl hl.1 rfl (lv_room (Nat.le_of_ble_eq_true rfl)) dX5_readOne_127 ⟨Nat.le_of_ble_eq_true rfl, Nat.le_of_ble_eq_true rfl⟩) hw hA ⟨by decide, by decide⟩ (fun ws H locs hp_v_19 hw hF9 => ?_)
          obtain ⟨hfn, hp_v_19⟩ := hp_v_19
          have o_p0 := OV.over (V := vw_SENT) hF9 o_p0 (by decide)
          have o_p2 := OV.over (V := vw_POST) hF9 o_p2 (by decide)
          obtain ⟨sg_20, q_sg_20⟩ : ∃ q9 : OS, (f_X7_passOnly__3 (41 : Int32) sg_17) = q9 := ⟨_, rfl⟩
          have o_p1 : OV vw_TAPE Ps ws p1 sg_20 := by rw [← q_sg_20]; exact hfn.1
          refine lv_goto (tgt := 141) hx hb dX5_readOne_130 (by decide) ?_
          simp only [f_X5_readOne__14_57, ↓reduceIte, q_vu_1, eq_true c_61, q_sg_3, q_vu_5, q_v_6, q_sg_8, eq_false c_84, eq_true c_112, q_v_14, q_sg_16, q_sg_17, q_sg_18, q_sg_20] at hE
          subst hQ
          exact W.vret hx hb hr (fun t ht hW => ⟨⟨ws, rfl, ⟨⟨⟨(by rw [hR, ← hE]; exact o_p0), (by rw [hR, ← hE]; exact o_p1), (by rw [hR, ← hE]; exact o_p2), trivial⟩, trivial⟩, hw.1, hw.2.2.2.2.1⟩, by rw [ht]; exact hw.2.1, va_K.moved hW.alike hK, hw.2.2.1⟩, hw.2.2.2.1.F ht⟩) hw.2.2.2.1.2.2 dX5_readOne_141
      · have r_x4 : RI x4 146 146 := rc_eq1 r_x4 rl_146 (ti_eq c_84) (by decide)
        refine lv_aload_n hx hb dX5_readOne_87 rfl (lv_at hl 0 rfl) ?_
        refine lv_aload_n hx hb dX5_readOne_88 rfl (lv_at hl 1 rfl) ?_
        refine lv_aload_n hx hb dX5_readOne_89 rfl (lv_at hl 2 rfl) ?_
        refine lv_iload_n hx hb dX5_readOne_90 rfl (lv_at hl 3 rfl) ?_
        refine lv_iconst (v := 1) hx hb dX5_readOne_91 (by decide) ?_
        refine lv_iadd hx hb dX5_readOne_92 (lv_topi (fun v_21 e_v_21 => ?_))
        obtain ⟨t_v_21, r_v_21⟩ := tq_add (lo := 7) (hi := 7) r_p3 rl_1 (by decide +kernel) e_v_21
        have t_v_21 : v_21.toInt = p3.toInt + 1 := t_v_21
        have q_v_21 : p3 + (1 : Int32) = v_21 := e_v_21.symm
        refine tk_v (va_runV (As := [.ref p1, .ref p2, .int v_21]) (rest := []) ⟨hx, hb, hml, hown, hts⟩ (c_X5_readOne__15 l D cy z H.size Ps ws hw.1 p0 p1 p2 v_21 sg_8 sg_3 s2 h_p0 h_p1 h_p2 r_v_21 o_p0 o_p1 o_p2) (cwV 3 hts (gV tw_977 tw_979 ts_32 tw_23 tw_980) rfl rfl rfl (by decide +kernel) ⟨Nat.le_of_ble_eq_true rfl, Nat.le_of_ble_eq_true rfl⟩) (tg_preV hw hK hSD hA (ci := 5) (q := (RX5, TX5, 5)) rfl h_p0 rfl) rfl rfl hl.1 rfl (lv_room (Nat.le_of_ble_eq_true rfl)) dX5_readOne_93 ⟨Nat.le_of_ble_eq_true rfl, Nat.le_of_ble_eq_true rfl⟩) hw hA ⟨by decide, by decide⟩ (fun ws H locs hp_v_22 hw hF9 => ?_)
        obtain ⟨hfn, hp_v_22⟩ := hp_v_22
        obtain ⟨sg_23, q_sg_23⟩ : ∃ q9 : OS, (f_X5_readOne__15 v_21 sg_8 sg_3 s2).1 = q9 := ⟨_, rfl⟩
        have o_p0 : OV vw_SENT Ps ws p0 sg_23 := by rw [← q_sg_23]; exact hfn.1
        obtain ⟨sg_24, q_sg_24⟩ : ∃ q9 : OS, (f_X5_readOne__15 v_21 sg_8 sg_3 s2).2.1 = q9 := ⟨_, rfl⟩
        have o_p1 : OV vw_TAPE Ps ws p1 sg_24 := by rw [← q_sg_24]; exact hfn.2.1
        obtain ⟨sg_25, q_sg_25⟩ : ∃ q9 : OS, (f_X5_readOne__15 v_21 sg_8 sg_3 s2).2.2 = q9 := ⟨_, rfl⟩
        have o_p2 : OV vw_POST Ps ws p2 sg_25 := by rw [← q_sg_25]; exact hfn.2.2.1
        refine lv_aload_n hx hb dX5_readOne_96 rfl (lv_at hl 0 rfl) ?_
        refine lv_sipush (v := 146) hx hb dX5_readOne_97 (by decide) ?_
        refine lv_iconst (v := 0) hx hb dX5_readOne_100 (by decide) ?_
        refine lv_iconst (v := 0) hx hb dX5_readOne_101 (by decide) ?_
        refine tk_v (va_runV (As := [.int 146, .int 0, .int 0]) (rest := []) ⟨hx, hb, hml, hown, hts⟩ (c_X5_addStep__1 l D cy z H.size Ps ws hw.1 p0 146 0 0 sg_23 h_p0 (rl_146.to (by decide)) (rl_0.to (by decide)) (rl_0.to (by decide)) o_p0) (cwV 3 hts (gV tw_983 tw_985 ts_33 tw_23 tw_986) rfl rfl rfl (by decide +kernel) ⟨Nat.le_of_ble_eq_true rfl, Nat.le_of_ble_eq_true rfl⟩) (tg_preV hw hK hSD hA (ci := 5) (q := (RX5, TX5, 5)) rfl h_p0 rfl) rfl rfl hl.1 rfl (lv_room (Nat.le_of_ble_eq_true rfl)) dX5_readOne_102 ⟨Nat.le_of_ble_eq_true rfl, Nat.le_of_ble_eq_true rfl⟩) hw hA ⟨by decide, by decide⟩ (fun ws H locs hp_v_26 hw hF9 => ?_)
        obtain ⟨hfn, hp_v_26⟩ := hp_v_26
        have o_p1 := OV.over (V := vw_TAPE) hF9 o_p1 (by decide)
        have o_p2 := OV.over (V := vw_POST) hF9 o_p2 (by decide)
        obtain ⟨sg_27, q_sg_27⟩ : ∃ q9 : OS, (f_X5_addStep__1 (146 : Int32) (0 : Int32) (0 : Int32) sg_23) = q9 := ⟨_, rfl⟩
        have o_p0 : OV vw_SENT Ps ws p0 sg_27 := by rw [← q_sg_27]; exact hfn.1
        obtain ⟨v_28, m_v_28, r_v_28⟩ := (hp_v_26.1)
        refine lv_goto (tgt := 141) hx hb dX5_readOne_105 (by decide) ?_
        simp only [f_X5_readOne__14_57, ↓reduceIte, q_vu_1, eq_true c_61, q_sg_3, q_vu_5, q_v_6, q_sg_8, eq_true c_84, q_v_21, q_sg_23, q_sg_24, q_sg_25, q_sg_27] at hE
        subst hQ
        exact W.vret hx hb hr (fun t ht hW => ⟨⟨ws, rfl, ⟨⟨⟨(by rw [hR, ← hE]; exact o_p0), (by rw [hR, ← hE]; exact o_p1), (by rw [hR, ← hE]; exact o_p2), trivial⟩, trivial⟩, hw.1, hw.2.2.2.2.1⟩, by rw [ht]; exact hw.2.1, va_K.moved hW.alike hK, hw.2.2.1⟩, hw.2.2.2.1.F ht⟩) hw.2.2.2.1.2.2 dX5_readOne_141
    · have r_vu_1 : RI vu_1 1 4 := rc_neL r_vu_1 rl_0 (ti_ne c_61) (by decide)
      simp only [f_X5_readOne__14_57, ↓reduceIte, q_vu_1, eq_false c_61] at hE
      subst hQ
      exact W.vret hx hb hr (fun t ht hW => ⟨⟨ws, rfl, ⟨⟨⟨(by rw [hR, ← hE]; exact o_p0), (by rw [hR, ← hE]; exact o_p1), (by rw [hR, ← hE]; exact o_p2), trivial⟩, trivial⟩, hw.1, hw.2.2.2.2.1⟩, by rw [ht]; exact hw.2.1, va_K.moved hW.alike hK, hw.2.2.1⟩, hw.2.2.2.1.F ht⟩) hw.2.2.2.1.2.2 dX5_readOne_64
  have B52 : ∀ (x4 : Int32) (z0_4 : Int32) (z1_7 : Int32) (s0 : OS) (s1 : OS) (s2 : OS) (ws : va_W) (H : Heap) (locs : List Loc) (ls : Array Slot), RI p3 6 6 → RI x4 40 155 → RI z0_4 20 2147483647 → FLD ws p0 5 4 (.int z0_4) → RI z1_7 40 155 → FLD ws p1 7 7 (.int z1_7) → OV vw_SENT Ps ws p0 s0 → OV vw_TAPE Ps ws p1 s1 → OV vw_POST Ps ws p2 s2 → f_X5_readOne__14_52 p3 x4 s0 s1 s2 = R9 → WD D cy GG A s wr_X5_readOne__14 wa_X5_readOne__14 Ps w0 Ps ws H locs → lv_has ls 5 [(0, .ref p0), (1, .ref p1), (2, .ref p2), (3, .int p3), (4, .int x4)] → W p l e (headSpec (Cond.code yX5_readOne cX5_readOne 5 none :: gT) ({ frames := 9, cells := 0, slots := 0, locals := 1800 } : Room)).room s m ([.ref p0, .ref p1, .ref p2, .int p3] : List Value).toArray below meth c H locs 0 0 Q (F0 m 52 ls []) := by
    intro x4 z0_4 z1_7 s0 s1 s2 ws H locs ls r_p3 r_x4 r_z0_4 m_z0_4 r_z1_7 m_z1_7 o_p0 o_p1 o_p2 hE hw hl
    have q_z0_4 : s0.1 4 = z0_4 := OV.eqI (V := vw_SENT) hw.2.2.1 o_p0 m_z0_4 (by decide)
    have q_z1_7 : s1.1 7 = z1_7 := OV.eqI (V := vw_TAPE) hw.2.2.1 o_p1 m_z1_7 (by decide)
    refine lv_aload_n hx hb dX5_readOne_52 rfl (lv_at hl 1 rfl) ?_
    refine lv_iconst (v := 4) hx hb dX5_readOne_53 (by decide) ?_
    refine tk_v (va_runV (As := [.int 4]) (rest := []) ⟨hx, hb, hml, hown, hts⟩ (c_X7_refuse__4 l D cy z H.size Ps ws hw.1 p1 4 s1 h_p1 (rl_4.to (by decide)) o_p1) (cwV 1 hts (gV tw_981 tw_443 tw_444 tw_2 tw_445) rfl rfl rfl (by decide +kernel) ⟨Nat.le_of_ble_eq_true rfl, Nat.le_of_ble_eq_true rfl⟩) (tg_preV hw hK hSD hA (ci := 7) (q := (RX7, TX7, 12)) rfl h_p1 rfl) rfl rfl hl.1 rfl (lv_room (Nat.le_of_ble_eq_true rfl)) dX5_readOne_54 ⟨Nat.le_of_ble_eq_true rfl, Nat.le_of_ble_eq_true rfl⟩) hw hA ⟨by decide, by decide⟩ (fun ws H locs hp_v_29 hw hF9 => ?_)
    have m_z0_4 := FLD.over hF9 m_z0_4 (by decide)
    have m_z1_7 := FLD.over hF9 m_z1_7 (by decide)
    obtain ⟨hfn, hp_v_29⟩ := hp_v_29
    have o_p0 := OV.over (V := vw_SENT) hF9 o_p0 (by decide)
    have o_p2 := OV.over (V := vw_POST) hF9 o_p2 (by decide)
    obtain ⟨sg_30, q_sg_30⟩ : ∃ q9 : OS, (f_X7_refuse__4 (4 : Int32) s1) = q9 := ⟨_, rfl⟩
    have o_p1 : OV vw_TAPE Ps ws p1 sg_30 := by rw [← q_sg_30]; exact hfn.1
    obtain ⟨v_31, m_v_31, r_v_31⟩ := (hp_v_29.1)
    simp only [f_X5_readOne__14_52, ↓reduceIte, q_z0_4, q_z1_7, q_sg_30] at hE
    exact B57 x4 s0 sg_30 s2 ws _ _ ls r_p3 (r_x4.to (by decide)) o_p0 o_p1 o_p2 hE hw hl
  have B37 : ∀ (x4 : Int32) (z1_7 : Int32) (s0 : OS) (s1 : OS) (s2 : OS) (ws : va_W) (H : Heap) (locs : List Loc) (ls : Array Slot), RI p3 6 6 → RI x4 40 155 → RI z1_7 40 155 → FLD ws p1 7 7 (.int z1_7) → OV vw_SENT Ps ws p0 s0 → OV vw_TAPE Ps ws p1 s1 → OV vw_POST Ps ws p2 s2 → f_X5_readOne__14_37 p3 x4 s0 s1 s2 = R9 → WD D cy GG A s wr_X5_readOne__14 wa_X5_readOne__14 Ps w0 Ps ws H locs → lv_has ls 5 [(0, .ref p0), (1, .ref p1), (2, .ref p2), (3, .int p3), (4, .int x4)] → W p l e (headSpec (Cond.code yX5_readOne cX5_readOne 5 none :: gT) ({ frames := 9, cells := 0, slots := 0, locals := 1800 } : Room)).room s m ([.ref p0, .ref p1, .ref p2, .int p3] : List Value).toArray below meth c H locs 0 0 Q (F0 m 37 ls []) := by
    intro x4 z1_7 s0 s1 s2 ws H locs ls r_p3 r_x4 r_z1_7 m_z1_7 o_p0 o_p1 o_p2 hE hw hl
    have q_z1_7 : s1.1 7 = z1_7 := OV.eqI (V := vw_TAPE) hw.2.2.1 o_p1 m_z1_7 (by decide)
    refine lv_aload_n hx hb dX5_readOne_37 rfl (lv_at hl 0 rfl) ?_
    refine tg_get (ci := 5) (ts := ty_SENT) (C := RX5) (T := TX5) (N := 5) hx hb hts inX5 hown hK hw h_p0 rfl rfl 4 (by decide) (hts _ tw_955) (fun _ h9 => h9) (ft := vI (-2147483648) 2147483647) rfl dX5_readOne_38 (fun u_32 hv_u_32 m_u_32 => ?_)
    obtain ⟨vu_32, rfl, r_vu_32⟩ := hv_u_32
    have q_vu_32 : s0.1 4 = vu_32 := OV.eqI (V := vw_SENT) hw.2.2.1 o_p0 m_u_32 (by decide)
    refine lv_bipush (v := 20) hx hb dX5_readOne_41 (by decide) ?_
    refine lv_icmp_ge (tgt := 52) hx hb dX5_readOne_43 (by decide) (fun c_43 => ?_) (fun c_43 => ?_)
    · have r_vu_32 : RI vu_32 20 2147483647 := rc_le2 rl_20 r_vu_32 (ti_le c_43) (by decide)
      simp only [f_X5_readOne__14_37, ↓reduceIte, q_z1_7, q_vu_32, eq_true c_43] at hE
      exact B52 x4 vu_32 z1_7 s0 s1 s2 ws _ _ ls r_p3 r_x4 r_vu_32 m_u_32 r_z1_7 m_z1_7 o_p0 o_p1 o_p2 hE hw hl
    · have r_vu_32 : RI vu_32 (-2147483648) 19 := rc_lt1 r_vu_32 rl_20 (ti_nle c_43) (by decide)
      refine lv_iload_n hx hb dX5_readOne_46 rfl (lv_at hl 3 rfl) ?_
      refine lv_bipush (v := 8) hx hb dX5_readOne_47 (by decide) ?_
      refine lv_icmp_le (tgt := 57) hx hb dX5_readOne_49 (by decide) (fun c_49 => ?_) (fun c_49 => ?_)
      · simp only [f_X5_readOne__14_37, ↓reduceIte, q_z1_7, q_vu_32, eq_false c_43, eq_true c_49] at hE
        exact B57 x4 s0 s1 s2 ws _ _ ls r_p3 (r_x4.to (by decide)) o_p0 o_p1 o_p2 hE hw hl
      · have r_p3 : RI p3 9 6 := rc_lt2 rl_8 r_p3 (ti_nle c_49) (by decide)
        exact (r_p3.no (by decide)).elim
  have B29 : ∀ (x4 : Int32) (s0 : OS) (s1 : OS) (s2 : OS) (ws : va_W) (H : Heap) (locs : List Loc) (ls : Array Slot), RI p3 6 6 → RI x4 (-2147483648) 2147483647 → OV vw_SENT Ps ws p0 s0 → OV vw_TAPE Ps ws p1 s1 → OV vw_POST Ps ws p2 s2 → f_X5_readOne__14_29 p3 x4 s0 s1 s2 = R9 → WD D cy GG A s wr_X5_readOne__14 wa_X5_readOne__14 Ps w0 Ps ws H locs → lv_has ls 5 [(0, .ref p0), (1, .ref p1), (2, .ref p2), (3, .int p3), (4, .int x4)] → W p l e (headSpec (Cond.code yX5_readOne cX5_readOne 5 none :: gT) ({ frames := 9, cells := 0, slots := 0, locals := 1800 } : Room)).room s m ([.ref p0, .ref p1, .ref p2, .int p3] : List Value).toArray below meth c H locs 0 0 Q (F0 m 29 ls []) := by
    intro x4 s0 s1 s2 ws H locs ls r_p3 r_x4 o_p0 o_p1 o_p2 hE hw hl
    refine lv_aload_n hx hb dX5_readOne_29 rfl (lv_at hl 1 rfl) ?_
    refine lv_iconst (v := 1) hx hb dX5_readOne_30 (by decide) ?_
    refine tk_v (va_runV (As := [.int 1]) (rest := []) ⟨hx, hb, hml, hown, hts⟩ (c_X7_refuse__4 l D cy z H.size Ps ws hw.1 p1 1 s1 h_p1 (rl_1.to (by decide)) o_p1) (cwV 1 hts (gV tw_981 tw_443 tw_444 tw_2 tw_445) rfl rfl rfl (by decide +kernel) ⟨Nat.le_of_ble_eq_true rfl, Nat.le_of_ble_eq_true rfl⟩) (tg_preV hw hK hSD hA (ci := 7) (q := (RX7, TX7, 12)) rfl h_p1 rfl) rfl rfl hl.1 rfl (lv_room (Nat.le_of_ble_eq_true rfl)) dX5_readOne_31 ⟨Nat.le_of_ble_eq_true rfl, Nat.le_of_ble_eq_true rfl⟩) hw hA ⟨by decide, by decide⟩ (fun ws H locs hp_v_33 hw hF9 => ?_)
    obtain ⟨hfn, hp_v_33⟩ := hp_v_33
    have o_p0 := OV.over (V := vw_SENT) hF9 o_p0 (by decide)
    have o_p2 := OV.over (V := vw_POST) hF9 o_p2 (by decide)
    obtain ⟨sg_34, q_sg_34⟩ : ∃ q9 : OS, (f_X7_refuse__4 (1 : Int32) s1) = q9 := ⟨_, rfl⟩
    have o_p1 : OV vw_TAPE Ps ws p1 sg_34 := by rw [← q_sg_34]; exact hfn.1
    obtain ⟨v_35, m_v_35, r_v_35⟩ := (hp_v_33.1)
    refine lv_goto (tgt := 57) hx hb dX5_readOne_34 (by decide) ?_
    simp only [f_X5_readOne__14_29, ↓reduceIte, q_sg_34] at hE
    exact B57 x4 s0 sg_34 s2 ws _ _ ls r_p3 r_x4 o_p0 o_p1 o_p2 hE hw hl
  refine lv_aload_n hx hb dX5_readOne_0 rfl (lv_at hl 1 rfl) ?_
  refine tg_getN (ci := 7) (ts := ty_TAPE) (C := RX7) (T := TX7) (N := 12) hx hb hts inX7 hown hK hw h_p1 rfl rfl 7 (by decide) (hSD.nest tn_96) (fun _ h9 => h9) (ft := vI (-2147483648) 2147483647) rfl dX5_readOne_1 (fun u_36 hv_u_36 m_u_36 => ?_)
  obtain ⟨vu_36, rfl, r_vu_36⟩ := hv_u_36
  have q_vu_36 : s1.1 7 = vu_36 := OV.eqI (V := vw_TAPE) hw.2.2.1 o_p1 m_u_36 (by decide)
  refine lv_istore (lv' := [(4, .int vu_36), (0, .ref p0), (1, .ref p1), (2, .ref p2), (3, .int p3)]) hx hb dX5_readOne_4 hl (by decide) rfl (fun ls hl => ?_)
  refine lv_iload hx hb dX5_readOne_6 (lv_at hl 0 rfl) ?_
  refine lv_bipush (v := 40) hx hb dX5_readOne_8 (by decide) ?_
  refine lv_icmp_eq (tgt := 37) hx hb dX5_readOne_10 (by decide) (fun c_10 => ?_) (fun c_10 => ?_)
  · have r_vu_36 : RI vu_36 40 40 := rc_eq1 r_vu_36 rl_40 (ti_eq c_10) (by decide)
    simp only [f_X5_readOne__14, ↓reduceIte, q_vu_36, eq_true c_10] at hE
    exact B37 vu_36 vu_36 s0 s1 s2 w0 _ _ ls r_p3 (r_vu_36.to (by decide)) (r_vu_36.to (by decide)) m_u_36 o_p0 o_p1 o_p2 hE hw (lv_sub hl [1, 2, 3, 4, 0] rfl)
  · refine lv_iload hx hb dX5_readOne_13 (lv_at hl 0 rfl) ?_
    refine lv_sipush (v := 146) hx hb dX5_readOne_15 (by decide) ?_
    refine lv_icmp_lt (tgt := 29) hx hb dX5_readOne_18 (by decide) (fun c_18 => ?_) (fun c_18 => ?_)
    · have r_vu_36 : RI vu_36 (-2147483648) 145 := rc_lt1 r_vu_36 rl_146 (ti_lt c_18) (by decide)
      simp only [f_X5_readOne__14, ↓reduceIte, q_vu_36, eq_false c_10, eq_true c_18] at hE
      exact B29 vu_36 s0 s1 s2 w0 _ _ ls r_p3 (r_vu_36.to (by decide)) o_p0 o_p1 o_p2 hE hw (lv_sub hl [1, 2, 3, 4, 0] rfl)
    · have r_vu_36 : RI vu_36 146 2147483647 := rc_le2 rl_146 r_vu_36 (ti_nlt c_18) (by decide)
      refine lv_iload hx hb dX5_readOne_21 (lv_at hl 0 rfl) ?_
      refine lv_sipush (v := 155) hx hb dX5_readOne_23 (by decide) ?_
      refine lv_icmp_le (tgt := 37) hx hb dX5_readOne_26 (by decide) (fun c_26 => ?_) (fun c_26 => ?_)
      · have r_vu_36 : RI vu_36 146 155 := rc_le1 r_vu_36 rl_155 (ti_le c_26) (by decide)
        simp only [f_X5_readOne__14, ↓reduceIte, q_vu_36, eq_false c_10, eq_false c_18, eq_true c_26] at hE
        exact B37 vu_36 vu_36 s0 s1 s2 w0 _ _ ls r_p3 (r_vu_36.to (by decide)) (r_vu_36.to (by decide)) m_u_36 o_p0 o_p1 o_p2 hE hw (lv_sub hl [1, 2, 3, 4, 0] rfl)
      · have r_vu_36 : RI vu_36 156 2147483647 := rc_lt2 rl_155 r_vu_36 (ti_nle c_26) (by decide)
        simp only [f_X5_readOne__14, ↓reduceIte, q_vu_36, eq_false c_10, eq_false c_18, eq_false c_26] at hE
        exact B29 vu_36 s0 s1 s2 w0 _ _ ls r_p3 (r_vu_36.to (by decide)) o_p0 o_p1 o_p2 hE hw (lv_sub hl [1, 2, 3, 4, 0] rfl)
abbrev wr_X5_readCond__14 : List (Nat × Nat) := [(5, 3), (5, 4), (7, 5), (7, 6), (7, 7), (7, 8), (7, 9), (7, 10), (7, 11)]
abbrev wa_X5_readCond__14 : List Nat := [21]
set_option maxHeartbeats 4000000 in
set_option maxRecDepth 100000 in
theorem c_X5_readCond__14 (l : Launch) (D : va_G) (cy : Nat → ClassId) (z : Nat → Nat) (sz : Nat) (Ps : PSI) (w0 : va_W) (hT : HT cy GG Ps w0) (p0 : Nat) (p1 : Nat) (p2 : Nat) (p3 : Int32) (s0 : OS) (s1 : OS) (s2 : OS) (h_p0 : (p0, 32) ∈ Ps) (h_p1 : (p1, 26) ∈ Ps) (h_p2 : (p2, 25) ∈ Ps) (r_p3 : RI p3 6 6) (o_p0 : OV vw_SENT Ps w0 p0 s0) (o_p1 : OV vw_TAPE Ps w0 p1 s1) (o_p2 : OV vw_POST Ps w0 p2 s2) : Met l yX5_readCond (Cond.code yX5_readCond cX5_readCond 7 none :: gT) ({ frames := 10, cells := 0, slots := 0, locals := 2000 } : Room) (va_Pc [.ref p0, .ref p1, .ref p2, .int p3] (PRE D cy z w0 sz)) (va_Qv (fun (u : va_W) => ((OV vw_SENT Ps u p0 ((f_X5_readCond__14 p3 s0 s1 s2).1) ∧ OV vw_TAPE Ps u p1 ((f_X5_readCond__14 p3 s0 s1 s2).2.1) ∧ OV vw_POST Ps u p2 ((f_X5_readCond__14 p3 s0 s1 s2).2.2) ∧ True) ∧ (True)) ∧ HT cy GG Ps u ∧ FR wr_X5_readCond__14 wa_X5_readCond__14 Ps w0 u) (BB D cy (va_A w0 sz) (fun (u : va_W) => u)) (va_A w0 sz)) 0 0 (va_A w0 sz) := by
  refine Met.ofW (cc := cX5_readCond) (maxL := 7) (ret := none) (by decide) rfl ?_
  intro p e s m args below meth c s₁ B hml hv
  obtain ⟨rfl, hsz, hP, hK, hD0, hSD⟩ := hv
  have hx := B.exec
  have hb := B.bytes
  have hr := B.returns
  have hlocks := B.notSynchronized
  have hts : ∀ w ∈ gT, w.before _ s = true := fun w h => atoms_spec (ws := Cond.code yX5_readCond cX5_readCond 7 none :: gT) B.pre w (List.mem_cons_of_mem _ h)
  have hown : s.vm.findClass RX5 = some m.cls := findClass_of_methodNamed B.named
  subst hsz
  have hD := hD0.self (sz := s.heap.size)
  generalize hAe : va_A w0 s.heap.size = A at hD hSD ⊢
  have hA : ∀ q : Nat, s.heap.size ≤ q → A q := fun q h => by rw [← hAe]; exact Or.inr h
  have hl := lv_entry ([.ref p0, .ref p1, .ref p2, .int p3]) (n := 7) (Nat.le_of_ble_eq_true rfl)
  rw [lg_entry_eq]
  generalize (lg_sl ([.ref p0, .ref p1, .ref p2, .int p3]) ++ List.replicate (7 - (lg_sl ([.ref p0, .ref p1, .ref p2, .int p3])).length) Slot.unset).toArray = ls at hl ⊢
  have hl : lv_has ls 7 [(0, .ref p0), (1, .ref p1), (2, .ref p2), (3, .int p3)] := hl
  refine nameQ (fun Q hQ => ?_)
  have hw : WD D cy GG A s wr_X5_readCond__14 wa_X5_readCond__14 Ps w0 Ps w0 s.heap [] := ⟨hT, hP, hD, va_S.rf, FR.rf, hT.1, [], (List.append_nil _).symm⟩
  obtain ⟨R9, hR⟩ : ∃ q9 : OS × OS × OS, f_X5_readCond__14 p3 s0 s1 s2 = q9 := ⟨_, rfl⟩
  have hE := hR
  have B106 : ∀ (x4 : Int32) (x5 : Int32) (s0 : OS) (s1 : OS) (s2 : OS) (ws : va_W) (H : Heap) (locs : List Loc) (ls : Array Slot), RI p3 6 6 → RI x4 (-2147483648) 2147483647 → RI x5 0 21 → OV vw_SENT Ps ws p0 s0 → OV vw_TAPE Ps ws p1 s1 → OV vw_POST Ps ws p2 s2 → f_X5_readCond__14_106 p3 x4 x5 s0 s1 s2 = R9 → WD D cy GG A s wr_X5_readCond__14 wa_X5_readCond__14 Ps w0 Ps ws H locs → lv_has ls 7 [(0, .ref p0), (1, .ref p1), (2, .ref p2), (3, .int p3), (4, .int x4), (5, .int x5)] → W p l e (headSpec (Cond.code yX5_readCond cX5_readCond 7 none :: gT) ({ frames := 10, cells := 0, slots := 0, locals := 2000 } : Room)).room s m ([.ref p0, .ref p1, .ref p2, .int p3] : List Value).toArray below meth c H locs 0 0 Q (F0 m 106 ls []) := by
    intro x4 x5 s0 s1 s2 ws H locs ls r_p3 r_x4 r_x5 o_p0 o_p1 o_p2 hE hw hl
    refine lv_iload hx hb dX5_readCond_106 (lv_at hl 4 rfl) ?_
    refine lv_if_eq (tgt := 120) hx hb dX5_readCond_108 (by decide) (fun c_108 => ?_) (fun c_108 => ?_)
    · have r_x4 : RI x4 0 0 := rc_eq1 r_x4 rl_0 (ti_eq c_108) (by decide)
      simp only [f_X5_readCond__14_106, ↓reduceIte, eq_true c_108] at hE
      subst hQ
      exact W.vret hx hb hr (fun t ht hW => ⟨⟨ws, rfl, ⟨⟨⟨(by rw [hR, ← hE]; exact o_p0), (by rw [hR, ← hE]; exact o_p1), (by rw [hR, ← hE]; exact o_p2), trivial⟩, trivial⟩, hw.1, hw.2.2.2.2.1⟩, by rw [ht]; exact hw.2.1, va_K.moved hW.alike hK, hw.2.2.1⟩, hw.2.2.2.1.F ht⟩) hw.2.2.2.1.2.2 dX5_readCond_120
    · refine lv_aload_n hx hb dX5_readCond_111 rfl (lv_at hl 0 rfl) ?_
      refine lv_sipush (v := 144) hx hb dX5_readCond_112 (by decide) ?_
      refine lv_iconst (v := 0) hx hb dX5_readCond_115 (by decide) ?_
      refine lv_iconst (v := 0) hx hb dX5_readCond_116 (by decide) ?_
      refine tk_v (va_runV (As := [.int 144, .int 0, .int 0]) (rest := []) ⟨hx, hb, hml, hown, hts⟩ (c_X5_addStep__1 l D cy z H.size Ps ws hw.1 p0 144 0 0 s0 h_p0 (rl_144.to (by decide)) (rl_0.to (by decide)) (rl_0.to (by decide)) o_p0) (cwV 3 hts (gV tw_983 tw_985 ts_33 tw_23 tw_986) rfl rfl rfl (by decide +kernel) ⟨Nat.le_of_ble_eq_true rfl, Nat.le_of_ble_eq_true rfl⟩) (tg_preV hw hK hSD hA (ci := 5) (q := (RX5, TX5, 5)) rfl h_p0 rfl) rfl rfl hl.1 rfl (lv_room (Nat.le_of_ble_eq_true rfl)) dX5_readCond_117 ⟨Nat.le_of_ble_eq_true rfl, Nat.le_of_ble_eq_true rfl⟩) hw hA ⟨by decide, by decide⟩ (fun ws H locs hp_v_1 hw hF9 => ?_)
      obtain ⟨hfn, hp_v_1⟩ := hp_v_1
      have o_p1 := OV.over (V := vw_TAPE) hF9 o_p1 (by decide)
      have o_p2 := OV.over (V := vw_POST) hF9 o_p2 (by decide)
      obtain ⟨sg_2, q_sg_2⟩ : ∃ q9 : OS, (f_X5_addStep__1 (144 : Int32) (0 : Int32) (0 : Int32) s0) = q9 := ⟨_, rfl⟩
      have o_p0 : OV vw_SENT Ps ws p0 sg_2 := by rw [← q_sg_2]; exact hfn.1
      obtain ⟨v_3, m_v_3, r_v_3⟩ := (hp_v_1.1)
      simp only [f_X5_readCond__14_106, ↓reduceIte, eq_false c_108, q_sg_2] at hE
      subst hQ
      exact W.vret hx hb hr (fun t ht hW => ⟨⟨ws, rfl, ⟨⟨⟨(by rw [hR, ← hE]; exact o_p0), (by rw [hR, ← hE]; exact o_p1), (by rw [hR, ← hE]; exact o_p2), trivial⟩, trivial⟩, hw.1, hw.2.2.2.2.1⟩, by rw [ht]; exact hw.2.1, va_K.moved hW.alike hK, hw.2.2.1⟩, hw.2.2.2.1.F ht⟩) hw.2.2.2.1.2.2 dX5_readCond_120
  have B13 : ∀ (nf : Nat) (x4 : Int32) (x5 : Int32) (s0 : OS) (s1 : OS) (s2 : OS) (ws : va_W) (H : Heap) (locs : List Loc) (ls : Array Slot), 20 - x5.toInt < (nf : Int) → RI p3 6 6 → RI x4 (-2147483648) 2147483647 → RI x5 0 20 → OV vw_SENT Ps ws p0 s0 → OV vw_TAPE Ps ws p1 s1 → OV vw_POST Ps ws p2 s2 → f_X5_readCond__14_13 p3 nf x4 x5 s0 s1 s2 = R9 → WD D cy GG A s wr_X5_readCond__14 wa_X5_readCond__14 Ps w0 Ps ws H locs → lv_has ls 7 [(0, .ref p0), (1, .ref p1), (2, .ref p2), (3, .int p3), (4, .int x4), (5, .int x5)] → W p l e (headSpec (Cond.code yX5_readCond cX5_readCond 7 none :: gT) ({ frames := 10, cells := 0, slots := 0, locals := 2000 } : Room)).room s m ([.ref p0, .ref p1, .ref p2, .int p3] : List Value).toArray below meth c H locs 0 0 Q (F0 m 13 ls []) := by
    intro nf13
    induction nf13 with
    | zero =>
      intro x4 x5 s0 s1 s2 ws H locs ls hn13 r_p3 r_x4 r_x5 o_p0 o_p1 o_p2 hE hw hl
      exact absurd hn13 (by have q0 := r_x5.1; have u0 := r_x5.2; omega)
    | succ nf13 ih13 =>
      have B72 : ∀ (x4 : Int32) (x5 : Int32) (x6 : Int32) (s0 : OS) (s1 : OS) (s2 : OS) (ws : va_W) (H : Heap) (locs : List Loc) (ls : Array Slot), RI p3 6 6 → RI x4 (-2147483648) 2147483647 → RI x5 0 19 → RI x6 0 1 → OV vw_SENT Ps ws p0 s0 → OV vw_TAPE Ps ws p1 s1 → OV vw_POST Ps ws p2 s2 → 20 - x5.toInt < ((nf13 + 1 : Nat) : Int) → f_X5_readCond__14_72 (f_X5_readCond__14_13 p3 nf13) p3 x4 x5 x6 s0 s1 s2 = R9 → WD D cy GG A s wr_X5_readCond__14 wa_X5_readCond__14 Ps w0 Ps ws H locs → lv_has ls 7 [(0, .ref p0), (1, .ref p1), (2, .ref p2), (3, .int p3), (4, .int x4), (5, .int x5), (6, .int x6)] → W p l e (headSpec (Cond.code yX5_readCond cX5_readCond 7 none :: gT) ({ frames := 10, cells := 0, slots := 0, locals := 2000 } : Room)).room s m ([.ref p0, .ref p1, .ref p2, .int p3] : List Value).toArray below meth c H locs 0 0 Q (F0 m 72 ls []) := by
        intro x4 x5 x6 s0 s1 s2 ws H locs ls r_p3 r_x4 r_x5 r_x6 o_p0 o_p1 o_p2 hn13 hE hw hl
        refine lv_iload hx hb dX5_readCond_72 (lv_at hl 4 rfl) ?_
        refine lv_iload hx hb dX5_readCond_74 (lv_at hl 6 rfl) ?_
        refine lv_ior hx hb dX5_readCond_76 (lv_topi (fun v_4 e_v_4 => ?_))
        have r_v_4 := ri_any v_4
        have q_v_4 : x4 ||| x6 = v_4 := e_v_4.symm
        refine lv_istore (lv' := [(4, .int v_4), (0, .ref p0), (1, .ref p1), (2, .ref p2), (3, .int p3), (5, .int x5), (6, .int x6)]) hx hb dX5_readCond_77 hl (by decide) rfl (fun ls hl => ?_)
        refine lv_aload_n hx hb dX5_readCond_79 rfl (lv_at hl 1 rfl) ?_
        refine lv_aload_n hx hb dX5_readCond_80 rfl (lv_at hl 2 rfl) ?_
        refine lv_aload_n hx hb dX5_readCond_81 rfl (lv_at hl 3 rfl) ?_
        refine lv_iload_n hx hb dX5_readCond_82 rfl (lv_at hl 4 rfl) ?_
        refine tk_v (va_runV (As := [.ref p1, .ref p2, .int p3]) (rest := []) ⟨hx, hb, hml, hown, hts⟩ (c_X5_readOne__14 l D cy z H.size Ps ws hw.1 p0 p1 p2 p3 s0 s1 s2 h_p0 h_p1 h_p2 r_p3 o_p0 o_p1 o_p2) (cwV 3 hts (gV tw_977 tw_979 ts_32 tw_23 tw_980) rfl rfl rfl (by decide +kernel) ⟨Nat.le_of_ble_eq_true rfl, Nat.le_of_ble_eq_true rfl⟩) (tg_preV hw hK hSD hA (ci := 5) (q := (RX5, TX5, 5)) rfl h_p0 rfl) rfl rfl hl.1 rfl (lv_room (Nat.le_of_ble_eq_true rfl)) dX5_readCond_83 ⟨Nat.le_of_ble_eq_true rfl, Nat.le_of_ble_eq_true rfl⟩) hw hA ⟨by decide, by decide⟩ (fun ws H locs hp_v_5 hw hF9 => ?_)
        obtain ⟨hfn, hp_v_5⟩ := hp_v_5
        obtain ⟨sg_6, q_sg_6⟩ : ∃ q9 : OS, (f_X5_readOne__14 p3 s0 s1 s2).1 = q9 := ⟨_, rfl⟩
        have o_p0 : OV vw_SENT Ps ws p0 sg_6 := by rw [← q_sg_6]; exact hfn.1
        obtain ⟨sg_7, q_sg_7⟩ : ∃ q9 : OS, (f_X5_readOne__14 p3 s0 s1 s2).2.1 = q9 := ⟨_, rfl⟩
        have o_p1 : OV vw_TAPE Ps ws p1 sg_7 := by rw [← q_sg_7]; exact hfn.2.1
        obtain ⟨sg_8, q_sg_8⟩ : ∃ q9 : OS, (f_X5_readOne__14 p3 s0 s1 s2).2.2 = q9 := ⟨_, rfl⟩
        have o_p2 : OV vw_POST Ps ws p2 sg_8 := by rw [← q_sg_8]; exact hfn.2.2.1
        refine lv_iload hx hb dX5_readCond_86 (lv_at hl 6 rfl) ?_
        refine lv_if_ne (tgt := 100) hx hb dX5_readCond_88 (by decide) (fun c_88 => ?_) (fun c_88 => ?_)
        · have r_x6 : RI x6 1 1 := rc_neL r_x6 rl_0 (ti_ne c_88) (by decide)
          obtain ⟨v_9, e_v_9⟩ : ∃ q9 : Int32, q9 = x5 + Int32.ofInt 1 := ⟨_, rfl⟩
          obtain ⟨t_v_9, r_v_9⟩ := tq_add (lo := 1) (hi := 20) r_x5 (show RI (Int32.ofInt 1) 1 1 by unfold RI; decide +kernel) (by decide +kernel) e_v_9
          have t_v_9 : v_9.toInt = x5.toInt + 1 := t_v_9
          refine lv_iinc (v := v_9) (lv' := [(5, .int v_9), (4, .int v_4), (0, .ref p0), (1, .ref p1), (2, .ref p2), (3, .int p3), (6, .int x6)]) hx hb dX5_readCond_100 hl (k := 5) rfl e_v_9.symm (by decide) rfl (fun ls hl => ?_)
          have q_v_9 : x5 + (1 : Int32) = v_9 := by rw [e_v_9, show Int32.ofInt 1 = (1 : Int32) by decide]
          refine lv_goto (tgt := 13) hx hb dX5_readCond_103 (by decide) ?_
          simp only [f_X5_readCond__14_72, ↓reduceIte, q_v_4, q_sg_6, q_sg_7, q_sg_8, eq_false c_88, q_v_9] at hE
          exact ih13 v_4 v_9 sg_6 sg_7 sg_8 ws _ _ ls (by have q0 := r_v_9.1; have u0 := r_v_9.2; have o0 := r_x5.1; have p0 := r_x5.2; omega) r_p3 r_v_4 (r_v_9.to (by decide)) o_p0 o_p1 o_p2 hE hw (lv_sub hl [2, 3, 4, 5, 1, 0] rfl)
        · have r_x6 : RI x6 0 0 := rc_eq1 r_x6 rl_0 (ti_eq c_88) (by decide)
          refine lv_aload_n hx hb dX5_readCond_91 rfl (lv_at hl 1 rfl) ?_
          refine lv_sipush (v := 145) hx hb dX5_readCond_92 (by decide) ?_
          refine lv_iconst (v := 0) hx hb dX5_readCond_95 (by decide) ?_
          refine lv_iconst (v := 0) hx hb dX5_readCond_96 (by decide) ?_
          refine tk_v (va_runV (As := [.int 145, .int 0, .int 0]) (rest := []) ⟨hx, hb, hml, hown, hts⟩ (c_X5_addStep__1 l D cy z H.size Ps ws hw.1 p0 145 0 0 sg_6 h_p0 (rl_145.to (by decide)) (rl_0.to (by decide)) (rl_0.to (by decide)) o_p0) (cwV 3 hts (gV tw_983 tw_985 ts_33 tw_23 tw_986) rfl rfl rfl (by decide +kernel) ⟨Nat.le_of_ble_eq_true rfl, Nat.le_of_ble_eq_true rfl⟩) (tg_preV hw hK hSD hA (ci := 5) (q := (RX5, TX5, 5)) rfl h_p0 rfl) rfl rfl hl.1 rfl (lv_room (Nat.le_of_ble_eq_true rfl)) dX5_readCond_97 ⟨Nat.le_of_ble_eq_true rfl, Nat.le_of_ble_eq_true rfl⟩) hw hA ⟨by decide, by decide⟩ (fun ws H locs hp_v_10 hw hF9 => ?_)
          obtain ⟨hfn, hp_v_10⟩ := hp_v_10
          have o_p1 := OV.over (V := vw_TAPE) hF9 o_p1 (by decide)
          have o_p2 := OV.over (V := vw_POST) hF9 o_p2 (by decide)
          obtain ⟨sg_11, q_sg_11⟩ : ∃ q9 : OS, (f_X5_addStep__1 (145 : Int32) (0 : Int32) (0 : Int32) sg_6) = q9 := ⟨_, rfl⟩
          have o_p0 : OV vw_SENT Ps ws p0 sg_11 := by rw [← q_sg_11]; exact hfn.1
          obtain ⟨v_12, m_v_12, r_v_12⟩ := (hp_v_10.1)
          obtain ⟨v_13, e_v_13⟩ : ∃ q9 : Int32, q9 = x5 + Int32.ofInt 1 := ⟨_, rfl⟩
          obtain ⟨t_v_13, r_v_13⟩ := tq_add (lo := 1) (hi := 20) r_x5 (show RI (Int32.ofInt 1) 1 1 by unfold RI; decide +kernel) (by decide +kernel) e_v_13
          have t_v_13 : v_13.toInt = x5.toInt + 1 := t_v_13
          refine lv_iinc (v := v_13) (lv' := [(5, .int v_13), (4, .int v_4), (0, .ref p0), (1, .ref p1), (2, .ref p2), (3, .int p3), (6, .int x6)]) hx hb dX5_readCond_100 hl (k := 5) rfl e_v_13.symm (by decide) rfl (fun ls hl => ?_)
          have q_v_13 : x5 + (1 : Int32) = v_13 := by rw [e_v_13, show Int32.ofInt 1 = (1 : Int32) by decide]
          refine lv_goto (tgt := 13) hx hb dX5_readCond_103 (by decide) ?_
          simp only [f_X5_readCond__14_72, ↓reduceIte, q_v_4, q_sg_6, q_sg_7, q_sg_8, eq_true c_88, q_sg_11, q_v_13] at hE
          exact ih13 v_4 v_13 sg_11 sg_7 sg_8 ws _ _ ls (by have q0 := r_v_13.1; have u0 := r_v_13.2; have o0 := r_x5.1; have p0 := r_x5.2; omega) r_p3 r_v_4 (r_v_13.to (by decide)) o_p0 o_p1 o_p2 hE hw (lv_sub hl [2, 3, 4, 5, 1, 0] rfl)
      have B40 : ∀ (x4 : Int32) (x5 : Int32) (s0 : OS) (s1 : OS) (s2 : OS) (ws : va_W) (H : Heap) (locs : List Loc) (ls : Array Slot), RI p3 6 6 → RI x4 (-2147483648) 2147483647 → RI x5 0 19 → OV vw_SENT Ps ws p0 s0 → OV vw_TAPE Ps ws p1 s1 → OV vw_POST Ps ws p2 s2 → 20 - x5.toInt < ((nf13 + 1 : Nat) : Int) → f_X5_readCond__14_40 (f_X5_readCond__14_13 p3 nf13) p3 x4 x5 s0 s1 s2 = R9 → WD D cy GG A s wr_X5_readCond__14 wa_X5_readCond__14 Ps w0 Ps ws H locs → lv_has ls 7 [(0, .ref p0), (1, .ref p1), (2, .ref p2), (3, .int p3), (4, .int x4), (5, .int x5)] → W p l e (headSpec (Cond.code yX5_readCond cX5_readCond 7 none :: gT) ({ frames := 10, cells := 0, slots := 0, locals := 2000 } : Room)).room s m ([.ref p0, .ref p1, .ref p2, .int p3] : List Value).toArray below meth c H locs 0 0 Q (F0 m 40 ls []) := by
        intro x4 x5 s0 s1 s2 ws H locs ls r_p3 r_x4 r_x5 o_p0 o_p1 o_p2 hn13 hE hw hl
        refine lv_aload_n hx hb dX5_readCond_40 rfl (lv_at hl 1 rfl) ?_
        refine lv_sipush (v := 144) hx hb dX5_readCond_41 (by decide) ?_
        refine tk_ir (va_runV (As := [.int 144]) (rest := []) ⟨hx, hb, hml, hown, hts⟩ (c_X7_sees__1 l D cy z H.size Ps ws hw.1 p1 144 s1 h_p1 (rl_144.to (by decide)) o_p1) (cwV 1 hts (gV tw_994 tw_995 tw_996 tw_2 tw_997) rfl rfl rfl (by decide +kernel) ⟨Nat.le_of_ble_eq_true rfl, Nat.le_of_ble_eq_true rfl⟩) (tg_preV hw hK hSD hA (ci := 7) (q := (RX7, TX7, 12)) rfl h_p1 rfl) rfl rfl hl.1 rfl (lv_room (Nat.le_of_ble_eq_true rfl)) dX5_readCond_44 ⟨Nat.le_of_ble_eq_true rfl, Nat.le_of_ble_eq_true rfl⟩) hw hA (fun v_14  H locs hp_v_14 hw => ?_)
        obtain ⟨hfn, hp_v_14⟩ := hp_v_14
        have q_v_14 : (f_X7_sees__1 (144 : Int32) s1) = v_14 := hfn.1
        have r_v_14 : RI v_14 0 1 := hp_v_14.1
        refine lv_istore (lv' := [(6, .int v_14), (0, .ref p0), (1, .ref p1), (2, .ref p2), (3, .int p3), (4, .int x4), (5, .int x5)]) hx hb dX5_readCond_47 hl (by decide) rfl (fun ls hl => ?_)
        refine lv_aload_n hx hb dX5_readCond_49 rfl (lv_at hl 2 rfl) ?_
        refine tk_v (va_runV (As := []) (rest := []) ⟨hx, hb, hml, hown, hts⟩ (c_X7_pass__6 l D cy z H.size Ps ws hw.1 p1 s1 h_p1 o_p1) (cwV 0 hts (gV tw_982 tw_425 tw_426 tw_2 tw_427) rfl rfl rfl (by decide +kernel) ⟨Nat.le_of_ble_eq_true rfl, Nat.le_of_ble_eq_true rfl⟩) (tg_preV hw hK hSD hA (ci := 7) (q := (RX7, TX7, 12)) rfl h_p1 rfl) rfl rfl hl.1 rfl (lv_room (Nat.le_of_ble_eq_true rfl)) dX5_readCond_50 ⟨Nat.le_of_ble_eq_true rfl, Nat.le_of_ble_eq_true rfl⟩) hw hA ⟨by decide, by decide⟩ (fun ws H locs hp_v_15 hw hF9 => ?_)
        obtain ⟨hfn, hp_v_15⟩ := hp_v_15
        have o_p0 := OV.over (V := vw_SENT) hF9 o_p0 (by decide)
        have o_p2 := OV.over (V := vw_POST) hF9 o_p2 (by decide)
        obtain ⟨sg_16, q_sg_16⟩ : ∃ q9 : OS, (f_X7_pass__6 s1) = q9 := ⟨_, rfl⟩
        have o_p1 : OV vw_TAPE Ps ws p1 sg_16 := by rw [← q_sg_16]; exact hfn.1
        refine lv_iload hx hb dX5_readCond_53 (lv_at hl 0 rfl) ?_
        refine lv_if_eq (tgt := 72) hx hb dX5_readCond_55 (by decide) (fun c_55 => ?_) (fun c_55 => ?_)
        · have r_v_14 : RI v_14 0 0 := rc_eq1 r_v_14 rl_0 (ti_eq c_55) (by decide)
          simp only [f_X5_readCond__14_40, ↓reduceIte, q_v_14, q_sg_16, eq_true c_55] at hE
          exact B72 x4 x5 v_14 s0 sg_16 s2 ws _ _ ls r_p3 r_x4 r_x5 (r_v_14.to (by decide)) o_p0 o_p1 o_p2 (by have q0 := r_x5.1; have u0 := r_x5.2; omega) hE hw (lv_sub hl [1, 2, 3, 4, 5, 6, 0] rfl)
        · have r_v_14 : RI v_14 1 1 := rc_neL r_v_14 rl_0 (ti_ne c_55) (by decide)
          refine lv_iload hx hb dX5_readCond_58 (lv_at hl 5 rfl) ?_
          refine lv_if_eq (tgt := 72) hx hb dX5_readCond_60 (by decide) (fun c_60 => ?_) (fun c_60 => ?_)
          · have r_x4 : RI x4 0 0 := rc_eq1 r_x4 rl_0 (ti_eq c_60) (by decide)
            simp only [f_X5_readCond__14_40, ↓reduceIte, q_v_14, q_sg_16, eq_false c_55, eq_true c_60] at hE
            exact B72 x4 x5 v_14 s0 sg_16 s2 ws _ _ ls r_p3 (r_x4.to (by decide)) r_x5 (r_v_14.to (by decide)) o_p0 o_p1 o_p2 (by have q0 := r_x5.1; have u0 := r_x5.2; omega) hE hw (lv_sub hl [1, 2, 3, 4, 5, 6, 0] rfl)
          · refine lv_aload_n hx hb dX5_readCond_63 rfl (lv_at hl 1 rfl) ?_
            refine lv_sipush (v := 144) hx hb dX5_readCond_64 (by decide) ?_
            refine lv_iconst (v := 0) hx hb dX5_readCond_67 (by decide) ?_
            refine lv_iconst (v := 0) hx hb dX5_readCond_68 (by decide) ?_
            refine tk_v (va_runV (As := [.int 144, .int 0, .int 0]) (rest := []) ⟨hx, hb, hml, hown, hts⟩ (c_X5_addStep__1 l D cy z H.size Ps ws hw.1 p0 144 0 0 s0 h_p0 (rl_144.to (by decide)) (rl_0.to (by decide)) (rl_0.to (by decide)) o_p0) (cwV 3 hts (gV tw_983 tw_985 ts_33 tw_23 tw_986) rfl rfl rfl (by decide +kernel) ⟨Nat.le_of_ble_eq_true rfl, Nat.le_of_ble_eq_true rfl⟩) (tg_preV hw hK hSD hA (ci := 5) (q := (RX5, TX5, 5)) rfl h_p0 rfl) rfl rfl hl.1 rfl (lv_room (Nat.le_of_ble_eq_true rfl)) dX5_readCond_69 ⟨Nat.le_of_ble_eq_true rfl, Nat.le_of_ble_eq_true rfl⟩) hw hA ⟨by decide, by decide⟩ (fun ws H locs hp_v_17 hw hF9 => ?_)
            obtain ⟨hfn, hp_v_17⟩ := hp_v_17
            have o_p1 := OV.over (V := vw_TAPE) hF9 o_p1 (by decide)
            have o_p2 := OV.over (V := vw_POST) hF9 o_p2 (by decide)
            obtain ⟨sg_18, q_sg_18⟩ : ∃ q9 : OS, (f_X5_addStep__1 (144 : Int32) (0 : Int32) (0 : Int32) s0) = q9 := ⟨_, rfl⟩
            have o_p0 : OV vw_SENT Ps ws p0 sg_18 := by rw [← q_sg_18]; exact hfn.1
            obtain ⟨v_19, m_v_19, r_v_19⟩ := (hp_v_17.1)
            simp only [f_X5_readCond__14_40, ↓reduceIte, q_v_14, q_sg_16, eq_false c_55, eq_false c_60, q_sg_18] at hE
            exact B72 x4 x5 v_14 sg_18 sg_16 s2 ws _ _ ls r_p3 r_x4 r_x5 (r_v_14.to (by decide)) o_p0 o_p1 o_p2 (by have q0 := r_x5.1; have u0 := r_x5.2; omega) hE hw (lv_sub hl [1, 2, 3, 4, 5, 6, 0] rfl)
      intro x4 x5 s0 s1 s2 ws H locs ls hn13 r_p3 r_x4 r_x5 o_p0 o_p1 o_p2 hE hw hl
      refine lv_iload hx hb dX5_readCond_13 (lv_at hl 5 rfl) ?_
      refine lv_bipush (v := 20) hx hb dX5_readCond_15 (by decide) ?_
      refine lv_icmp_ge (tgt := 106) hx hb dX5_readCond_17 (by decide) (fun c_17 => ?_) (fun c_17 => ?_)
      · have r_x5 : RI x5 20 20 := rc_le2 rl_20 r_x5 (ti_le c_17) (by decide)
        simp only [f_X5_readCond__14_13, ↓reduceIte, eq_true c_17] at hE
        exact B106 x4 x5 s0 s1 s2 ws _ _ ls r_p3 r_x4 (r_x5.to (by decide)) o_p0 o_p1 o_p2 hE hw hl
      · have r_x5 : RI x5 0 19 := rc_lt1 r_x5 rl_20 (ti_nle c_17) (by decide)
        refine lv_aload_n hx hb dX5_readCond_20 rfl (lv_at hl 1 rfl) ?_
        refine lv_sipush (v := 144) hx hb dX5_readCond_21 (by decide) ?_
        refine tk_ir (va_runV (As := [.int 144]) (rest := []) ⟨hx, hb, hml, hown, hts⟩ (c_X7_sees__1 l D cy z H.size Ps ws hw.1 p1 144 s1 h_p1 (rl_144.to (by decide)) o_p1) (cwV 1 hts (gV tw_994 tw_995 tw_996 tw_2 tw_997) rfl rfl rfl (by decide +kernel) ⟨Nat.le_of_ble_eq_true rfl, Nat.le_of_ble_eq_true rfl⟩) (tg_preV hw hK hSD hA (ci := 7) (q := (RX7, TX7, 12)) rfl h_p1 rfl) rfl rfl hl.1 rfl (lv_room (Nat.le_of_ble_eq_true rfl)) dX5_readCond_24 ⟨Nat.le_of_ble_eq_true rfl, Nat.le_of_ble_eq_true rfl⟩) hw hA (fun v_20  H locs hp_v_20 hw => ?_)
        obtain ⟨hfn, hp_v_20⟩ := hp_v_20
        have q_v_20 : (f_X7_sees__1 (144 : Int32) s1) = v_20 := hfn.1
        have r_v_20 : RI v_20 0 1 := hp_v_20.1
        refine lv_if_ne (tgt := 40) hx hb dX5_readCond_27 (by decide) (fun c_27 => ?_) (fun c_27 => ?_)
        · have r_v_20 : RI v_20 1 1 := rc_neL r_v_20 rl_0 (ti_ne c_27) (by decide)
          simp only [f_X5_readCond__14_13, ↓reduceIte, eq_false c_17, q_v_20, eq_false c_27] at hE
          exact B40 x4 x5 s0 s1 s2 ws _ _ ls r_p3 r_x4 r_x5 o_p0 o_p1 o_p2 (by have q0 := r_x5.1; have u0 := r_x5.2; omega) hE hw hl
        · have r_v_20 : RI v_20 0 0 := rc_eq1 r_v_20 rl_0 (ti_eq c_27) (by decide)
          refine lv_aload_n hx hb dX5_readCond_30 rfl (lv_at hl 1 rfl) ?_
          refine lv_sipush (v := 145) hx hb dX5_readCond_31 (by decide) ?_
          refine tk_ir (va_runV (As := [.int 145]) (rest := []) ⟨hx, hb, hml, hown, hts⟩ (c_X7_sees__1 l D cy z H.size Ps ws hw.1 p1 145 s1 h_p1 (rl_145.to (by decide)) o_p1) (cwV 1 hts (gV tw_994 tw_995 tw_996 tw_2 tw_997) rfl rfl rfl (by decide +kernel) ⟨Nat.le_of_ble_eq_true rfl, Nat.le_of_ble_eq_true rfl⟩) (tg_preV hw hK hSD hA (ci := 7) (q := (RX7, TX7, 12)) rfl h_p1 rfl) rfl rfl hl.1 rfl (lv_room (Nat.le_of_ble_eq_true rfl)) dX5_readCond_34 ⟨Nat.le_of_ble_eq_true rfl, Nat.le_of_ble_eq_true rfl⟩) hw hA (fun v_21  H locs hp_v_21 hw => ?_)
          obtain ⟨hfn, hp_v_21⟩ := hp_v_21
          have q_v_21 : (f_X7_sees__1 (145 : Int32) s1) = v_21 := hfn.1
          have r_v_21 : RI v_21 0 1 := hp_v_21.1
          refine lv_if_eq (tgt := 106) hx hb dX5_readCond_37 (by decide) (fun c_37 => ?_) (fun c_37 => ?_)
          · have r_v_21 : RI v_21 0 0 := rc_eq1 r_v_21 rl_0 (ti_eq c_37) (by decide)
            simp only [f_X5_readCond__14_13, ↓reduceIte, eq_false c_17, q_v_20, eq_true c_27, q_v_21, eq_true c_37] at hE
            exact B106 x4 x5 s0 s1 s2 ws _ _ ls r_p3 r_x4 (r_x5.to (by decide)) o_p0 o_p1 o_p2 hE hw hl
          · have r_v_21 : RI v_21 1 1 := rc_neL r_v_21 rl_0 (ti_ne c_37) (by decide)
            simp only [f_X5_readCond__14_13, ↓reduceIte, eq_false c_17, q_v_20, eq_true c_27, q_v_21, eq_false c_37] at hE
            exact B40 x4 x5 s0 s1 s2 ws _ _ ls r_p3 r_x4 r_x5 o_p0 o_p1 o_p2 (by have q0 := r_x5.1; have u0 := r_x5.2; omega) hE hw hl
  refine lv_iconst (v := 0) hx hb dX5_readCond_0 (by decide) ?_
  refine lv_istore (lv' := [(4, .int 0), (0, .ref p0), (1, .ref p1), (2, .ref p2), (3, .int p3)]) hx hb dX5_readCond_1 hl (by decide) rfl (fun ls hl => ?_)
  refine lv_aload_n hx hb dX5_readCond_3 rfl (lv_at hl 1 rfl) ?_
  refine lv_aload_n hx hb dX5_readCond_4 rfl (lv_at hl 2 rfl) ?_
  refine lv_aload_n hx hb dX5_readCond_5 rfl (lv_at hl 3 rfl) ?_
  refine lv_iload_n hx hb dX5_readCond_6 rfl (lv_at hl 4 rfl) ?_
  refine tk_v (va_runV (As := [.ref p1, .ref p2, .int p3]) (rest := []) ⟨hx, hb, hml, hown, hts⟩ (c_X5_readOne__14 l D cy z s.heap.size Ps w0 hw.1 p0 p1 p2 p3 s0 s1 s2 h_p0 h_p1 h_p2 r_p3 o_p0 o_p1 o_p2) (cwV 3 hts (gV tw_977 tw_979 ts_32 tw_23 tw_980) rfl rfl rfl (by decide +kernel) ⟨Nat.le_of_ble_eq_true rfl, Nat.le_of_ble_eq_true rfl⟩) (tg_preV hw hK hSD hA (ci := 5) (q := (RX5, TX5, 5)) rfl h_p0 rfl) rfl rfl hl.1 rfl (lv_room (Nat.le_of_ble_eq_true rfl)) dX5_readCond_7 ⟨Nat.le_of_ble_eq_true rfl, Nat.le_of_ble_eq_true rfl⟩) hw hA ⟨by decide, by decide⟩ (fun ws H locs hp_v_22 hw hF9 => ?_)
  obtain ⟨hfn, hp_v_22⟩ := hp_v_22
  obtain ⟨sg_23, q_sg_23⟩ : ∃ q9 : OS, (f_X5_readOne__14 p3 s0 s1 s2).1 = q9 := ⟨_, rfl⟩
  have o_p0 : OV vw_SENT Ps ws p0 sg_23 := by rw [← q_sg_23]; exact hfn.1
  obtain ⟨sg_24, q_sg_24⟩ : ∃ q9 : OS, (f_X5_readOne__14 p3 s0 s1 s2).2.1 = q9 := ⟨_, rfl⟩
  have o_p1 : OV vw_TAPE Ps ws p1 sg_24 := by rw [← q_sg_24]; exact hfn.2.1
  obtain ⟨sg_25, q_sg_25⟩ : ∃ q9 : OS, (f_X5_readOne__14 p3 s0 s1 s2).2.2 = q9 := ⟨_, rfl⟩
  have o_p2 : OV vw_POST Ps ws p2 sg_25 := by rw [← q_sg_25]; exact hfn.2.2.1
  refine lv_iconst (v := 0) hx hb dX5_readCond_10 (by decide) ?_
  refine lv_istore (lv' := [(5, .int 0), (4, .int 0), (0, .ref p0), (1, .ref p1), (2, .ref p2), (3, .int p3)]) hx hb dX5_readCond_11 hl (by decide) rfl (fun ls hl => ?_)
  simp only [f_X5_readCond__14, ↓reduceIte, q_sg_23, q_sg_24, q_sg_25] at hE
  exact B13 4294967298 0 0 sg_23 sg_24 sg_25 ws _ _ ls (by have q0 := rl_0.1; have u0 := rl_0.2; omega) r_p3 (rl_0.to (by decide)) (rl_0.to (by decide)) o_p0 o_p1 o_p2 hE hw (lv_sub hl [2, 3, 4, 5, 1, 0] rfl)
abbrev wr_X5_readOne__13 : List (Nat × Nat) := [(5, 3), (5, 4), (7, 5), (7, 6), (7, 7), (7, 8), (7, 9), (7, 10), (7, 11)]
abbrev wa_X5_readOne__13 : List Nat := [21]
set_option maxHeartbeats 4000000 in
set_option maxRecDepth 100000 in
theorem c_X5_readOne__13 (l : Launch) (D : va_G) (cy : Nat → ClassId) (z : Nat → Nat) (sz : Nat) (Ps : PSI) (w0 : va_W) (hT : HT cy GG Ps w0) (p0 : Nat) (p1 : Nat) (p2 : Nat) (p3 : Int32) (s0 : OS) (s1 : OS) (s2 : OS) (h_p0 : (p0, 32) ∈ Ps) (h_p1 : (p1, 26) ∈ Ps) (h_p2 : (p2, 25) ∈ Ps) (r_p3 : RI p3 5 5) (o_p0 : OV vw_SENT Ps w0 p0 s0) (o_p1 : OV vw_TAPE Ps w0 p1 s1) (o_p2 : OV vw_POST Ps w0 p2 s2) : Met l yX5_readOne (Cond.code yX5_readOne cX5_readOne 5 none :: gT) ({ frames := 11, cells := 0, slots := 0, locals := 2200 } : Room) (va_Pc [.ref p0, .ref p1, .ref p2, .int p3] (PRE D cy z w0 sz)) (va_Qv (fun (u : va_W) => ((OV vw_SENT Ps u p0 ((f_X5_readOne__13 p3 s0 s1 s2).1) ∧ OV vw_TAPE Ps u p1 ((f_X5_readOne__13 p3 s0 s1 s2).2.1) ∧ OV vw_POST Ps u p2 ((f_X5_readOne__13 p3 s0 s1 s2).2.2) ∧ True) ∧ (True)) ∧ HT cy GG Ps u ∧ FR wr_X5_readOne__13 wa_X5_readOne__13 Ps w0 u) (BB D cy (va_A w0 sz) (fun (u : va_W) => u)) (va_A w0 sz)) 0 0 (va_A w0 sz) := by
  refine Met.ofW (cc := cX5_readOne) (maxL := 5) (ret := none) (by decide) rfl ?_
  intro p e s m args below meth c s₁ B hml hv
  obtain ⟨rfl, hsz, hP, hK, hD0, hSD⟩ := hv
  have hx := B.exec
  have hb := B.bytes
  have hr := B.returns
  have hlocks := B.notSynchronized
  have hts : ∀ w ∈ gT, w.before _ s = true := fun w h => atoms_spec (ws := Cond.code yX5_readOne cX5_readOne 5 none :: gT) B.pre w (List.mem_cons_of_mem _ h)
  have hown : s.vm.findClass RX5 = some m.cls := findClass_of_methodNamed B.named
  subst hsz
  have hD := hD0.self (sz := s.heap.size)
  generalize hAe : va_A w0 s.heap.size = A at hD hSD ⊢
  have hA : ∀ q : Nat, s.heap.size ≤ q → A q := fun q h => by rw [← hAe]; exact Or.inr h
  have hl := lv_entry ([.ref p0, .ref p1, .ref p2, .int p3]) (n := 5) (Nat.le_of_ble_eq_true rfl)
  rw [lg_entry_eq]
  generalize (lg_sl ([.ref p0, .ref p1, .ref p2, .int p3]) ++ List.replicate (5 - (lg_sl ([.ref p0, .ref p1, .ref p2, .int p3])).length) Slot.unset).toArray = ls at hl ⊢
  have hl : lv_has ls 5 [(0, .ref p0), (1, .ref p1), (2, .ref p2), (3, .int p3)] := hl
  refine nameQ (fun Q hQ => ?_)
  have hw : WD D cy GG A s wr_X5_readOne__13 wa_X5_readOne__13 Ps w0 Ps w0 s.heap [] := ⟨hT, hP, hD, va_S.rf, FR.rf, hT.1, [], (List.append_nil _).symm⟩
  obtain ⟨R9, hR⟩ : ∃ q9 : OS × OS × OS, f_X5_readOne__13 p3 s0 s1 s2 = q9 := ⟨_, rfl⟩
  have hE := hR
  have B57 : ∀ (x4 : Int32) (s0 : OS) (s1 : OS) (s2 : OS) (ws : va_W) (H : Heap) (locs : List Loc) (ls : Array Slot), RI p3 5 5 → RI x4 (-2147483648) 2147483647 → OV vw_SENT Ps ws p0 s0 → OV vw_TAPE Ps ws p1 s1 → OV vw_POST Ps ws p2 s2 → f_X5_readOne__13_57 p3 x4 s0 s1 s2 = R9 → WD D cy GG A s wr_X5_readOne__13 wa_X5_readOne__13 Ps w0 Ps ws H locs → lv_has ls 5 [(0, .ref p0), (1, .ref p1), (2, .ref p2), (3, .int p3), (4, .int x4)] → W p l e (headSpec (Cond.code yX5_readOne cX5_readOne 5 none :: gT) ({ frames := 11, cells := 0, slots := 0, locals := 2200 } : Room)).room s m ([.ref p0, .ref p1, .ref p2, .int p3] : List Value).toArray below meth c H locs 0 0 Q (F0 m 57 ls []) := by
    intro x4 s0 s1 s2 ws H locs ls r_p3 r_x4 o_p0 o_p1 o_p2 hE hw hl
    refine lv_aload_n hx hb dX5_readOne_57 rfl (lv_at hl 1 rfl) ?_
    refine tg_getN (ci := 7) (ts := ty_TAPE) (C := RX7) (T := TX7) (N := 12) hx hb hts inX7 hown hK hw h_p1 rfl rfl 10 (by decide) (hSD.nest tn_103) (fun _ h9 => h9) (ft := vI 0 4) rfl dX5_readOne_58 (fun u_1 hv_u_1 m_u_1 => ?_)
    obtain ⟨vu_1, rfl, r_vu_1⟩ := hv_u_1
    have q_vu_1 : s1.1 10 = vu_1 := OV.eqI (V := vw_TAPE) hw.2.2.1 o_p1 m_u_1 (by decide)
    refine lv_if_eq (tgt := 65) hx hb dX5_readOne_61 (by decide) (fun c_61 => ?_) (fun c_61 => ?_)
    · have r_vu_1 : RI vu_1 0 0 := rc_eq1 r_vu_1 rl_0 (ti_eq c_61) (by decide)
      refine lv_aload_n hx hb dX5_readOne_65 rfl (lv_at hl 1 rfl) ?_
      refine tk_v (va_runV (As := []) (rest := []) ⟨hx, hb, hml, hown, hts⟩ (c_X7_pass__5 l D cy z H.size Ps ws hw.1 p1 vu_1 s1 h_p1 r_vu_1 m_u_1 o_p1) (cwV 0 hts (gV tw_982 tw_425 tw_426 tw_2 tw_427) rfl rfl rfl (by decide +kernel) ⟨Nat.le_of_ble_eq_true rfl, Nat.le_of_ble_eq_true rfl⟩) (tg_preV hw hK hSD hA (ci := 7) (q := (RX7, TX7, 12)) rfl h_p1 rfl) rfl rfl hl.1 rfl (lv_room (Nat.le_of_ble_eq_true rfl)) dX5_readOne_66 ⟨Nat.le_of_ble_eq_true rfl, Nat.le_of_ble_eq_true rfl⟩) hw hA ⟨by decide, by decide⟩ (fun ws H locs hp_v_2 hw hF9 => ?_)
      have m_u_1 := FLD.over hF9 m_u_1 (by decide)
      obtain ⟨hfn, hp_v_2⟩ := hp_v_2
      have o_p0 := OV.over (V := vw_SENT) hF9 o_p0 (by decide)
      have o_p2 := OV.over (V := vw_POST) hF9 o_p2 (by decide)
      obtain ⟨sg_3, q_sg_3⟩ : ∃ q9 : OS, (f_X7_pass__5 s1) = q9 := ⟨_, rfl⟩
      have o_p1 : OV vw_TAPE Ps ws p1 sg_3 := by rw [← q_sg_3]; exact hfn.1
      obtain ⟨v_4, m_v_4, r_v_4⟩ := (hp_v_2.1)
      refine lv_aload_n hx hb dX5_readOne_69 rfl (lv_at hl 0 rfl) ?_
      refine lv_dup hx hb dX5_readOne_70 rfl ?_
      refine tg_get (ci := 5) (ts := ty_SENT) (C := RX5) (T := TX5) (N := 5) hx hb hts inX5 hown hK hw h_p0 rfl rfl 4 (by decide) (hts _ tw_955) (fun _ h9 => h9) (ft := vI (-2147483648) 2147483647) rfl dX5_readOne_71 (fun u_5 hv_u_5 m_u_5 => ?_)
      obtain ⟨vu_5, rfl, r_vu_5⟩ := hv_u_5
      have q_vu_5 : s0.1 4 = vu_5 := OV.eqI (V := vw_SENT) hw.2.2.1 o_p0 m_u_5 (by decide)
      refine lv_iconst (v := 1) hx hb dX5_readOne_74 (by decide) ?_
      refine lv_iadd hx hb dX5_readOne_75 (lv_topi (fun v_6 e_v_6 => ?_))
      have r_v_6 := ri_any v_6
      have q_v_6 : vu_5 + (1 : Int32) = v_6 := e_v_6.symm
      refine tg_put (ci := 5) (ts := ty_SENT) (v := .int v_6) (ty := .int) (C := RX5) (T := TX5) (N := 5) hx hb hts inX5 tyX5 tyX5_ok nmX5 hown hK hw h_p0 rfl rfl 4 (by decide) (hts _ tw_955) (fun _ h9 => h9) rfl (by decide +kernel) rfl rfl (ft := vI (-2147483648) 2147483647) rfl ⟨_, rfl, r_v_6⟩ (by decide) dX5_readOne_76 (fun ws H locs hw n_k_7 hF9 => ?_)
      have m_v_4 := FLD.over hF9 m_v_4 (by decide)
      have o_p1 := OV.over (V := vw_TAPE) hF9 o_p1 (by decide)
      have o_p2 := OV.over (V := vw_POST) hF9 o_p2 (by decide)
      obtain ⟨sg_8, q_sg_8⟩ : ∃ q9 : OS, sI s0 4 v_6 = q9 := ⟨_, rfl⟩
      have o_p0 : OV vw_SENT Ps ws p0 sg_8 := by rw [← q_sg_8]; exact OV.putI (V := vw_SENT) hF9 n_k_7 o_p0 (by decide)
      refine lv_iload hx hb dX5_readOne_79 (lv_at hl 4 rfl) ?_
      refine lv_sipush (v := 146) hx hb dX5_readOne_81 (by decide) ?_
      refine lv_icmp_ne (tgt := 108) hx hb dX5_readOne_84 (by decide) (fun c_84 => ?_) (fun c_84 => ?_)
      · refine lv_iload hx hb dX5_readOne_108 (lv_at hl 4 rfl) ?_
        refine lv_bipush (v := 40) hx hb dX5_readOne_110 (by decide) ?_
        refine lv_icmp_ne (tgt := 133) hx hb dX5_readOne_112 (by decide) (fun c_112 => ?_) (fun c_112 => ?_)
        · refine lv_aload_n hx hb dX5_readOne_133 rfl (lv_at hl 0 rfl) ?_
          refine lv_aload_n hx hb dX5_readOne_134 rfl (lv_at hl 1 rfl) ?_
          refine lv_aload_n hx hb dX5_readOne_135 rfl (lv_at hl 2 rfl) ?_
          refine lv_iload hx hb dX5_readOne_136 (lv_at hl 4 rfl) ?_
          refine tk_v (va_runV (As := [.ref p1, .ref p2, .int x4]) (rest := []) ⟨hx, hb, hml, hown, hts⟩ (c_X5_readPlain__1 l D cy z H.size Ps ws hw.1 p0 p1 p2 x4 sg_8 sg_3 s2 h_p0 h_p1 h_p2 r_x4 o_p0 o_p1 o_p2) (cwV 3 hts (gV tw_988 tw_990 ts_34 tw_23 tw_991) rfl rfl rfl (by decide +kernel) ⟨Nat.le_of_ble_eq_true rfl, Nat.le_of_ble_eq_true rfl⟩) (tg_preV hw hK hSD hA (ci := 5) (q := (RX5, TX5, 5)) rfl h_p0 rfl) rfl rfl hl.1 rfl (lv_room (Nat.le_of_ble_eq_true rfl)) dX5_readOne_138 ⟨Nat.le_of_ble_eq_true rfl, Nat.le_of_ble_eq_true rfl⟩) hw hA ⟨by decide, by decide⟩ (fun ws H locs hp_v_9 hw hF9 => ?_)
          have n_k_7 := FLD.over hF9 n_k_7 (by decide)
          obtain ⟨hfn, hp_v_9⟩ := hp_v_9
          obtain ⟨sg_10, q_sg_10⟩ : ∃ q9 : OS, (f_X5_readPlain__1 x4 sg_8 sg_3 s2).1 = q9 := ⟨_, rfl⟩
          have o_p0 : OV vw_SENT Ps ws p0 sg_10 := by rw [← q_sg_10]; exact hfn.1
          obtain ⟨sg_11, q_sg_11⟩ : ∃ q9 : OS, (f_X5_readPlain__1 x4 sg_8 sg_3 s2).2.1 = q9 := ⟨_, rfl⟩
          have o_p1 : OV vw_TAPE Ps ws p1 sg_11 := by rw [← q_sg_11]; exact hfn.2.1
          obtain ⟨sg_12, q_sg_12⟩ : ∃ q9 : OS, (f_X5_readPlain__1 x4 sg_8 sg_3 s2).2.2 = q9 := ⟨_, rfl⟩
          have o_p2 : OV vw_POST Ps ws p2 sg_12 := by rw [← q_sg_12]; exact hfn.2.2.1
          obtain ⟨v_13, m_v_13, r_v_13⟩ := (hp_v_9.1)
          simp only [f_X5_readOne__13_57, ↓reduceIte, q_vu_1, eq_true c_61, q_sg_3, q_vu_5, q_v_6, q_sg_8, eq_false c_84, eq_false c_112, q_sg_10, q_sg_11, q_sg_12] at hE
          subst hQ
          exact W.vret hx hb hr (fun t ht hW => ⟨⟨ws, rfl, ⟨⟨⟨(by rw [hR, ← hE]; exact o_p0), (by rw [hR, ← hE]; exact o_p1), (by rw [hR, ← hE]; exact o_p2), trivial⟩, trivial⟩, hw.1, hw.2.2.2.2.1⟩, by rw [ht]; exact hw.2.1, va_K.moved hW.alike hK, hw.2.2.1⟩, hw.2.2.2.1.F ht⟩) hw.2.2.2.1.2.2 dX5_readOne_141
        · have r_x4 : RI x4 40 40 := rc_eq1 r_x4 rl_40 (ti_eq c_112) (by decide)
          refine lv_aload_n hx hb dX5_readOne_115 rfl (lv_at hl 0 rfl) ?_
          refine lv_aload_n hx hb dX5_readOne_116 rfl (lv_at hl 1 rfl) ?_
          refine lv_aload_n hx hb dX5_readOne_117 rfl (lv_at hl 2 rfl) ?_
          refine lv_iload_n hx hb dX5_readOne_118 rfl (lv_at hl 3 rfl) ?_
          refine lv_iconst (v := 1) hx hb dX5_readOne_119 (by decide) ?_
          refine lv_iadd hx hb dX5_readOne_120 (lv_topi (fun v_14 e_v_14 => ?_))
          obtain ⟨t_v_14, r_v_14⟩ := tq_add (lo := 6) (hi := 6) r_p3 rl_1 (by decide +kernel) e_v_14
          have t_v_14 : v_14.toInt = p3.toInt + 1 := t_v_14
          have q_v_14 : p3 + (1 : Int32) = v_14 := e_v_14.symm
          refine tk_v (va_runV (As := [.ref p1, .ref p2, .int v_14]) (rest := []) ⟨hx, hb, hml, hown, hts⟩ (c_X5_readCond__14 l D cy z H.size Ps ws hw.1 p0 p1 p2 v_14 sg_8 sg_3 s2 h_p0 h_p1 h_p2 r_v_14 o_p0 o_p1 o_p2) (cwV 3 hts (gV tw_973 tw_975 ts_31 tw_23 tw_976) rfl rfl rfl (by decide +kernel) ⟨Nat.le_of_ble_eq_true rfl, Nat.le_of_ble_eq_true rfl⟩) (tg_preV hw hK hSD hA (ci := 5) (q := (RX5, TX5, 5)) rfl h_p0 rfl) rfl rfl hl.1 rfl (lv_room (Nat.le_of_ble_eq_true rfl)) dX5_readOne_121 ⟨Nat.le_of_ble_eq_true rfl, Nat.le_of_ble_eq_true rfl⟩) hw hA ⟨by decide, by decide⟩ (fun ws H locs hp_v_15 hw hF9 => ?_)
          obtain ⟨hfn, hp_v_15⟩ := hp_v_15
          obtain ⟨sg_16, q_sg_16⟩ : ∃ q9 : OS, (f_X5_readCond__14 v_14 sg_8 sg_3 s2).1 = q9 := ⟨_, rfl⟩
          have o_p0 : OV vw_SENT Ps ws p0 sg_16 := by rw [← q_sg_16]; exact hfn.1
          obtain ⟨sg_17, q_sg_17⟩ : ∃ q9 : OS, (f_X5_readCond__14 v_14 sg_8 sg_3 s2).2.1 = q9 := ⟨_, rfl⟩
          have o_p1 : OV vw_TAPE Ps ws p1 sg_17 := by rw [← q_sg_17]; exact hfn.2.1
          obtain ⟨sg_18, q_sg_18⟩ : ∃ q9 : OS, (f_X5_readCond__14 v_14 sg_8 sg_3 s2).2.2 = q9 := ⟨_, rfl⟩
          have o_p2 : OV vw_POST Ps ws p2 sg_18 := by rw [← q_sg_18]; exact hfn.2.2.1
          refine lv_aload_n hx hb dX5_readOne_124 rfl (lv_at hl 1 rfl) ?_
          refine lv_bipush (v := 41) hx hb dX5_readOne_125 (by decide) ?_
          refine tk_v (va_runV (As := [.int 41]) (rest := []) ⟨hx, hb, hml, hown, hts⟩ (c_X7_passOnly__3 l D cy z H.size Ps ws hw.1 p1 41 sg_17 h_p1 (rl_41.to (by decide)) o_p1) (cwV 1 hts (gV tw_987 tw_514 tw_515 tw_2 tw_516) rfl rfl rfl (by decide +kernel) ⟨Nat.le_of_ble_eq_true rfl, Nat.le_of_ble_eq_true rfl⟩) (tg_preV hw hK hSD hA (ci := 7) (q := (RX7, TX7, 12)) rfl h_p1 rfl) rfl rfl hl.1 rfl (lv_room (Nat.le_of_ble_eq_true rfl)) dX5_readOne_127 ⟨Nat.le_of_ble_eq_true rfl, Nat.le_of_ble_eq_true rfl⟩) hw hA ⟨by decide, by decide⟩ (fun ws H locs hp_v_19 hw hF9 => ?_)
          obtain ⟨hfn, hp_v_19⟩ := hp_v_19
          have o_p0 := OV.over (V := vw_SENT) hF9 o_p0 (by decide)
          have o_p2 := OV.over (V := vw_POST) hF9 o_p2 (by decide)
          obtain ⟨sg_20, q_sg_20⟩ : ∃ q9 : OS, (f_X7_passOnly__3 (41 : Int32) sg_17) = q9 := ⟨_, rfl⟩
          have o_p1 : OV vw_TAPE Ps ws p1 sg_20 := by rw [← q_sg_20]; exact hfn.1
          refine lv_goto (tgt := 141) hx hb dX5_readOne_130 (by decide) ?_
          simp only [f_X5_readOne__13_57, ↓reduceIte, q_vu_1, eq_true c_61, q_sg_3, q_vu_5, q_v_6, q_sg_8, eq_false c_84, eq_true c_112, q_v_14, q_sg_16, q_sg_17, q_sg_18, q_sg_20] at hE
          subst hQ
          exact W.vret hx hb hr (fun t ht hW => ⟨⟨ws, rfl, ⟨⟨⟨(by rw [hR, ← hE]; exact o_p0), (by rw [hR, ← hE]; exact o_p1), (by rw [hR, ← hE]; exact o_p2), trivial⟩, trivial⟩, hw.1, hw.2.2.2.2.1⟩, by rw [ht]; exact hw.2.1, va_K.moved hW.alike hK, hw.2.2.1⟩, hw.2.2.2.1.F ht⟩) hw.2.2.2.1.2.2 dX5_readOne_141
      · have r_x4 : RI x4 146 146 := rc_eq1 r_x4 rl_146 (ti_eq c_84) (by decide)
        refine lv_aload_n hx hb dX5_readOne_87 rfl (lv_at hl 0 rfl) ?_
        refine lv_aload_n hx hb dX5_readOne_88 rfl (lv_at hl 1 rfl) ?_
        refine lv_aload_n hx hb dX5_readOne_89 rfl (lv_at hl 2 rfl) ?_
        refine lv_iload_n hx hb dX5_readOne_90 rfl (lv_at hl 3 rfl) ?_
        refine lv_iconst (v := 1) hx hb dX5_readOne_91 (by decide) ?_
        refine lv_iadd hx hb dX5_readOne_92 (lv_topi (fun v_21 e_v_21 => ?_))
        obtain ⟨t_v_21, r_v_21⟩ := tq_add (lo := 6) (hi := 6) r_p3 rl_1 (by decide +kernel) e_v_21
        have t_v_21 : v_21.toInt = p3.toInt + 1 := t_v_21
        have q_v_21 : p3 + (1 : Int32) = v_21 := e_v_21.symm
        refine tk_v (va_runV (As := [.ref p1, .ref p2, .int v_21]) (rest := []) ⟨hx, hb, hml, hown, hts⟩ (c_X5_readOne__14 l D cy z H.size Ps ws hw.1 p0 p1 p2 v_21 sg_8 sg_3 s2 h_p0 h_p1 h_p2 r_v_21 o_p0 o_p1 o_p2) (cwV 3 hts (gV tw_977 tw_979 ts_32 tw_23 tw_980) rfl rfl rfl (by decide +kernel) ⟨Nat.le_of_ble_eq_true rfl, Nat.le_of_ble_eq_true rfl⟩) (tg_preV hw hK hSD hA (ci := 5) (q := (RX5, TX5, 5)) rfl h_p0 rfl) rfl rfl hl.1 rfl (lv_room (Nat.le_of_ble_eq_true rfl)) dX5_readOne_93 ⟨Nat.le_of_ble_eq_true rfl, Nat.le_of_ble_eq_true rfl⟩) hw hA ⟨by decide, by decide⟩ (fun ws H locs hp_v_22 hw hF9 => ?_)
        obtain ⟨hfn, hp_v_22⟩ := hp_v_22
        obtain ⟨sg_23, q_sg_23⟩ : ∃ q9 : OS, (f_X5_readOne__14 v_21 sg_8 sg_3 s2).1 = q9 := ⟨_, rfl⟩
        have o_p0 : OV vw_SENT Ps ws p0 sg_23 := by rw [← q_sg_23]; exact hfn.1
        obtain ⟨sg_24, q_sg_24⟩ : ∃ q9 : OS, (f_X5_readOne__14 v_21 sg_8 sg_3 s2).2.1 = q9 := ⟨_, rfl⟩
        have o_p1 : OV vw_TAPE Ps ws p1 sg_24 := by rw [← q_sg_24]; exact hfn.2.1
        obtain ⟨sg_25, q_sg_25⟩ : ∃ q9 : OS, (f_X5_readOne__14 v_21 sg_8 sg_3 s2).2.2 = q9 := ⟨_, rfl⟩
        have o_p2 : OV vw_POST Ps ws p2 sg_25 := by rw [← q_sg_25]; exact hfn.2.2.1
        refine lv_aload_n hx hb dX5_readOne_96 rfl (lv_at hl 0 rfl) ?_
        refine lv_sipush (v := 146) hx hb dX5_readOne_97 (by decide) ?_
        refine lv_iconst (v := 0) hx hb dX5_readOne_100 (by decide) ?_
        refine lv_iconst (v := 0) hx hb dX5_readOne_101 (by decide) ?_
        refine tk_v (va_runV (As := [.int 146, .int 0, .int 0]) (rest := []) ⟨hx, hb, hml, hown, hts⟩ (c_X5_addStep__1 l D cy z H.size Ps ws hw.1 p0 146 0 0 sg_23 h_p0 (rl_146.to (by decide)) (rl_0.to (by decide)) (rl_0.to (by decide)) o_p0) (cwV 3 hts (gV tw_983 tw_985 ts_33 tw_23 tw_986) rfl rfl rfl (by decide +kernel) ⟨Nat.le_of_ble_eq_true rfl, Nat.le_of_ble_eq_true rfl⟩) (tg_preV hw hK hSD hA (ci := 5) (q := (RX5, TX5, 5)) rfl h_p0 rfl) rfl rfl hl.1 rfl (lv_room (Nat.le_of_ble_eq_true rfl)) dX5_readOne_102 ⟨Nat.le_of_ble_eq_true rfl, Nat.le_of_ble_eq_true rfl⟩) hw hA ⟨by decide, by decide⟩ (fun ws H locs hp_v_26 hw hF9 => ?_)
        obtain ⟨hfn, hp_v_26⟩ := hp_v_26
        have o_p1 := OV.over (V := vw_TAPE) hF9 o_p1 (by decide)
        have o_p2 := OV.over (V := vw_POST) hF9 o_p2 (by decide)
        obtain ⟨sg_27, q_sg_27⟩ : ∃ q9 : OS, (f_X5_addStep__1 (146 : Int32) (0 : Int32) (0 : Int32) sg_23) = q9 := ⟨_, rfl⟩
        have o_p0 : OV vw_SENT Ps ws p0 sg_27 := by rw [← q_sg_27]; exact hfn.1
        obtain ⟨v_28, m_v_28, r_v_28⟩ := (hp_v_26.1)
        refine lv_goto (tgt := 141) hx hb dX5_readOne_105 (by decide) ?_
        simp only [f_X5_readOne__13_57, ↓reduceIte, q_vu_1, eq_true c_61, q_sg_3, q_vu_5, q_v_6, q_sg_8, eq_true c_84, q_v_21, q_sg_23, q_sg_24, q_sg_25, q_sg_27] at hE
        subst hQ
        exact W.vret hx hb hr (fun t ht hW => ⟨⟨ws, rfl, ⟨⟨⟨(by rw [hR, ← hE]; exact o_p0), (by rw [hR, ← hE]; exact o_p1), (by rw [hR, ← hE]; exact o_p2), trivial⟩, trivial⟩, hw.1, hw.2.2.2.2.1⟩, by rw [ht]; exact hw.2.1, va_K.moved hW.alike hK, hw.2.2.1⟩, hw.2.2.2.1.F ht⟩) hw.2.2.2.1.2.2 dX5_readOne_141
    · have r_vu_1 : RI vu_1 1 4 := rc_neL r_vu_1 rl_0 (ti_ne c_61) (by decide)
      simp only [f_X5_readOne__13_57, ↓reduceIte, q_vu_1, eq_false c_61] at hE
      subst hQ
      exact W.vret hx hb hr (fun t ht hW => ⟨⟨ws, rfl, ⟨⟨⟨(by rw [hR, ← hE]; exact o_p0), (by rw [hR, ← hE]; exact o_p1), (by rw [hR, ← hE]; exact o_p2), trivial⟩, trivial⟩, hw.1, hw.2.2.2.2.1⟩, by rw [ht]; exact hw.2.1, va_K.moved hW.alike hK, hw.2.2.1⟩, hw.2.2.2.1.F ht⟩) hw.2.2.2.1.2.2 dX5_readOne_64
  have B52 : ∀ (x4 : Int32) (z0_4 : Int32) (z1_7 : Int32) (s0 : OS) (s1 : OS) (s2 : OS) (ws : va_W) (H : Heap) (locs : List Loc) (ls : Array Slot), RI p3 5 5 → RI x4 40 155 → RI z0_4 20 2147483647 → FLD ws p0 5 4 (.int z0_4) → RI z1_7 40 155 → FLD ws p1 7 7 (.int z1_7) → OV vw_SENT Ps ws p0 s0 → OV vw_TAPE Ps ws p1 s1 → OV vw_POST Ps ws p2 s2 → f_X5_readOne__13_52 p3 x4 s0 s1 s2 = R9 → WD D cy GG A s wr_X5_readOne__13 wa_X5_readOne__13 Ps w0 Ps ws H locs → lv_has ls 5 [(0, .ref p0), (1, .ref p1), (2, .ref p2), (3, .int p3), (4, .int x4)] → W p l e (headSpec (Cond.code yX5_readOne cX5_readOne 5 none :: gT) ({ frames := 11, cells := 0, slots := 0, locals := 2200 } : Room)).room s m ([.ref p0, .ref p1, .ref p2, .int p3] : List Value).toArray below meth c H locs 0 0 Q (F0 m 52 ls []) := by
    intro x4 z0_4 z1_7 s0 s1 s2 ws H locs ls r_p3 r_x4 r_z0_4 m_z0_4 r_z1_7 m_z1_7 o_p0 o_p1 o_p2 hE hw hl
    have q_z0_4 : s0.1 4 = z0_4 := OV.eqI (V := vw_SENT) hw.2.2.1 o_p0 m_z0_4 (by decide)
    have q_z1_7 : s1.1 7 = z1_7 := OV.eqI (V := vw_TAPE) hw.2.2.1 o_p1 m_z1_7 (by decide)
    refine lv_aload_n hx hb dX5_readOne_52 rfl (lv_at hl 1 rfl) ?_
    refine lv_iconst (v := 4) hx hb dX5_readOne_53 (by decide) ?_
    refine tk_v (va_runV (As := [.int 4]) (rest := []) ⟨hx, hb, hml, hown, hts⟩ (c_X7_refuse__4 l D cy z H.size Ps ws hw.1 p1 4 s1 h_p1 (rl_4.to (by decide)) o_p1) (cwV 1 hts (gV tw_981 tw_443 tw_444 tw_2 tw_445) rfl rfl rfl (by decide +kernel) ⟨Nat.le_of_ble_eq_true rfl, Nat.le_of_ble_eq_true rfl⟩) (tg_preV hw hK hSD hA (ci := 7) (q := (RX7, TX7, 12)) rfl h_p1 rfl) rfl rfl hl.1 rfl (lv_room (Nat.le_of_ble_eq_true rfl)) dX5_readOne_54 ⟨Nat.le_of_ble_eq_true rfl, Nat.le_of_ble_eq_true rfl⟩) hw hA ⟨by decide, by decide⟩ (fun ws H locs hp_v_29 hw hF9 => ?_)
    have m_z0_4 := FLD.over hF9 m_z0_4 (by decide)
    have m_z1_7 := FLD.over hF9 m_z1_7 (by decide)
    obtain ⟨hfn, hp_v_29⟩ := hp_v_29
    have o_p0 := OV.over (V := vw_SENT) hF9 o_p0 (by decide)
    have o_p2 := OV.over (V := vw_POST) hF9 o_p2 (by decide)
    obtain ⟨sg_30, q_sg_30⟩ : ∃ q9 : OS, (f_X7_refuse__4 (4 : Int32) s1) = q9 := ⟨_, rfl⟩
    have o_p1 : OV vw_TAPE Ps ws p1 sg_30 := by rw [← q_sg_30]; exact hfn.1
    obtain ⟨v_31, m_v_31, r_v_31⟩ := (hp_v_29.1)
    simp only [f_X5_readOne__13_52, ↓reduceIte, q_z0_4, q_z1_7, q_sg_30] at hE
    exact B57 x4 s0 sg_30 s2 ws _ _ ls r_p3 (r_x4.to (by decide)) o_p0 o_p1 o_p2 hE hw hl
  have B37 : ∀ (x4 : Int32) (z1_7 : Int32) (s0 : OS) (s1 : OS) (s2 : OS) (ws : va_W) (H : Heap) (locs : List Loc) (ls : Array Slot), RI p3 5 5 → RI x4 40 155 → RI z1_7 40 155 → FLD ws p1 7 7 (.int z1_7) → OV vw_SENT Ps ws p0 s0 → OV vw_TAPE Ps ws p1 s1 → OV vw_POST Ps ws p2 s2 → f_X5_readOne__13_37 p3 x4 s0 s1 s2 = R9 → WD D cy GG A s wr_X5_readOne__13 wa_X5_readOne__13 Ps w0 Ps ws H locs → lv_has ls 5 [(0, .ref p0), (1, .ref p1), (2, .ref p2), (3, .int p3), (4, .int x4)] → W p l e (headSpec (Cond.code yX5_readOne cX5_readOne 5 none :: gT) ({ frames := 11, cells := 0, slots := 0, locals := 2200 } : Room)).room s m ([.ref p0, .ref p1, .ref p2, .int p3] : List Value).toArray below meth c H locs 0 0 Q (F0 m 37 ls []) := by
    intro x4 z1_7 s0 s1 s2 ws H locs ls r_p3 r_x4 r_z1_7 m_z1_7 o_p0 o_p1 o_p2 hE hw hl
    have q_z1_7 : s1.1 7 = z1_7 := OV.eqI (V := vw_TAPE) hw.2.2.1 o_p1 m_z1_7 (by decide)
    refine lv_aload_n hx hb dX5_readOne_37 rfl (lv_at hl 0 rfl) ?_
    refine tg_get (ci := 5) (ts := ty_SENT) (C := RX5) (T := TX5) (N := 5) hx hb hts inX5 hown hK hw h_p0 rfl rfl 4 (by decide) (hts _ tw_955) (fun _ h9 => h9) (ft := vI (-2147483648) 2147483647) rfl dX5_readOne_38 (fun u_32 hv_u_32 m_u_32 => ?_)
    obtain ⟨vu_32, rfl, r_vu_32⟩ := hv_u_32
    have q_vu_32 : s0.1 4 = vu_32 := OV.eqI (V := vw_SENT) hw.2.2.1 o_p0 m_u_32 (by decide)
    refine lv_bipush (v := 20) hx hb dX5_readOne_41 (by decide) ?_
    refine lv_icmp_ge (tgt := 52) hx hb dX5_readOne_43 (by decide) (fun c_43 => ?_) (fun c_43 => ?_)
    · have r_vu_32 : RI vu_32 20 2147483647 := rc_le2 rl_20 r_vu_32 (ti_le c_43) (by decide)
      simp only [f_X5_readOne__13_37, ↓reduceIte, q_z1_7, q_vu_32, eq_true c_43] at hE
      exact B52 x4 vu_32 z1_7 s0 s1 s2 ws _ _ ls r_p3 r_x4 r_vu_32 m_u_32 r_z1_7 m_z1_7 o_p0 o_p1 o_p2 hE hw hl
    · have r_vu_32 : RI vu_32 (-2147483648) 19 := rc_lt1 r_vu_32 rl_20 (ti_nle c_43) (by decide)
      refine lv_iload_n hx hb dX5_readOne_46 rfl (lv_at hl 3 rfl) ?_
      refine lv_bipush (v := 8) hx hb dX5_readOne_47 (by decide) ?_
      refine lv_icmp_le (tgt := 57) hx hb dX5_readOne_49 (by decide) (fun c_49 => ?_) (fun c_49 => ?_)
      · simp only [f_X5_readOne__13_37, ↓reduceIte, q_z1_7, q_vu_32, eq_false c_43, eq_true c_49] at hE
        exact B57 x4 s0 s1 s2 ws _ _ ls r_p3 (r_x4.to (by decide)) o_p0 o_p1 o_p2 hE hw hl
      · have r_p3 : RI p3 9 5 := rc_lt2 rl_8 r_p3 (ti_nle c_49) (by decide)
        exact (r_p3.no (by decide)).elim
  have B29 : ∀ (x4 : Int32) (s0 : OS) (s1 : OS) (s2 : OS) (ws : va_W) (H : Heap) (locs : List Loc) (ls : Array Slot), RI p3 5 5 → RI x4 (-2147483648) 2147483647 → OV vw_SENT Ps ws p0 s0 → OV vw_TAPE Ps ws p1 s1 → OV vw_POST Ps ws p2 s2 → f_X5_readOne__13_29 p3 x4 s0 s1 s2 = R9 → WD D cy GG A s wr_X5_readOne__13 wa_X5_readOne__13 Ps w0 Ps ws H locs → lv_has ls 5 [(0, .ref p0), (1, .ref p1), (2, .ref p2), (3, .int p3), (4, .int x4)] → W p l e (headSpec (Cond.code yX5_readOne cX5_readOne 5 none :: gT) ({ frames := 11, cells := 0, slots := 0, locals := 2200 } : Room)).room s m ([.ref p0, .ref p1, .ref p2, .int p3] : List Value).toArray below meth c H locs 0 0 Q (F0 m 29 ls []) := by
    intro x4 s0 s1 s2 ws H locs ls r_p3 r_x4 o_p0 o_p1 o_p2 hE hw hl
    refine lv_aload_n hx hb dX5_readOne_29 rfl (lv_at hl 1 rfl) ?_
    refine lv_iconst (v := 1) hx hb dX5_readOne_30 (by decide) ?_
    refine tk_v (va_runV (As := [.int 1]) (rest := []) ⟨hx, hb, hml, hown, hts⟩ (c_X7_refuse__4 l D cy z H.size Ps ws hw.1 p1 1 s1 h_p1 (rl_1.to (by decide)) o_p1) (cwV 1 hts (gV tw_981 tw_443 tw_444 tw_2 tw_445) rfl rfl rfl (by decide +kernel) ⟨Nat.le_of_ble_eq_true rfl, Nat.le_of_ble_eq_true rfl⟩) (tg_preV hw hK hSD hA (ci := 7) (q := (RX7, TX7, 12)) rfl h_p1 rfl) rfl rfl hl.1 rfl (lv_room (Nat.le_of_ble_eq_true rfl)) dX5_readOne_31 ⟨Nat.le_of_ble_eq_true rfl, Nat.le_of_ble_eq_true rfl⟩) hw hA ⟨by decide, by decide⟩ (fun ws H locs hp_v_33 hw hF9 => ?_)
    obtain ⟨hfn, hp_v_33⟩ := hp_v_33
    have o_p0 := OV.over (V := vw_SENT) hF9 o_p0 (by decide)
    have o_p2 := OV.over (V := vw_POST) hF9 o_p2 (by decide)
    obtain ⟨sg_34, q_sg_34⟩ : ∃ q9 : OS, (f_X7_refuse__4 (1 : Int32) s1) = q9 := ⟨_, rfl⟩
    have o_p1 : OV vw_TAPE Ps ws p1 sg_34 := by rw [← q_sg_34]; exact hfn.1
    obtain ⟨v_35, m_v_35, r_v_35⟩ := (hp_v_33.1)
    refine lv_goto (tgt := 57) hx hb dX5_readOne_34 (by decide) ?_
    simp only [f_X5_readOne__13_29, ↓reduceIte, q_sg_34] at hE
    exact B57 x4 s0 sg_34 s2 ws _ _ ls r_p3 r_x4 o_p0 o_p1 o_p2 hE hw hl
  refine lv_aload_n hx hb dX5_readOne_0 rfl (lv_at hl 1 rfl) ?_
  refine tg_getN (ci := 7) (ts := ty_TAPE) (C := RX7) (T := TX7) (N := 12) hx hb hts inX7 hown hK hw h_p1 rfl rfl 7 (by decide) (hSD.nest tn_96) (fun _ h9 => h9) (ft := vI (-2147483648) 2147483647) rfl dX5_readOne_1 (fun u_36 hv_u_36 m_u_36 => ?_)
  obtain ⟨vu_36, rfl, r_vu_36⟩ := hv_u_36
  have q_vu_36 : s1.1 7 = vu_36 := OV.eqI (V := vw_TAPE) hw.2.2.1 o_p1 m_u_36 (by decide)
  refine lv_istore (lv' := [(4, .int vu_36), (0, .ref p0), (1, .ref p1), (2, .ref p2), (3, .int p3)]) hx hb dX5_readOne_4 hl (by decide) rfl (fun ls hl => ?_)
  refine lv_iload hx hb dX5_readOne_6 (lv_at hl 0 rfl) ?_
  refine lv_bipush (v := 40) hx hb dX5_readOne_8 (by decide) ?_
  refine lv_icmp_eq (tgt := 37) hx hb dX5_readOne_10 (by decide) (fun c_10 => ?_) (fun c_10 => ?_)
  · have r_vu_36 : RI vu_36 40 40 := rc_eq1 r_vu_36 rl_40 (ti_eq c_10) (by decide)
    simp only [f_X5_readOne__13, ↓reduceIte, q_vu_36, eq_true c_10] at hE
    exact B37 vu_36 vu_36 s0 s1 s2 w0 _ _ ls r_p3 (r_vu_36.to (by decide)) (r_vu_36.to (by decide)) m_u_36 o_p0 o_p1 o_p2 hE hw (lv_sub hl [1, 2, 3, 4, 0] rfl)
  · refine lv_iload hx hb dX5_readOne_13 (lv_at hl 0 rfl) ?_
    refine lv_sipush (v := 146) hx hb dX5_readOne_15 (by decide) ?_
    refine lv_icmp_lt (tgt := 29) hx hb dX5_readOne_18 (by decide) (fun c_18 => ?_) (fun c_18 => ?_)
    · have r_vu_36 : RI vu_36 (-2147483648) 145 := rc_lt1 r_vu_36 rl_146 (ti_lt c_18) (by decide)
      simp only [f_X5_readOne__13, ↓reduceIte, q_vu_36, eq_false c_10, eq_true c_18] at hE
      exact B29 vu_36 s0 s1 s2 w0 _ _ ls r_p3 (r_vu_36.to (by decide)) o_p0 o_p1 o_p2 hE hw (lv_sub hl [1, 2, 3, 4, 0] rfl)
    · have r_vu_36 : RI vu_36 146 2147483647 := rc_le2 rl_146 r_vu_36 (ti_nlt c_18) (by decide)
      refine lv_iload hx hb dX5_readOne_21 (lv_at hl 0 rfl) ?_
      refine lv_sipush (v := 155) hx hb dX5_readOne_23 (by decide) ?_
      refine lv_icmp_le (tgt := 37) hx hb dX5_readOne_26 (by decide) (fun c_26 => ?_) (fun c_26 => ?_)
      · have r_vu_36 : RI vu_36 146 155 := rc_le1 r_vu_36 rl_155 (ti_le c_26) (by decide)
        simp only [f_X5_readOne__13, ↓reduceIte, q_vu_36, eq_false c_10, eq_false c_18, eq_true c_26] at hE
        exact B37 vu_36 vu_36 s0 s1 s2 w0 _ _ ls r_p3 (r_vu_36.to (by decide)) (r_vu_36.to (by decide)) m_u_36 o_p0 o_p1 o_p2 hE hw (lv_sub hl [1, 2, 3, 4, 0] rfl)
      · have r_vu_36 : RI vu_36 156 2147483647 := rc_lt2 rl_155 r_vu_36 (ti_nle c_26) (by decide)
        simp only [f_X5_readOne__13, ↓reduceIte, q_vu_36, eq_false c_10, eq_false c_18, eq_false c_26] at hE
        exact B29 vu_36 s0 s1 s2 w0 _ _ ls r_p3 (r_vu_36.to (by decide)) o_p0 o_p1 o_p2 hE hw (lv_sub hl [1, 2, 3, 4, 0] rfl)
abbrev wr_X5_readCond__13 : List (Nat × Nat) := [(5, 3), (5, 4), (7, 5), (7, 6), (7, 7), (7, 8), (7, 9), (7, 10), (7, 11)]
abbrev wa_X5_readCond__13 : List Nat := [21]
set_option maxHeartbeats 4000000 in
set_option maxRecDepth 100000 in
theorem c_X5_readCond__13 (l : Launch) (D : va_G) (cy : Nat → ClassId) (z : Nat → Nat) (sz : Nat) (Ps : PSI) (w0 : va_W) (hT : HT cy GG Ps w0) (p0 : Nat) (p1 : Nat) (p2 : Nat) (p3 : Int32) (s0 : OS) (s1 : OS) (s2 : OS) (h_p0 : (p0, 32) ∈ Ps) (h_p1 : (p1, 26) ∈ Ps) (h_p2 : (p2, 25) ∈ Ps) (r_p3 : RI p3 5 5) (o_p0 : OV vw_SENT Ps w0 p0 s0) (o_p1 : OV vw_TAPE Ps w0 p1 s1) (o_p2 : OV vw_POST Ps w0 p2 s2) : Met l yX5_readCond (Cond.code yX5_readCond cX5_readCond 7 none :: gT) ({ frames := 12, cells := 0, slots := 0, locals := 2400 } : Room) (va_Pc [.ref p0, .ref p1, .ref p2, .int p3] (PRE D cy z w0 sz)) (va_Qv (fun (u : va_W) => ((OV vw_SENT Ps u p0 ((f_X5_readCond__13 p3 s0 s1 s2).1) ∧ OV vw_TAPE Ps u p1 ((f_X5_readCond__13 p3 s0 s1 s2).2.1) ∧ OV vw_POST Ps u p2 ((f_X5_readCond__13 p3 s0 s1 s2).2.2) ∧ True) ∧ (True)) ∧ HT cy GG Ps u ∧ FR wr_X5_readCond__13 wa_X5_readCond__13 Ps w0 u) (BB D cy (va_A w0 sz) (fun (u : va_W) => u)) (va_A w0 sz)) 0 0 (va_A w0 sz) := by
  refine Met.ofW (cc := cX5_readCond) (maxL := 7) (ret := none) (by decide) rfl ?_
  intro p e s m args below meth c s₁ B hml hv
  obtain ⟨rfl, hsz, hP, hK, hD0, hSD⟩ := hv
  have hx := B.exec
  have hb := B.bytes
  have hr := B.returns
  have hlocks := B.notSynchronized
  have hts : ∀ w ∈ gT, w.before _ s = true := fun w h => atoms_spec (ws := Cond.code yX5_readCond cX5_readCond 7 none :: gT) B.pre w (List.mem_cons_of_mem _ h)
  have hown : s.vm.findClass RX5 = some m.cls := findClass_of_methodNamed B.named
  subst hsz
  have hD := hD0.self (sz := s.heap.size)
  generalize hAe : va_A w0 s.heap.size = A at hD hSD ⊢
  have hA : ∀ q : Nat, s.heap.size ≤ q → A q := fun q h => by rw [← hAe]; exact Or.inr h
  have hl := lv_entry ([.ref p0, .ref p1, .ref p2, .int p3]) (n := 7) (Nat.le_of_ble_eq_true rfl)
  rw [lg_entry_eq]
  generalize (lg_sl ([.ref p0, .ref p1, .ref p2, .int p3]) ++ List.replicate (7 - (lg_sl ([.ref p0, .ref p1, .ref p2, .int p3])).length) Slot.unset).toArray = ls at hl ⊢
  have hl : lv_has ls 7 [(0, .ref p0), (1, .ref p1), (2, .ref p2), (3, .int p3)] := hl
  refine nameQ (fun Q hQ => ?_)
  have hw : WD D cy GG A s wr_X5_readCond__13 wa_X5_readCond__13 Ps w0 Ps w0 s.heap [] := ⟨hT, hP, hD, va_S.rf, FR.rf, hT.1, [], (List.append_nil _).symm⟩
  obtain ⟨R9, hR⟩ : ∃ q9 : OS × OS × OS, f_X5_readCond__13 p3 s0 s1 s2 = q9 := ⟨_, rfl⟩
  have hE := hR
  have B106 : ∀ (x4 : Int32) (x5 : Int32) (s0 : OS) (s1 : OS) (s2 : OS) (ws : va_W) (H : Heap) (locs : List Loc) (ls : Array Slot), RI p3 5 5 → RI x4 (-2147483648) 2147483647 → RI x5 0 21 → OV vw_SENT Ps ws p0 s0 → OV vw_TAPE Ps ws p1 s1 → OV vw_POST Ps ws p2 s2 → f_X5_readCond__13_106 p3 x4 x5 s0 s1 s2 = R9 → WD D cy GG A s wr_X5_readCond__13 wa_X5_readCond__13 Ps w0 Ps ws H locs → lv_has ls 7 [(0, .ref p0), (1, .ref p1), (2, .ref p2), (3, .int p3), (4, .int x4), (5, .int x5)] → W p l e (headSpec (Cond.code yX5_readCond cX5_readCond 7 none :: gT) ({ frames := 12, cells := 0, slots := 0, locals := 2400 } : Room)).room s m ([.ref p0, .ref p1, .ref p2, .int p3] : List Value).toArray below meth c H locs 0 0 Q (F0 m 106 ls []) := by
    intro x4 x5 s0 s1 s2 ws H locs ls r_p3 r_x4 r_x5 o_p0 o_p1 o_p2 hE hw hl
    refine lv_iload hx hb dX5_readCond_106 (lv_at hl 4 rfl) ?_
    refine lv_if_eq (tgt := 120) hx hb dX5_readCond_108 (by decide) (fun c_108 => ?_) (fun c_108 => ?_)
    · have r_x4 : RI x4 0 0 := rc_eq1 r_x4 rl_0 (ti_eq c_108) (by decide)
      simp only [f_X5_readCond__13_106, ↓reduceIte, eq_true c_108] at hE
      subst hQ
      exact W.vret hx hb hr (fun t ht hW => ⟨⟨ws, rfl, ⟨⟨⟨(by rw [hR, ← hE]; exact o_p0), (by rw [hR, ← hE]; exact o_p1), (by rw [hR, ← hE]; exact o_p2), trivial⟩, trivial⟩, hw.1, hw.2.2.2.2.1⟩, by rw [ht]; exact hw.2.1, va_K.moved hW.alike hK, hw.2.2.1⟩, hw.2.2.2.1.F ht⟩) hw.2.2.2.1.2.2 dX5_readCond_120
    · refine lv_aload_n hx hb dX5_readCond_111 rfl (lv_at hl 0 rfl) ?_
      refine lv_sipush (v := 144) hx hb dX5_readCond_112 (by decide) ?_
      refine lv_iconst (v := 0) hx hb dX5_readCond_115 (by decide) ?_
      refine lv_iconst (v := 0) hx hb dX5_readCond_116 (by decide) ?_
      refine tk_v (va_runV (As := [.int 144, .int 0, .int 0]) (rest := []) ⟨hx, hb, hml, hown, hts⟩ (c_X5_addStep__1 l D cy z H.size Ps ws hw.1 p0 144 0 0 s0 h_p0 (rl_144.to (by decide)) (rl_0.to (by decide)) (rl_0.to (by decide)) o_p0) (cwV 3 hts (gV tw_983 tw_985 ts_33 tw_23 tw_986) rfl rfl rfl (by decide +kernel) ⟨Nat.le_of_ble_eq_true rfl, Nat.le_of_ble_eq_true rfl⟩) (tg_preV hw hK hSD hA (ci := 5) (q := (RX5, TX5, 5)) rfl h_p0 rfl) rfl rfl hl.1 rfl (lv_room (Nat.le_of_ble_eq_true rfl)) dX5_readCond_117 ⟨Nat.le_of_ble_eq_true rfl, Nat.le_of_ble_eq_true rfl⟩) hw hA ⟨by decide, by decide⟩ (fun ws H locs hp_v_1 hw hF9 => ?_)
      obtain ⟨hfn, hp_v_1⟩ := hp_v_1
      have o_p1 := OV.over (V := vw_TAPE) hF9 o_p1 (by decide)
      have o_p2 := OV.over (V := vw_POST) hF9 o_p2 (by decide)
      obtain ⟨sg_2, q_sg_2⟩ : ∃ q9 : OS, (f_X5_addStep__1 (144 : Int32) (0 : Int32) (0 : Int32) s0) = q9 := ⟨_, rfl⟩
      have o_p0 : OV vw_SENT Ps ws p0 sg_2 := by rw [← q_sg_2]; exact hfn.1
      obtain ⟨v_3, m_v_3, r_v_3⟩ := (hp_v_1.1)
      simp only [f_X5_readCond__13_106, ↓reduceIte, eq_false c_108, q_sg_2] at hE
      subst hQ
      exact W.vret hx hb hr (fun t ht hW => ⟨⟨ws, rfl, ⟨⟨⟨(by rw [hR, ← hE]; exact o_p0), (by rw [hR, ← hE]; exact o_p1), (by rw [hR, ← hE]; exact o_p2), trivial⟩, trivial⟩, hw.1, hw.2.2.2.2.1⟩, by rw [ht]; exact hw.2.1, va_K.moved hW.alike hK, hw.2.2.1⟩, hw.2.2.2.1.F ht⟩) hw.2.2.2.1.2.2 dX5_readCond_120
  have B13 : ∀ (nf : Nat) (x4 : Int32) (x5 : Int32) (s0 : OS) (s1 : OS) (s2 : OS) (ws : va_W) (H : Heap) (locs : List Loc) (ls : Array Slot), 20 - x5.toInt < (nf : Int) → RI p3 5 5 → RI x4 (-2147483648) 2147483647 → RI x5 0 20 → OV vw_SENT Ps ws p0 s0 → OV vw_TAPE Ps ws p1 s1 → OV vw_POST Ps ws p2 s2 → f_X5_readCond__13_13 p3 nf x4 x5 s0 s1 s2 = R9 → WD D cy GG A s wr_X5_readCond__13 wa_X5_readCond__13 Ps w0 Ps ws H locs → lv_has ls 7 [(0, .ref p0), (1, .ref p1), (2, .ref p2), (3, .int p3), (4, .int x4), (5, .int x5)] → W p l e (headSpec (Cond.code yX5_readCond cX5_readCond 7 none :: gT) ({ frames := 12, cells := 0, slots := 0, locals := 2400 } : Room)).room s m ([.ref p0, .ref p1, .ref p2, .int p3] : List Value).toArray below meth c H locs 0 0 Q (F0 m 13 ls []) := by
    intro nf13
    induction nf13 with
    | zero =>
      intro x4 x5 s0 s1 s2 ws H locs ls hn13 r_p3 r_x4 r_x5 o_p0 o_p1 o_p2 hE hw hl
      exact absurd hn13 (by have q0 := r_x5.1; have u0 := r_x5.2; omega)
    | succ nf13 ih13 =>
      have B72 : ∀ (x4 : Int32) (x5 : Int32) (x6 : Int32) (s0 : OS) (s1 : OS) (s2 : OS) (ws : va_W) (H : Heap) (locs : List Loc) (ls : Array Slot), RI p3 5 5 → RI x4 (-2147483648) 2147483647 → RI x5 0 19 → RI x6 0 1 → OV vw_SENT Ps ws p0 s0 → OV vw_TAPE Ps ws p1 s1 → OV vw_POST Ps ws p2 s2 → 20 - x5.toInt < ((nf13 + 1 : Nat) : Int) → f_X5_readCond__13_72 (f_X5_readCond__13_13 p3 nf13) p3 x4 x5 x6 s0 s1 s2 = R9 → WD D cy GG A s wr_X5_readCond__13 wa_X5_readCond__13 Ps w0 Ps ws H locs → lv_has ls 7 [(0, .ref p0), (1, .ref p1), (2, .ref p2), (3, .int p3), (4, .int x4), (5, .int x5), (6, .int x6)] → W p l e (headSpec (Cond.code yX5_readCond cX5_readCond 7 none :: gT) ({ frames := 12, cells := 0, slots := 0, locals := 2400 } : Room)).room s m ([.ref p0, .ref p1, .ref p2, .int p3] : List Value).toArray below meth c H locs 0 0 Q (F0 m 72 ls []) := by
        intro x4 x5 x6 s0 s1 s2 ws H locs ls r_p3 r_x4 r_x5 r_x6 o_p0 o_p1 o_p2 hn13 hE hw hl
        refine lv_iload hx hb dX5_readCond_72 (lv_at hl 4 rfl) ?_
        refine lv_iload hx hb dX5_readCond_74 (lv_at hl 6 rfl) ?_
        refine lv_ior hx hb dX5_readCond_76 (lv_topi (fun v_4 e_v_4 => ?_))
        have r_v_4 := ri_any v_4
        have q_v_4 : x4 ||| x6 = v_4 := e_v_4.symm
        refine lv_istore (lv' := [(4, .int v_4), (0, .ref p0), (1, .ref p1), (2, .ref p2), (3, .int p3), (5, .int x5), (6, .int x6)]) hx hb dX5_readCond_77 hl (by decide) rfl (fun ls hl => ?_)
        refine lv_aload_n hx hb dX5_readCond_79 rfl (lv_at hl 1 rfl) ?_
        refine lv_aload_n hx hb dX5_readCond_80 rfl (lv_at hl 2 rfl) ?_
        refine lv_aload_n hx hb dX5_readCond_81 rfl (lv_at hl 3 rfl) ?_
        refine lv_iload_n hx hb dX5_readCond_82 rfl (lv_at hl 4 rfl) ?_
        refine tk_v (va_runV (As := [.ref p1, .ref p2, .int p3]) (rest := []) ⟨hx, hb, hml, hown, hts⟩ (c_X5_readOne__13 l D cy z H.size Ps ws hw.1 p0 p1 p2 p3 s0 s1 s2 h_p0 h_p1 h_p2 r_p3 o_p0 o_p1 o_p2) (cwV 3 hts (gV tw_977 tw_979 ts_32 tw_23 tw_980) rfl rfl rfl (by decide +kernel) ⟨Nat.le_of_ble_eq_true rfl, Nat.le_of_ble_eq_true rfl⟩) (tg_preV hw hK hSD hA (ci := 5) (q := (RX5, TX5, 5)) rfl h_p0 rfl) rfl rfl hl.1 rfl (lv_room (Nat.le_of_ble_eq_true rfl)) dX5_readCond_83 ⟨Nat.le_of_ble_eq_true rfl, Nat.le_of_ble_eq_true rfl⟩) hw hA ⟨by decide, by decide⟩ (fun ws H locs hp_v_5 hw hF9 => ?_)
        obtain ⟨hfn, hp_v_5⟩ := hp_v_5
        obtain ⟨sg_6, q_sg_6⟩ : ∃ q9 : OS, (f_X5_readOne__13 p3 s0 s1 s2).1 = q9 := ⟨_, rfl⟩
        have o_p0 : OV vw_SENT Ps ws p0 sg_6 := by rw [← q_sg_6]; exact hfn.1
        obtain ⟨sg_7, q_sg_7⟩ : ∃ q9 : OS, (f_X5_readOne__13 p3 s0 s1 s2).2.1 = q9 := ⟨_, rfl⟩
        have o_p1 : OV vw_TAPE Ps ws p1 sg_7 := by rw [← q_sg_7]; exact hfn.2.1
        obtain ⟨sg_8, q_sg_8⟩ : ∃ q9 : OS, (f_X5_readOne__13 p3 s0 s1 s2).2.2 = q9 := ⟨_, rfl⟩
        have o_p2 : OV vw_POST Ps ws p2 sg_8 := by rw [← q_sg_8]; exact hfn.2.2.1
        refine lv_iload hx hb dX5_readCond_86 (lv_at hl 6 rfl) ?_
        refine lv_if_ne (tgt := 100) hx hb dX5_readCond_88 (by decide) (fun c_88 => ?_) (fun c_88 => ?_)
        · have r_x6 : RI x6 1 1 := rc_neL r_x6 rl_0 (ti_ne c_88) (by decide)
          obtain ⟨v_9, e_v_9⟩ : ∃ q9 : Int32, q9 = x5 + Int32.ofInt 1 := ⟨_, rfl⟩
          obtain ⟨t_v_9, r_v_9⟩ := tq_add (lo := 1) (hi := 20) r_x5 (show RI (Int32.ofInt 1) 1 1 by unfold RI; decide +kernel) (by decide +kernel) e_v_9
          have t_v_9 : v_9.toInt = x5.toInt + 1 := t_v_9
          refine lv_iinc (v := v_9) (lv' := [(5, .int v_9), (4, .int v_4), (0, .ref p0), (1, .ref p1), (2, .ref p2), (3, .int p3), (6, .int x6)]) hx hb dX5_readCond_100 hl (k := 5) rfl e_v_9.symm (by decide) rfl (fun ls hl => ?_)
          have q_v_9 : x5 + (1 : Int32) = v_9 := by rw [e_v_9, show Int32.ofInt 1 = (1 : Int32) by decide]
          refine lv_goto (tgt := 13) hx hb dX5_readCond_103 (by decide) ?_
          simp only [f_X5_readCond__13_72, ↓reduceIte, q_v_4, q_sg_6, q_sg_7, q_sg_8, eq_false c_88, q_v_9] at hE
          exact ih13 v_4 v_9 sg_6 sg_7 sg_8 ws _ _ ls (by have q0 := r_v_9.1; have u0 := r_v_9.2; have o0 := r_x5.1; have p0 := r_x5.2; omega) r_p3 r_v_4 (r_v_9.to (by decide)) o_p0 o_p1 o_p2 hE hw (lv_sub hl [2, 3, 4, 5, 1, 0] rfl)
        · have r_x6 : RI x6 0 0 := rc_eq1 r_x6 rl_0 (ti_eq c_88) (by decide)
          refine lv_aload_n hx hb dX5_readCond_91 rfl (lv_at hl 1 rfl) ?_
          refine lv_sipush (v := 145) hx hb dX5_readCond_92 (by decide) ?_
          refine lv_iconst (v := 0) hx hb dX5_readCond_95 (by decide) ?_
          refine lv_iconst (v := 0) hx hb dX5_readCond_96 (by decide) ?_
          refine tk_v (va_runV (As := [.int 145, .int 0, .int 0]) (rest := []) ⟨hx, hb, hml, hown, hts⟩ (c_X5_addStep__1 l D cy z H.size Ps ws hw.1 p0 145 0 0 sg_6 h_p0 (rl_145.to (by decide)) (rl_0.to (by decide)) (rl_0.to (by decide)) o_p0) (cwV 3 hts (gV tw_983 tw_985 ts_33 tw_23 tw_986) rfl rfl rfl (by decide +kernel) ⟨Nat.le_of_ble_eq_true rfl, Nat.le_of_ble_eq_true rfl⟩) (tg_preV hw hK hSD hA (ci := 5) (q := (RX5, TX5, 5)) rfl h_p0 rfl) rfl rfl hl.1 rfl (lv_room (Nat.le_of_ble_eq_true rfl)) dX5_readCond_97 ⟨Nat.le_of_ble_eq_true rfl, Nat.le_of_ble_eq_true rfl⟩) hw hA ⟨by decide, by decide⟩ (fun ws H locs hp_v_10 hw hF9 => ?_)
          obtain ⟨hfn, hp_v_10⟩ := hp_v_10
          have o_p1 := OV.over (V := vw_TAPE) hF9 o_p1 (by decide)
          have o_p2 := OV.over (V := vw_POST) hF9 o_p2 (by decide)
          obtain ⟨sg_11, q_sg_11⟩ : ∃ q9 : OS, (f_X5_addStep__1 (145 : Int32) (0 : Int32) (0 : Int32) sg_6) = q9 := ⟨_, rfl⟩
          have o_p0 : OV vw_SENT Ps ws p0 sg_11 := by rw [← q_sg_11]; exact hfn.1
          obtain ⟨v_12, m_v_12, r_v_12⟩ := (hp_v_10.1)
          obtain ⟨v_13, e_v_13⟩ : ∃ q9 : Int32, q9 = x5 + Int32.ofInt 1 := ⟨_, rfl⟩
          obtain ⟨t_v_13, r_v_13⟩ := tq_add (lo := 1) (hi := 20) r_x5 (show RI (Int32.ofInt 1) 1 1 by unfold RI; decide +kernel) (by decide +kernel) e_v_13
          have t_v_13 : v_13.toInt = x5.toInt + 1 := t_v_13
          refine lv_iinc (v := v_13) (lv' := [(5, .int v_13), (4, .int v_4), (0, .ref p0), (1, .ref p1), (2, .ref p2), (3, .int p3), (6, .int x6)]) hx hb dX5_readCond_100 hl (k := 5) rfl e_v_13.symm (by decide) rfl (fun ls hl => ?_)
          have q_v_13 : x5 + (1 : Int32) = v_13 := by rw [e_v_13, show Int32.ofInt 1 = (1 : Int32) by decide]
          refine lv_goto (tgt := 13) hx hb dX5_readCond_103 (by decide) ?_
          simp only [f_X5_readCond__13_72, ↓reduceIte, q_v_4, q_sg_6, q_sg_7, q_sg_8, eq_true c_88, q_sg_11, q_v_13] at hE
          exact ih13 v_4 v_13 sg_11 sg_7 sg_8 ws _ _ ls (by have q0 := r_v_13.1; have u0 := r_v_13.2; have o0 := r_x5.1; have p0 := r_x5.2; omega) r_p3 r_v_4 (r_v_13.to (by decide)) o_p0 o_p1 o_p2 hE hw (lv_sub hl [2, 3, 4, 5, 1, 0] rfl)
      have B40 : ∀ (x4 : Int32) (x5 : Int32) (s0 : OS) (s1 : OS) (s2 : OS) (ws : va_W) (H : Heap) (locs : List Loc) (ls : Array Slot), RI p3 5 5 → RI x4 (-2147483648) 2147483647 → RI x5 0 19 → OV vw_SENT Ps ws p0 s0 → OV vw_TAPE Ps ws p1 s1 → OV vw_POST Ps ws p2 s2 → 20 - x5.toInt < ((nf13 + 1 : Nat) : Int) → f_X5_readCond__13_40 (f_X5_readCond__13_13 p3 nf13) p3 x4 x5 s0 s1 s2 = R9 → WD D cy GG A s wr_X5_readCond__13 wa_X5_readCond__13 Ps w0 Ps ws H locs → lv_has ls 7 [(0, .ref p0), (1, .ref p1), (2, .ref p2), (3, .int p3), (4, .int x4), (5, .int x5)] → W p l e (headSpec (Cond.code yX5_readCond cX5_readCond 7 none :: gT) ({ frames := 12, cells := 0, slots := 0, locals := 2400 } : Room)).room s m ([.ref p0, .ref p1, .ref p2, .int p3] : List Value).toArray below meth c H locs 0 0 Q (F0 m 40 ls []) := by
        intro x4 x5 s0 s1 s2 ws H locs ls r_p3 r_x4 r_x5 o_p0 o_p1 o_p2 hn13 hE hw hl
        refine lv_aload_n hx hb dX5_readCond_40 rfl (lv_at hl 1 rfl) ?_
        refine lv_sipush (v := 144) hx hb dX5_readCond_41 (by decide) ?_
        refine tk_ir (va_runV (As := [.int 144]) (rest := []) ⟨hx, hb, hml, hown, hts⟩ (c_X7_sees__1 l D cy z H.size Ps ws hw.1 p1 144 s1 h_p1 (rl_144.to (by decide)) o_p1) (cwV 1 hts (gV tw_994 tw_995 tw_996 tw_2 tw_997) rfl rfl rfl (by decide +kernel) ⟨Nat.le_of_ble_eq_true rfl, Nat.le_of_ble_eq_true rfl⟩) (tg_preV hw hK hSD hA (ci := 7) (q := (RX7, TX7, 12)) rfl h_p1 rfl) rfl rfl hl.1 rfl (lv_room (Nat.le_of_ble_eq_true rfl)) dX5_readCond_44 ⟨Nat.le_of_ble_eq_true rfl, Nat.le_of_ble_eq_true rfl⟩) hw hA (fun v_14  H locs hp_v_14 hw => ?_)
        obtain ⟨hfn, hp_v_14⟩ := hp_v_14
        have q_v_14 : (f_X7_sees__1 (144 : Int32) s1) = v_14 := hfn.1
        have r_v_14 : RI v_14 0 1 := hp_v_14.1
        refine lv_istore (lv' := [(6, .int v_14), (0, .ref p0), (1, .ref p1), (2, .ref p2), (3, .int p3), (4, .int x4), (5, .int x5)]) hx hb dX5_readCond_47 hl (by decide) rfl (fun ls hl => ?_)
        refine lv_aload_n hx hb dX5_readCond_49 rfl (lv_at hl 2 rfl) ?_
        refine tk_v (va_runV (As := []) (rest := []) ⟨hx, hb, hml, hown, hts⟩ (c_X7_pass__6 l D cy z H.size Ps ws hw.1 p1 s1 h_p1 o_p1) (cwV 0 hts (gV tw_982 tw_425 tw_426 tw_2 tw_427) rfl rfl rfl (by decide +kernel) ⟨Nat.le_of_ble_eq_true rfl, Nat.le_of_ble_eq_true rfl⟩) (tg_preV hw hK hSD hA (ci := 7) (q := (RX7, TX7, 12)) rfl h_p1 rfl) rfl rfl hl.1 rfl (lv_room (Nat.le_of_ble_eq_true rfl)) dX5_readCond_50 ⟨Nat.le_of_ble_eq_true rfl, Nat.le_of_ble_eq_true rfl⟩) hw hA ⟨by decide, by decide⟩ (fun ws H locs hp_v_15 hw hF9 => ?_)
        obtain ⟨hfn, hp_v_15⟩ := hp_v_15
        have o_p0 := OV.over (V := vw_SENT) hF9 o_p0 (by decide)
        have o_p2 := OV.over (V := vw_POST) hF9 o_p2 (by decide)
        obtain ⟨sg_16, q_sg_16⟩ : ∃ q9 : OS, (f_X7_pass__6 s1) = q9 := ⟨_, rfl⟩
        have o_p1 : OV vw_TAPE Ps ws p1 sg_16 := by rw [← q_sg_16]; exact hfn.1
        refine lv_iload hx hb dX5_readCond_53 (lv_at hl 0 rfl) ?_
        refine lv_if_eq (tgt := 72) hx hb dX5_readCond_55 (by decide) (fun c_55 => ?_) (fun c_55 => ?_)
        · have r_v_14 : RI v_14 0 0 := rc_eq1 r_v_14 rl_0 (ti_eq c_55) (by decide)
          simp only [f_X5_readCond__13_40, ↓reduceIte, q_v_14, q_sg_16, eq_true c_55] at hE
          exact B72 x4 x5 v_14 s0 sg_16 s2 ws _ _ ls r_p3 r_x4 r_x5 (r_v_14.to (by decide)) o_p0 o_p1 o_p2 (by have q0 := r_x5.1; have u0 := r_x5.2; omega) hE hw (lv_sub hl [1, 2, 3, 4, 5, 6, 0] rfl)
        · have r_v_14 : RI v_14 1 1 := rc_neL r_v_14 rl_0 (ti_ne c_55) (by decide)
          refine lv_iload hx hb dX5_readCond_58 (lv_at hl 5 rfl) ?_
          refine lv_if_eq (tgt := 72) hx hb dX5_readCond_60 (by decide) (fun c_60 => ?_) (fun c_60 => ?_)
          · have r_x4 : RI x4 0 0 := rc_eq1 r_x4 rl_0 (ti_eq c_60) (by decide)
            simp only [f_X5_readCond__13_40, ↓reduceIte, q_v_14, q_sg_16, eq_false c_55, eq_true c_60] at hE
            exact B72 x4 x5 v_14 s0 sg_16 s2 ws _ _ ls r_p3 (r_x4.to (by decide)) r_x5 (r_v_14.to (by decide)) o_p0 o_p1 o_p2 (by have q0 := r_x5.1; have u0 := r_x5.2; omega) hE hw (lv_sub hl [1, 2, 3, 4, 5, 6, 0] rfl)
          · refine lv_aload_n hx hb dX5_readCond_63 rfl (lv_at hl 1 rfl) ?_
            refine lv_sipush (v := 144) hx hb dX5_readCond_64 (by decide) ?_
            refine lv_iconst (v := 0) hx hb dX5_readCond_67 (by decide) ?_
            refine lv_iconst (v := 0) hx hb dX5_readCond_68 (by decide) ?_
            refine tk_v (va_runV (As := [.int 144, .int 0, .int 0]) (rest := []) ⟨hx, hb, hml, hown, hts⟩ (c_X5_addStep__1 l D cy z H.size Ps ws hw.1 p0 144 0 0 s0 h_p0 (rl_144.to (by decide)) (rl_0.to (by decide)) (rl_0.to (by decide)) o_p0) (cwV 3 hts (gV tw_983 tw_985 ts_33 tw_23 tw_986) rfl rfl rfl (by decide +kernel) ⟨Nat.le_of_ble_eq_true rfl, Nat.le_of_ble_eq_true rfl⟩) (tg_preV hw hK hSD hA (ci := 5) (q := (RX5, TX5, 5)) rfl h_p0 rfl) rfl rfl hl.1 rfl (lv_room (Nat.le_of_ble_eq_true rfl)) dX5_readCond_69 ⟨Nat.le_of_ble_eq_true rfl, Nat.le_of_ble_eq_true rfl⟩) hw hA ⟨by decide, by decide⟩ (fun ws H locs hp_v_17 hw hF9 => ?_)
            obtain ⟨hfn, hp_v_17⟩ := hp_v_17
            have o_p1 := OV.over (V := vw_TAPE) hF9 o_p1 (by decide)
            have o_p2 := OV.over (V := vw_POST) hF9 o_p2 (by decide)
            obtain ⟨sg_18, q_sg_18⟩ : ∃ q9 : OS, (f_X5_addStep__1 (144 : Int32) (0 : Int32) (0 : Int32) s0) = q9 := ⟨_, rfl⟩
            have o_p0 : OV vw_SENT Ps ws p0 sg_18 := by rw [← q_sg_18]; exact hfn.1
            obtain ⟨v_19, m_v_19, r_v_19⟩ := (hp_v_17.1)
            simp only [f_X5_readCond__13_40, ↓reduceIte, q_v_14, q_sg_16, eq_false c_55, eq_false c_60, q_sg_18] at hE
            exact B72 x4 x5 v_14 sg_18 sg_16 s2 ws _ _ ls r_p3 r_x4 r_x5 (r_v_14.to (by decide)) o_p0 o_p1 o_p2 (by have q0 := r_x5.1; have u0 := r_x5.2; omega) hE hw (lv_sub hl [1, 2, 3, 4, 5, 6, 0] rfl)
      intro x4 x5 s0 s1 s2 ws H locs ls hn13 r_p3 r_x4 r_x5 o_p0 o_p1 o_p2 hE hw hl
      refine lv_iload hx hb dX5_readCond_13 (lv_at hl 5 rfl) ?_
      refine lv_bipush (v := 20) hx hb dX5_readCond_15 (by decide) ?_
      refine lv_icmp_ge (tgt := 106) hx hb dX5_readCond_17 (by decide) (fun c_17 => ?_) (fun c_17 => ?_)
      · have r_x5 : RI x5 20 20 := rc_le2 rl_20 r_x5 (ti_le c_17) (by decide)
        simp only [f_X5_readCond__13_13, ↓reduceIte, eq_true c_17] at hE
        exact B106 x4 x5 s0 s1 s2 ws _ _ ls r_p3 r_x4 (r_x5.to (by decide)) o_p0 o_p1 o_p2 hE hw hl
      · have r_x5 : RI x5 0 19 := rc_lt1 r_x5 rl_20 (ti_nle c_17) (by decide)
        refine lv_aload_n hx hb dX5_readCond_20 rfl (lv_at hl 1 rfl) ?_
        refine lv_sipush (v := 144) hx hb dX5_readCond_21 (by decide) ?_
        refine tk_ir (va_runV (As := [.int 144]) (rest := []) ⟨hx, hb, hml, hown, hts⟩ (c_X7_sees__1 l D cy z H.size Ps ws hw.1 p1 144 s1 h_p1 (rl_144.to (by decide)) o_p1) (cwV 1 hts (gV tw_994 tw_995 tw_996 tw_2 tw_997) rfl rfl rfl (by decide +kernel) ⟨Nat.le_of_ble_eq_true rfl, Nat.le_of_ble_eq_true rfl⟩) (tg_preV hw hK hSD hA (ci := 7) (q := (RX7, TX7, 12)) rfl h_p1 rfl) rfl rfl hl.1 rfl (lv_room (Nat.le_of_ble_eq_true rfl)) dX5_readCond_24 ⟨Nat.le_of_ble_eq_true rfl, Nat.le_of_ble_eq_true rfl⟩) hw hA (fun v_20  H locs hp_v_20 hw => ?_)
        obtain ⟨hfn, hp_v_20⟩ := hp_v_20
        have q_v_20 : (f_X7_sees__1 (144 : Int32) s1) = v_20 := hfn.1
        have r_v_20 : RI v_20 0 1 := hp_v_20.1
        refine lv_if_ne (tgt := 40) hx hb dX5_readCond_27 (by decide) (fun c_27 => ?_) (fun c_27 => ?_)
        · have r_v_20 : RI v_20 1 1 := rc_neL r_v_20 rl_0 (ti_ne c_27) (by decide)
          simp only [f_X5_readCond__13_13, ↓reduceIte, eq_false c_17, q_v_20, eq_false c_27] at hE
          exact B40 x4 x5 s0 s1 s2 ws _ _ ls r_p3 r_x4 r_x5 o_p0 o_p1 o_p2 (by have q0 := r_x5.1; have u0 := r_x5.2; omega) hE hw hl
        · have r_v_20 : RI v_20 0 0 := rc_eq1 r_v_20 rl_0 (ti_eq c_27) (by decide)
          refine lv_aload_n hx hb dX5_readCond_30 rfl (lv_at hl 1 rfl) ?_
          refine lv_sipush (v := 145) hx hb dX5_readCond_31 (by decide) ?_
          refine tk_ir (va_runV (As := [.int 145]) (rest := []) ⟨hx, hb, hml, hown, hts⟩ (c_X7_sees__1 l D cy z H.size Ps ws hw.1 p1 145 s1 h_p1 (rl_145.to (by decide)) o_p1) (cwV 1 hts (gV tw_994 tw_995 tw_996 tw_2 tw_997) rfl rfl rfl (by decide +kernel) ⟨Nat.le_of_ble_eq_true rfl, Nat.le_of_ble_eq_true rfl⟩) (tg_preV hw hK hSD hA (ci := 7) (q := (RX7, TX7, 12)) rfl h_p1 rfl) rfl rfl hl.1 rfl (lv_room (Nat.le_of_ble_eq_true rfl)) dX5_readCond_34 ⟨Nat.le_of_ble_eq_true rfl, Nat.le_of_ble_eq_true rfl⟩) hw hA (fun v_21  H locs hp_v_21 hw => ?_)
          obtain ⟨hfn, hp_v_21⟩ := hp_v_21
          have q_v_21 : (f_X7_sees__1 (145 : Int32) s1) = v_21 := hfn.1
          have r_v_21 : RI v_21 0 1 := hp_v_21.1
          refine lv_if_eq (tgt := 106) hx hb dX5_readCond_37 (by decide) (fun c_37 => ?_) (fun c_37 => ?_)
          · have r_v_21 : RI v_21 0 0 := rc_eq1 r_v_21 rl_0 (ti_eq c_37) (by decide)
            simp only [f_X5_readCond__13_13, ↓reduceIte, eq_false c_17, q_v_20, eq_true c_27, q_v_21, eq_true c_37] at hE
            exact B106 x4 x5 s0 s1 s2 ws _ _ ls r_p3 r_x4 (r_x5.to (by decide)) o_p0 o_p1 o_p2 hE hw hl
          · have r_v_21 : RI v_21 1 1 := rc_neL r_v_21 rl_0 (ti_ne c_37) (by decide)
            simp only [f_X5_readCond__13_13, ↓reduceIte, eq_false c_17, q_v_20, eq_true c_27, q_v_21, eq_false c_37] at hE
            exact B40 x4 x5 s0 s1 s2 ws _ _ ls r_p3 r_x4 r_x5 o_p0 o_p1 o_p2 (by have q0 := r_x5.1; have u0 := r_x5.2; omega) hE hw hl
  refine lv_iconst (v := 0) hx hb dX5_readCond_0 (by decide) ?_
  refine lv_istore (lv' := [(4, .int 0), (0, .ref p0), (1, .ref p1), (2, .ref p2), (3, .int p3)]) hx hb dX5_readCond_1 hl (by decide) rfl (fun ls hl => ?_)
  refine lv_aload_n hx hb dX5_readCond_3 rfl (lv_at hl 1 rfl) ?_
  refine lv_aload_n hx hb dX5_readCond_4 rfl (lv_at hl 2 rfl) ?_
  refine lv_aload_n hx hb dX5_readCond_5 rfl (lv_at hl 3 rfl) ?_
  refine lv_iload_n hx hb dX5_readCond_6 rfl (lv_at hl 4 rfl) ?_
  refine tk_v (va_runV (As := [.ref p1, .ref p2, .int p3]) (rest := []) ⟨hx, hb, hml, hown, hts⟩ (c_X5_readOne__13 l D cy z s.heap.size Ps w0 hw.1 p0 p1 p2 p3 s0 s1 s2 h_p0 h_p1 h_p2 r_p3 o_p0 o_p1 o_p2) (cwV 3 hts (gV tw_977 tw_979 ts_32 tw_23 tw_980) rfl rfl rfl (by decide +kernel) ⟨Nat.le_of_ble_eq_true rfl, Nat.le_of_ble_eq_true rfl⟩) (tg_preV hw hK hSD hA (ci := 5) (q := (RX5, TX5, 5)) rfl h_p0 rfl) rfl rfl hl.1 rfl (lv_room (Nat.le_of_ble_eq_true rfl)) dX5_readCond_7 ⟨Nat.le_of_ble_eq_true rfl, Nat.le_of_ble_eq_true rfl⟩) hw hA ⟨by decide, by decide⟩ (fun ws H locs hp_v_22 hw hF9 => ?_)
  obtain ⟨hfn, hp_v_22⟩ := hp_v_22
  obtain ⟨sg_23, q_sg_23⟩ : ∃ q9 : OS, (f_X5_readOne__13 p3 s0 s1 s2).1 = q9 := ⟨_, rfl⟩
  have o_p0 : OV vw_SENT Ps ws p0 sg_23 := by rw [← q_sg_23]; exact hfn.1
  obtain ⟨sg_24, q_sg_24⟩ : ∃ q9 : OS, (f_X5_readOne__13 p3 s0 s1 s2).2.1 = q9 := ⟨_, rfl⟩
  have o_p1 : OV vw_TAPE Ps ws p1 sg_24 := by rw [← q_sg_24]; exact hfn.2.1
  obtain ⟨sg_25, q_sg_25⟩ : ∃ q9 : OS, (f_X5_readOne__13 p3 s0 s1 s2).2.2 = q9 := ⟨_, rfl⟩
  have o_p2 : OV vw_POST Ps ws p2 sg_25 := by rw [← q_sg_25]; exact hfn.2.2.1
  refine lv_iconst (v := 0) hx hb dX5_readCond_10 (by decide) ?_
  refine lv_istore (lv' := [(5, .int 0), (4, .int 0), (0, .ref p0), (1, .ref p1), (2, .ref p2), (3, .int p3)]) hx hb dX5_readCond_11 hl (by decide) rfl (fun ls hl => ?_)
  simp only [f_X5_readCond__13, ↓reduceIte, q_sg_23, q_sg_24, q_sg_25] at hE
  exact B13 4294967298 0 0 sg_23 sg_24 sg_25 ws _ _ ls (by have q0 := rl_0.1; have u0 := rl_0.2; omega) r_p3 (rl_0.to (by decide)) (rl_0.to (by decide)) o_p0 o_p1 o_p2 hE hw (lv_sub hl [2, 3, 4, 5, 1, 0] rfl)
abbrev wr_X5_readOne__12 : List (Nat × Nat) := [(5, 3), (5, 4), (7, 5), (7, 6), (7, 7), (7, 8), (7, 9), (7, 10), (7, 11)]
abbrev wa_X5_readOne__12 : List Nat := [21]
set_option maxHeartbeats 4000000 in
set_option maxRecDepth 100000 in
theorem c_X5_readOne__12 (l : Launch) (D : va_G) (cy : Nat → ClassId) (z : Nat → Nat) (sz : Nat) (Ps : PSI) (w0 : va_W) (hT : HT cy GG Ps w0) (p0 : Nat) (p1 : Nat) (p2 : Nat) (p3 : Int32) (s0 : OS) (s1 : OS) (s2 : OS) (h_p0 : (p0, 32) ∈ Ps) (h_p1 : (p1, 26) ∈ Ps) (h_p2 : (p2, 25) ∈ Ps) (r_p3 : RI p3 4 4) (o_p0 : OV vw_SENT Ps w0 p0 s0) (o_p1 : OV vw_TAPE Ps w0 p1 s1) (o_p2 : OV vw_POST Ps w0 p2 s2) : Met l yX5_readOne (Cond.code yX5_readOne cX5_readOne 5 none :: gT) ({ frames := 13, cells := 0, slots := 0, locals := 2600 } : Room) (va_Pc [.ref p0, .ref p1, .ref p2, .int p3] (PRE D cy z w0 sz)) (va_Qv (fun (u : va_W) => ((OV vw_SENT Ps u p0 ((f_X5_readOne__12 p3 s0 s1 s2).1) ∧ OV vw_TAPE Ps u p1 ((f_X5_readOne__12 p3 s0 s1 s2).2.1) ∧ OV vw_POST Ps u p2 ((f_X5_readOne__12 p3 s0 s1 s2).2.2) ∧ True) ∧ (True)) ∧ HT cy GG Ps u ∧ FR wr_X5_readOne__12 wa_X5_readOne__12 Ps w0 u) (BB D cy (va_A w0 sz) (fun (u : va_W) => u)) (va_A w0 sz)) 0 0 (va_A w0 sz) := by
  refine Met.ofW (cc := cX5_readOne) (maxL := 5) (ret := none) (by decide) rfl ?_
  intro p e s m args below meth c s₁ B hml hv
  obtain ⟨rfl, hsz, hP, hK, hD0, hSD⟩ := hv
  have hx := B.exec
  have hb := B.bytes
  have hr := B.returns
  have hlocks := B.notSynchronized
  have hts : ∀ w ∈ gT, w.before _ s = true := fun w h => atoms_spec (ws := Cond.code yX5_readOne cX5_readOne 5 none :: gT) B.pre w (List.mem_cons_of_mem _ h)
  have hown : s.vm.findClass RX5 = some m.cls := findClass_of_methodNamed B.named
  subst hsz
  have hD := hD0.self (sz := s.heap.size)
  generalize hAe : va_A w0 s.heap.size = A at hD hSD ⊢
  have hA : ∀ q : Nat, s.heap.size ≤ q → A q := fun q h => by rw [← hAe]; exact Or.inr h
  have hl := lv_entry ([.ref p0, .ref p1, .ref p2, .int p3]) (n := 5) (Nat.le_of_ble_eq_true rfl)
  rw [lg_entry_eq]
  generalize (lg_sl ([.ref p0, .ref p1, .ref p2, .int p3]) ++ List.replicate (5 - (lg_sl ([.ref p0, .ref p1, .ref p2, .int p3])).length) Slot.unset).toArray = ls at hl ⊢
  have hl : lv_has ls 5 [(0, .ref p0), (1, .ref p1), (2, .ref p2), (3, .int p3)] := hl
  refine nameQ (fun Q hQ => ?_)
  have hw : WD D cy GG A s wr_X5_readOne__12 wa_X5_readOne__12 Ps w0 Ps w0 s.heap [] := ⟨hT, hP, hD, va_S.rf, FR.rf, hT.1, [], (List.append_nil _).symm⟩
  obtain ⟨R9, hR⟩ : ∃ q9 : OS × OS × OS, f_X5_readOne__12 p3 s0 s1 s2 = q9 := ⟨_, rfl⟩
  have hE := hR
  have B57 : ∀ (x4 : Int32) (s0 : OS) (s1 : OS) (s2 : OS) (ws : va_W) (H : Heap) (locs : List Loc) (ls : Array Slot), RI p3 4 4 → RI x4 (-2147483648) 2147483647 → OV vw_SENT Ps ws p0 s0 → OV vw_TAPE Ps ws p1 s1 → OV vw_POST Ps ws p2 s2 → f_X5_readOne__12_57 p3 x4 s0 s1 s2 = R9 → WD D cy GG A s wr_X5_readOne__12 wa_X5_readOne__12 Ps w0 Ps ws H locs → lv_has ls 5 [(0, .ref p0), (1, .ref p1), (2, .ref p2), (3, .int p3), (4, .int x4)] → W p l e (headSpec (Cond.code yX5_readOne cX5_readOne 5 none :: gT) ({ frames := 13, cells := 0, slots := 0, locals := 2600 } : Room)).room s m ([.ref p0, .ref p1, .ref p2, .int p3] : List Value).toArray below meth c H locs 0 0 Q (F0 m 57 ls []) := by
    intro x4 s0 s1 s2 ws H locs ls r_p3 r_x4 o_p0 o_p1 o_p2 hE hw hl
    refine lv_aload_n hx hb dX5_readOne_57 rfl (lv_at hl 1 rfl) ?_
    refine tg_getN (ci := 7) (ts := ty_TAPE) (C := RX7) (T := TX7) (N := 12) hx hb hts inX7 hown hK hw h_p1 rfl rfl 10 (by decide) (hSD.nest tn_103) (fun _ h9 => h9) (ft := vI 0 4) rfl dX5_readOne_58 (fun u_1 hv_u_1 m_u_1 => ?_)
    obtain ⟨vu_1, rfl, r_vu_1⟩ := hv_u_1
    have q_vu_1 : s1.1 10 = vu_1 := OV.eqI (V := vw_TAPE) hw.2.2.1 o_p1 m_u_1 (by decide)
    refine lv_if_eq (tgt := 65) hx hb dX5_readOne_61 (by decide) (fun c_61 => ?_) (fun c_61 => ?_)
    · have r_vu_1 : RI vu_1 0 0 := rc_eq1 r_vu_1 rl_0 (ti_eq c_61) (by decide)
      refine lv_aload_n hx hb dX5_readOne_65 rfl (lv_at hl 1 rfl) ?_
      refine tk_v (va_runV (As := []) (rest := []) ⟨hx, hb, hml, hown, hts⟩ (c_X7_pass__5 l D cy z H.size Ps ws hw.1 p1 vu_1 s1 h_p1 r_vu_1 m_u_1 o_p1) (cwV 0 hts (gV tw_982 tw_425 tw_426 tw_2 tw_427) rfl rfl rfl (by decide +kernel) ⟨Nat.le_of_ble_eq_true rfl, Nat.le_of_ble_eq_true rfl⟩) (tg_preV hw hK hSD hA (ci := 7) (q := (RX7, TX7, 12)) rfl h_p1 rfl) rfl rfl hl.1 rfl (lv_room (Nat.le_of_ble_eq_true rfl)) dX5_readOne_66 ⟨Nat.le_of_ble_eq_true rfl, Nat.le_of_ble_eq_true rfl⟩) hw hA ⟨by decide, by decide⟩ (fun ws H locs hp_v_2 hw hF9 => ?_)
      have m_u_1 := FLD.over hF9 m_u_1 (by decide)
      obtain ⟨hfn, hp_v_2⟩ := hp_v_2
      have o_p0 := OV.over (V := vw_SENT) hF9 o_p0 (by decide)
      have o_p2 := OV.over (V := vw_POST) hF9 o_p2 (by decide)
      obtain ⟨sg_3, q_sg_3⟩ : ∃ q9 : OS, (f_X7_pass__5 s1) = q9 := ⟨_, rfl⟩
      have o_p1 : OV vw_TAPE Ps ws p1 sg_3 := by rw [← q_sg_3]; exact hfn.1
      obtain ⟨v_4, m_v_4, r_v_4⟩ := (hp_v_2.1)
      refine lv_aload_n hx hb dX5_readOne_69 rfl (lv_at hl 0 rfl) ?_
      refine lv_dup hx hb dX5_readOne_70 rfl ?_
      refine tg_get (ci := 5) (ts := ty_SENT) (C := RX5) (T := TX5) (N := 5) hx hb hts inX5 hown hK hw h_p0 rfl rfl 4 (by decide) (hts _ tw_955) (fun _ h9 => h9) (ft := vI (-2147483648) 2147483647) rfl dX5_readOne_71 (fun u_5 hv_u_5 m_u_5 => ?_)
      obtain ⟨vu_5, rfl, r_vu_5⟩ := hv_u_5
      have q_vu_5 : s0.1 4 = vu_5 := OV.eqI (V := vw_SENT) hw.2.2.1 o_p0 m_u_5 (by decide)
      refine lv_iconst (v := 1) hx hb dX5_readOne_74 (by decide) ?_
      refine lv_iadd hx hb dX5_readOne_75 (lv_topi (fun v_6 e_v_6 => ?_))
      have r_v_6 := ri_any v_6
      have q_v_6 : vu_5 + (1 : Int32) = v_6 := e_v_6.symm
      refine tg_put (ci := 5) (ts := ty_SENT) (v := .int v_6) (ty := .int) (C := RX5) (T := TX5) (N := 5) hx hb hts inX5 tyX5 tyX5_ok nmX5 hown hK hw h_p0 rfl rfl 4 (by decide) (hts _ tw_955) (fun _ h9 => h9) rfl (by decide +kernel) rfl rfl (ft := vI (-2147483648) 2147483647) rfl ⟨_, rfl, r_v_6⟩ (by decide) dX5_readOne_76 (fun ws H locs hw n_k_7 hF9 => ?_)
      have m_v_4 := FLD.over hF9 m_v_4 (by decide)
      have o_p1 := OV.over (V := vw_TAPE) hF9 o_p1 (by decide)
      have o_p2 := OV.over (V := vw_POST) hF9 o_p2 (by decide)
      obtain ⟨sg_8, q_sg_8⟩ : ∃ q9 : OS, sI s0 4 v_6 = q9 := ⟨_, rfl⟩
      have o_p0 : OV vw_SENT Ps ws p0 sg_8 := by rw [← q_sg_8]; exact OV.putI (V := vw_SENT) hF9 n_k_7 o_p0 (by decide)
      refine lv_iload hx hb dX5_readOne_79 (lv_at hl 4 rfl) ?_
      refine lv_sipush (v := 146) hx hb dX5_readOne_81 (by decide) ?_
      refine lv_icmp_ne (tgt := 108) hx hb dX5_readOne_84 (by decide) (fun c_84 => ?_) (fun c_84 => ?_)
      · refine lv_iload hx hb dX5_readOne_108 (lv_at hl 4 rfl) ?_
        refine lv_bipush (v := 40) hx hb dX5_readOne_110 (by decide) ?_
        refine lv_icmp_ne (tgt := 133) hx hb dX5_readOne_112 (by decide) (fun c_112 => ?_) (fun c_112 => ?_)
        · refine lv_aload_n hx hb dX5_readOne_133 rfl (lv_at hl 0 rfl) ?_
          refine lv_aload_n hx hb dX5_readOne_134 rfl (lv_at hl 1 rfl) ?_
          refine lv_aload_n hx hb dX5_readOne_135 rfl (lv_at hl 2 rfl) ?_
          refine lv_iload hx hb dX5_readOne_136 (lv_at hl 4 rfl) ?_
          refine tk_v (va_runV (As := [.ref p1, .ref p2, .int x4]) (rest := []) ⟨hx, hb, hml, hown, hts⟩ (c_X5_readPlain__1 l D cy z H.size Ps ws hw.1 p0 p1 p2 x4 sg_8 sg_3 s2 h_p0 h_p1 h_p2 r_x4 o_p0 o_p1 o_p2) (cwV 3 hts (gV tw_988 tw_990 ts_34 tw_23 tw_991) rfl rfl rfl (by decide +kernel) ⟨Nat.le_of_ble_eq_true rfl, Nat.le_of_ble_eq_true rfl⟩) (tg_preV hw hK hSD hA (ci := 5) (q := (RX5, TX5, 5)) rfl h_p0 rfl) rfl rfl hl.1 rfl (lv_room (Nat.le_of_ble_eq_true rfl)) dX5_readOne_138 ⟨Nat.le_of_ble_eq_true rfl, Nat.le_of_ble_eq_true rfl⟩) hw hA ⟨by decide, by decide⟩ (fun ws H locs hp_v_9 hw hF9 => ?_)
          have n_k_7 := FLD.over hF9 n_k_7 (by decide)
          obtain ⟨hfn, hp_v_9⟩ := hp_v_9
          obtain ⟨sg_10, q_sg_10⟩ : ∃ q9 : OS, (f_X5_readPlain__1 x4 sg_8 sg_3 s2).1 = q9 := ⟨_, rfl⟩
          have o_p0 : OV vw_SENT Ps ws p0 sg_10 := by rw [← q_sg_10]; exact hfn.1
          obtain ⟨sg_11, q_sg_11⟩ : ∃ q9 : OS, (f_X5_readPlain__1 x4 sg_8 sg_3 s2).2.1 = q9 := ⟨_, rfl⟩
          have o_p1 : OV vw_TAPE Ps ws p1 sg_11 := by rw [← q_sg_11]; exact hfn.2.1
          obtain ⟨sg_12, q_sg_12⟩ : ∃ q9 : OS, (f_X5_readPlain__1 x4 sg_8 sg_3 s2).2.2 = q9 := ⟨_, rfl⟩
          have o_p2 : OV vw_POST Ps ws p2 sg_12 := by rw [← q_sg_12]; exact hfn.2.2.1
          obtain ⟨v_13, m_v_13, r_v_13⟩ := (hp_v_9.1)
          simp only [f_X5_readOne__12_57, ↓reduceIte, q_vu_1, eq_true c_61, q_sg_3, q_vu_5, q_v_6, q_sg_8, eq_false c_84, eq_false c_112, q_sg_10, q_sg_11, q_sg_12] at hE
          subst hQ
          exact W.vret hx hb hr (fun t ht hW => ⟨⟨ws, rfl, ⟨⟨⟨(by rw [hR, ← hE]; exact o_p0), (by rw [hR, ← hE]; exact o_p1), (by rw [hR, ← hE]; exact o_p2), trivial⟩, trivial⟩, hw.1, hw.2.2.2.2.1⟩, by rw [ht]; exact hw.2.1, va_K.moved hW.alike hK, hw.2.2.1⟩, hw.2.2.2.1.F ht⟩) hw.2.2.2.1.2.2 dX5_readOne_141
        · have r_x4 : RI x4 40 40 := rc_eq1 r_x4 rl_40 (ti_eq c_112) (by decide)
          refine lv_aload_n hx hb dX5_readOne_115 rfl (lv_at hl 0 rfl) ?_
          refine lv_aload_n hx hb dX5_readOne_116 rfl (lv_at hl 1 rfl) ?_
          refine lv_aload_n hx hb dX5_readOne_117 rfl (lv_at hl 2 rfl) ?_
          refine lv_iload_n hx hb dX5_readOne_118 rfl (lv_at hl 3 rfl) ?_
          refine lv_iconst (v := 1) hx hb dX5_readOne_119 (by decide) ?_
          refine lv_iadd hx hb dX5_readOne_120 (lv_topi (fun v_14 e_v_14 => ?_))
          obtain ⟨t_v_14, r_v_14⟩ := tq_add (lo := 5) (hi := 5) r_p3 rl_1 (by decide +kernel) e_v_14
          have t_v_14 : v_14.toInt = p3.toInt + 1 := t_v_14
          have q_v_14 : p3 + (1 : Int32) = v_14 := e_v_14.symm
          refine tk_v (va_runV (As := [.ref p1, .ref p2, .int v_14]) (rest := []) ⟨hx, hb, hml, hown, hts⟩ (c_X5_readCond__13 l D cy z H.size Ps ws hw.1 p0 p1 p2 v_14 sg_8 sg_3 s2 h_p0 h_p1 h_p2 r_v_14 o_p0 o_p1 o_p2) (cwV 3 hts (gV tw_973 tw_975 ts_31 tw_23 tw_976) rfl rfl rfl (by decide +kernel) ⟨Nat.le_of_ble_eq_true rfl, Nat.le_of_ble_eq_true rfl⟩) (tg_preV hw hK hSD hA (ci := 5) (q := (RX5, TX5, 5)) rfl h_p0 rfl) rfl rfl hl.1 rfl (lv_room (Nat.le_of_ble_eq_true rfl)) dX5_readOne_121 ⟨Nat.le_of_ble_eq_true rfl, Nat.le_of_ble_eq_true rfl⟩) hw hA ⟨by decide, by decide⟩ (fun ws H locs hp_v_15 hw hF9 => ?_)
          obtain ⟨hfn, hp_v_15⟩ := hp_v_15
          obtain ⟨sg_16, q_sg_16⟩ : ∃ q9 : OS, (f_X5_readCond__13 v_14 sg_8 sg_3 s2).1 = q9 := ⟨_, rfl⟩
          have o_p0 : OV vw_SENT Ps ws p0 sg_16 := by rw [← q_sg_16]; exact hfn.1
          obtain ⟨sg_17, q_sg_17⟩ : ∃ q9 : OS, (f_X5_readCond__13 v_14 sg_8 sg_3 s2).2.1 = q9 := ⟨_, rfl⟩
          have o_p1 : OV vw_TAPE Ps ws p1 sg_17 := by rw [← q_sg_17]; exact hfn.2.1
          obtain ⟨sg_18, q_sg_18⟩ : ∃ q9 : OS, (f_X5_readCond__13 v_14 sg_8 sg_3 s2).2.2 = q9 := ⟨_, rfl⟩
          have o_p2 : OV vw_POST Ps ws p2 sg_18 := by rw [← q_sg_18]; exact hfn.2.2.1
          refine lv_aload_n hx hb dX5_readOne_124 rfl (lv_at hl 1 rfl) ?_
          refine lv_bipush (v := 41) hx hb dX5_readOne_125 (by decide) ?_
          refine tk_v (va_runV (As := [.int 41]) (rest := []) ⟨hx, hb, hml, hown, hts⟩ (c_X7_passOnly__3 l D cy z H.size Ps ws hw.1 p1 41 sg_17 h_p1 (rl_41.to (by decide)) o_p1) (cwV 1 hts (gV tw_987 tw_514 tw_515 tw_2 tw_516) rfl rfl rfl (by decide +kernel) ⟨Nat.le_of_ble_eq_true rfl, Nat.le_of_ble_eq_true rfl⟩) (tg_preV hw hK hSD hA (ci := 7) (q := (RX7, TX7, 12)) rfl h_p1 rfl) rfl rfl hl.1 rfl (lv_room (Nat.le_of_ble_eq_true rfl)) dX5_readOne_127 ⟨Nat.le_of_ble_eq_true rfl, Nat.le_of_ble_eq_true rfl⟩) hw hA ⟨by decide, by decide⟩ (fun ws H locs hp_v_19 hw hF9 => ?_)
          obtain ⟨hfn, hp_v_19⟩ := hp_v_19
          have o_p0 := OV.over (V := vw_SENT) hF9 o_p0 (by decide)
          have o_p2 := OV.over (V := vw_POST) hF9 o_p2 (by decide)
          obtain ⟨sg_20, q_sg_20⟩ : ∃ q9 : OS, (f_X7_passOnly__3 (41 : Int32) sg_17) = q9 := ⟨_, rfl⟩
          have o_p1 : OV vw_TAPE Ps ws p1 sg_20 := by rw [← q_sg_20]; exact hfn.1
          refine lv_goto (tgt := 141) hx hb dX5_readOne_130 (by decide) ?_
          simp only [f_X5_readOne__12_57, ↓reduceIte, q_vu_1, eq_true c_61, q_sg_3, q_vu_5, q_v_6, q_sg_8, eq_false c_84, eq_true c_112, q_v_14, q_sg_16, q_sg_17, q_sg_18, q_sg_20] at hE
          subst hQ
          exact W.vret hx hb hr (fun t ht hW => ⟨⟨ws, rfl, ⟨⟨⟨(by rw [hR, ← hE]; exact o_p0), (by rw [hR, ← hE]; exact o_p1), (by rw [hR, ← hE]; exact o_p2), trivial⟩, trivial⟩, hw.1, hw.2.2.2.2.1⟩, by rw [ht]; exact hw.2.1, va_K.moved hW.alike hK, hw.2.2.1⟩, hw.2.2.2.1.F ht⟩) hw.2.2.2.1.2.2 dX5_readOne_141
      · have r_x4 : RI x4 146 146 := rc_eq1 r_x4 rl_146 (ti_eq c_84) (by decide)
        refine lv_aload_n hx hb dX5_readOne_87 rfl (lv_at hl 0 rfl) ?_
        refine lv_aload_n hx hb dX5_readOne_88 rfl (lv_at hl 1 rfl) ?_
        refine lv_aload_n hx hb dX5_readOne_89 rfl (lv_at hl 2 rfl) ?_
        refine lv_iload_n hx hb dX5_readOne_90 rfl (lv_at hl 3 rfl) ?_
        refine lv_iconst (v := 1) hx hb dX5_readOne_91 (by decide) ?_
        refine lv_iadd hx hb dX5_readOne_92 (lv_topi (fun v_21 e_v_21 => ?_))
        obtain ⟨t_v_21, r_v_21⟩ := tq_add (lo := 5) (hi := 5) r_p3 rl_1 (by decide +kernel) e_v_21
        have t_v_21 : v_21.toInt = p3.toInt + 1 := t_v_21
        have q_v_21 : p3 + (1 : Int32) = v_21 := e_v_21.symm
        refine tk_v (va_runV (As := [.ref p1, .ref p2, .int v_21]) (rest := []) ⟨hx, hb, hml, hown, hts⟩ (c_X5_readOne__13 l D cy z H.size Ps ws hw.1 p0 p1 p2 v_21 sg_8 sg_3 s2 h_p0 h_p1 h_p2 r_v_21 o_p0 o_p1 o_p2) (cwV 3 hts (gV tw_977 tw_979 ts_32 tw_23 tw_980) rfl rfl rfl (by decide +kernel) ⟨Nat.le_of_ble_eq_true rfl, Nat.le_of_ble_eq_true rfl⟩) (tg_preV hw hK hSD hA (ci := 5) (q := (RX5, TX5, 5)) rfl h_p0 rfl) rfl rfl hl.1 rfl (lv_room (Nat.le_of_ble_eq_true rfl)) dX5_readOne_93 ⟨Nat.le_of_ble_eq_true rfl, Nat.le_of_ble_eq_true rfl⟩) hw hA ⟨by decide, by decide⟩ (fun ws H locs hp_v_22 hw hF9 => ?_)
        obtain ⟨hfn, hp_v_22⟩ := hp_v_22
        obtain ⟨sg_23, q_sg_23⟩ : ∃ q9 : OS, (f_X5_readOne__13 v_21 sg_8 sg_3 s2).1 = q9 := ⟨_, rfl⟩
        have o_p0 : OV vw_SENT Ps ws p0 sg_23 := by rw [← q_sg_23]; exact hfn.1
        obtain ⟨sg_24, q_sg_24⟩ : ∃ q9 : OS, (f_X5_readOne__13 v_21 sg_8 sg_3 s2).2.1 = q9 := ⟨_, rfl⟩
        have o_p1 : OV vw_TAPE Ps ws p1 sg_24 := by rw [← q_sg_24]; exact hfn.2.1
        obtain ⟨sg_25, q_sg_25⟩ : ∃ q9 : OS, (f_X5_readOne__13 v_21 sg_8 sg_3 s2).2.2 = q9 := ⟨_, rfl⟩
        have o_p2 : OV vw_POST Ps ws p2 sg_25 := by rw [← q_sg_25]; exact hfn.2.2.1
        refine lv_aload_n hx hb dX5_readOne_96 rfl (lv_at hl 0 rfl) ?_
        refine lv_sipush (v := 146) hx hb dX5_readOne_97 (by decide) ?_
        refine lv_iconst (v := 0) hx hb dX5_readOne_100 (by decide) ?_
        refine lv_iconst (v := 0) hx hb dX5_readOne_101 (by decide) ?_
        refine tk_v (va_runV (As := [.int 146, .int 0, .int 0]) (rest := []) ⟨hx, hb, hml, hown, hts⟩ (c_X5_addStep__1 l D cy z H.size Ps ws hw.1 p0 146 0 0 sg_23 h_p0 (rl_146.to (by decide)) (rl_0.to (by decide)) (rl_0.to (by decide)) o_p0) (cwV 3 hts (gV tw_983 tw_985 ts_33 tw_23 tw_986) rfl rfl rfl (by decide +kernel) ⟨Nat.le_of_ble_eq_true rfl, Nat.le_of_ble_eq_true rfl⟩) (tg_preV hw hK hSD hA (ci := 5) (q := (RX5, TX5, 5)) rfl h_p0 rfl) rfl rfl hl.1 rfl (lv_room (Nat.le_of_ble_eq_true rfl)) dX5_readOne_102 ⟨Nat.le_of_ble_eq_true rfl, Nat.le_of_ble_eq_true rfl⟩) hw hA ⟨by decide, by decide⟩ (fun ws H locs hp_v_26 hw hF9 => ?_)
        obtain ⟨hfn, hp_v_26⟩ := hp_v_26
        have o_p1 := OV.over (V := vw_TAPE) hF9 o_p1 (by decide)
        have o_p2 := OV.over (V := vw_POST) hF9 o_p2 (by decide)
        obtain ⟨sg_27, q_sg_27⟩ : ∃ q9 : OS, (f_X5_addStep__1 (146 : Int32) (0 : Int32) (0 : Int32) sg_23) = q9 := ⟨_, rfl⟩
        have o_p0 : OV vw_SENT Ps ws p0 sg_27 := by rw [← q_sg_27]; exact hfn.1
        obtain ⟨v_28, m_v_28, r_v_28⟩ := (hp_v_26.1)
        refine lv_goto (tgt := 141) hx hb dX5_readOne_105 (by decide) ?_
        simp only [f_X5_readOne__12_57, ↓reduceIte, q_vu_1, eq_true c_61, q_sg_3, q_vu_5, q_v_6, q_sg_8, eq_true c_84, q_v_21, q_sg_23, q_sg_24, q_sg_25, q_sg_27] at hE
        subst hQ
        exact W.vret hx hb hr (fun t ht hW => ⟨⟨ws, rfl, ⟨⟨⟨(by rw [hR, ← hE]; exact o_p0), (by rw [hR, ← hE]; exact o_p1), (by rw [hR, ← hE]; exact o_p2), trivial⟩, trivial⟩, hw.1, hw.2.2.2.2.1⟩, by rw [ht]; exact hw.2.1, va_K.moved hW.alike hK, hw.2.2.1⟩, hw.2.2.2.1.F ht⟩) hw.2.2.2.1.2.2 dX5_readOne_141
    · have r_vu_1 : RI vu_1 1 4 := rc_neL r_vu_1 rl_0 (ti_ne c_61) (by decide)
      simp only [f_X5_readOne__12_57, ↓reduceIte, q_vu_1, eq_false c_61] at hE
      subst hQ
      exact W.vret hx hb hr (fun t ht hW => ⟨⟨ws, rfl, ⟨⟨⟨(by rw [hR, ← hE]; exact o_p0), (by rw [hR, ← hE]; exact o_p1), (by rw [hR, ← hE]; exact o_p2), trivial⟩, trivial⟩, hw.1, hw.2.2.2.2.1⟩, by rw [ht]; exact hw.2.1, va_K.moved hW.alike hK, hw.2.2.1⟩, hw.2.2.2.1.F ht⟩) hw.2.2.2.1.2.2 dX5_readOne_64
  have B52 : ∀ (x4 : Int32) (z0_4 : Int32) (z1_7 : Int32) (s0 : OS) (s1 : OS) (s2 : OS) (ws : va_W) (H : Heap) (locs : List Loc) (ls : Array Slot), RI p3 4 4 → RI x4 40 155 → RI z0_4 20 2147483647 → FLD ws p0 5 4 (.int z0_4) → RI z1_7 40 155 → FLD ws p1 7 7 (.int z1_7) → OV vw_SENT Ps ws p0 s0 → OV vw_TAPE Ps ws p1 s1 → OV vw_POST Ps ws p2 s2 → f_X5_readOne__12_52 p3 x4 s0 s1 s2 = R9 → WD D cy GG A s wr_X5_readOne__12 wa_X5_readOne__12 Ps w0 Ps ws H locs → lv_has ls 5 [(0, .ref p0), (1, .ref p1), (2, .ref p2), (3, .int p3), (4, .int x4)] → W p l e (headSpec (Cond.code yX5_readOne cX5_readOne 5 none :: gT) ({ frames := 13, cells := 0, slots := 0, locals := 2600 } : Room)).room s m ([.ref p0, .ref p1, .ref p2, .int p3] : List Value).toArray below meth c H locs 0 0 Q (F0 m 52 ls []) := by
    intro x4 z0_4 z1_7 s0 s1 s2 ws H locs ls r_p3 r_x4 r_z0_4 m_z0_4 r_z1_7 m_z1_7 o_p0 o_p1 o_p2 hE hw hl
    have q_z0_4 : s0.1 4 = z0_4 := OV.eqI (V := vw_SENT) hw.2.2.1 o_p0 m_z0_4 (by decide)
    have q_z1_7 : s1.1 7 = z1_7 := OV.eqI (V := vw_TAPE) hw.2.2.1 o_p1 m_z1_7 (by decide)
    refine lv_aload_n hx hb dX5_readOne_52 rfl (lv_at hl 1 rfl) ?_
    refine lv_iconst (v := 4) hx hb dX5_readOne_53 (by decide) ?_
    refine tk_v (va_runV (As := [.int 4]) (rest := []) ⟨hx, hb, hml, hown, hts⟩ (c_X7_refuse__4 l D cy z H.size Ps ws hw.1 p1 4 s1 h_p1 (rl_4.to (by decide)) o_p1) (cwV 1 hts (gV tw_981 tw_443 tw_444 tw_2 tw_445) rfl rfl rfl (by decide +kernel) ⟨Nat.le_of_ble_eq_true rfl, Nat.le_of_ble_eq_true rfl⟩) (tg_preV hw hK hSD hA (ci := 7) (q := (RX7, TX7, 12)) rfl h_p1 rfl) rfl rfl hl.1 rfl (lv_room (Nat.le_of_ble_eq_true rfl)) dX5_readOne_54 ⟨Nat.le_of_ble_eq_true rfl, Nat.le_of_ble_eq_true rfl⟩) hw hA ⟨by decide, by decide⟩ (fun ws H locs hp_v_29 hw hF9 => ?_)
    have m_z0_4 := FLD.over hF9 m_z0_4 (by decide)
    have m_z1_7 := FLD.over hF9 m_z1_7 (by decide)
    obtain ⟨hfn, hp_v_29⟩ := hp_v_29
    have o_p0 := OV.over (V := vw_SENT) hF9 o_p0 (by decide)
    have o_p2 := OV.over (V := vw_POST) hF9 o_p2 (by decide)
    obtain ⟨sg_30, q_sg_30⟩ : ∃ q9 : OS, (f_X7_refuse__4 (4 : Int32) s1) = q9 := ⟨_, rfl⟩
    have o_p1 : OV vw_TAPE Ps ws p1 sg_30 := by rw [← q_sg_30]; exact hfn.1
    obtain ⟨v_31, m_v_31, r_v_31⟩ := (hp_v_29.1)
    simp only [f_X5_readOne__12_52, ↓reduceIte, q_z0_4, q_z1_7, q_sg_30] at hE
    exact B57 x4 s0 sg_30 s2 ws _ _ ls r_p3 (r_x4.to (by decide)) o_p0 o_p1 o_p2 hE hw hl
  have B37 : ∀ (x4 : Int32) (z1_7 : Int32) (s0 : OS) (s1 : OS) (s2 : OS) (ws : va_W) (H : Heap) (locs : List Loc) (ls : Array Slot), RI p3 4 4 → RI x4 40 155 → RI z1_7 40 155 → FLD ws p1 7 7 (.int z1_7) → OV vw_SENT Ps ws p0 s0 → OV vw_TAPE Ps ws p1 s1 → OV vw_POST Ps ws p2 s2 → f_X5_readOne__12_37 p3 x4 s0 s1 s2 = R9 → WD D cy GG A s wr_X5_readOne__12 wa_X5_readOne__12 Ps w0 Ps ws H locs → lv_has ls 5 [(0, .ref p0), (1, .ref p1), (2, .ref p2), (3, .int p3), (4, .int x4)] → W p l e (headSpec (Cond.code yX5_readOne cX5_readOne 5 none :: gT) ({ frames := 13, cells := 0, slots := 0, locals := 2600 } : Room)).room s m ([.ref p0, .ref p1, .ref p2, .int p3] : List Value).toArray below meth c H locs 0 0 Q (F0 m 37 ls []) := by
    intro x4 z1_7 s0 s1 s2 ws H locs ls r_p3 r_x4 r_z1_7 m_z1_7 o_p0 o_p1 o_p2 hE hw hl
    have q_z1_7 : s1.1 7 = z1_7 := OV.eqI (V := vw_TAPE) hw.2.2.1 o_p1 m_z1_7 (by decide)
    refine lv_aload_n hx hb dX5_readOne_37 rfl (lv_at hl 0 rfl) ?_
    refine tg_get (ci := 5) (ts := ty_SENT) (C := RX5) (T := TX5) (N := 5) hx hb hts inX5 hown hK hw h_p0 rfl rfl 4 (by decide) (hts _ tw_955) (fun _ h9 => h9) (ft := vI (-2147483648) 2147483647) rfl dX5_readOne_38 (fun u_32 hv_u_32 m_u_32 => ?_)
    obtain ⟨vu_32, rfl, r_vu_32⟩ := hv_u_32
    have q_vu_32 : s0.1 4 = vu_32 := OV.eqI (V := vw_SENT) hw.2.2.1 o_p0 m_u_32 (by decide)
    refine lv_bipush (v := 20) hx hb dX5_readOne_41 (by decide) ?_
    refine lv_icmp_ge (tgt := 52) hx hb dX5_readOne_43 (by decide) (fun c_43 => ?_) (fun c_43 => ?_)
    · have r_vu_32 : RI vu_32 20 2147483647 := rc_le2 rl_20 r_vu_32 (ti_le c_43) (by decide)
      simp only [f_X5_readOne__12_37, ↓reduceIte, q_z1_7, q_vu_32, eq_true c_43] at hE
      exact B52 x4 vu_32 z1_7 s0 s1 s2 ws _ _ ls r_p3 r_x4 r_vu_32 m_u_32 r_z1_7 m_z1_7 o_p0 o_p1 o_p2 hE hw hl
    · have r_vu_32 : RI vu_32 (-2147483648) 19 := rc_lt1 r_vu_32 rl_20 (ti_nle c_43) (by decide)
      refine lv_iload_n hx hb dX5_readOne_46 rfl (lv_at hl 3 rfl) ?_
      refine lv_bipush (v := 8) hx hb dX5_readOne_47 (by decide) ?_
      refine lv_icmp_le (tgt := 57) hx hb dX5_readOne_49 (by decide) (fun c_49 => ?_) (fun c_49 => ?_)
      · simp only [f_X5_readOne__12_37, ↓reduceIte, q_z1_7, q_vu_32, eq_false c_43, eq_true c_49] at hE
        exact B57 x4 s0 s1 s2 ws _ _ ls r_p3 (r_x4.to (by decide)) o_p0 o_p1 o_p2 hE hw hl
      · have r_p3 : RI p3 9 4 := rc_lt2 rl_8 r_p3 (ti_nle c_49) (by decide)
        exact (r_p3.no (by decide)).elim
  have B29 : ∀ (x4 : Int32) (s0 : OS) (s1 : OS) (s2 : OS) (ws : va_W) (H : Heap) (locs : List Loc) (ls : Array Slot), RI p3 4 4 → RI x4 (-2147483648) 2147483647 → OV vw_SENT Ps ws p0 s0 → OV vw_TAPE Ps ws p1 s1 → OV vw_POST Ps ws p2 s2 → f_X5_readOne__12_29 p3 x4 s0 s1 s2 = R9 → WD D cy GG A s wr_X5_readOne__12 wa_X5_readOne__12 Ps w0 Ps ws H locs → lv_has ls 5 [(0, .ref p0), (1, .ref p1), (2, .ref p2), (3, .int p3), (4, .int x4)] → W p l e (headSpec (Cond.code yX5_readOne cX5_readOne 5 none :: gT) ({ frames := 13, cells := 0, slots := 0, locals := 2600 } : Room)).room s m ([.ref p0, .ref p1, .ref p2, .int p3] : List Value).toArray below meth c H locs 0 0 Q (F0 m 29 ls []) := by
    intro x4 s0 s1 s2 ws H locs ls r_p3 r_x4 o_p0 o_p1 o_p2 hE hw hl
    refine lv_aload_n hx hb dX5_readOne_29 rfl (lv_at hl 1 rfl) ?_
    refine lv_iconst (v := 1) hx hb dX5_readOne_30 (by decide) ?_
    refine tk_v (va_runV (As := [.int 1]) (rest := []) ⟨hx, hb, hml, hown, hts⟩ (c_X7_refuse__4 l D cy z H.size Ps ws hw.1 p1 1 s1 h_p1 (rl_1.to (by decide)) o_p1) (cwV 1 hts (gV tw_981 tw_443 tw_444 tw_2 tw_445) rfl rfl rfl (by decide +kernel) ⟨Nat.le_of_ble_eq_true rfl, Nat.le_of_ble_eq_true rfl⟩) (tg_preV hw hK hSD hA (ci := 7) (q := (RX7, TX7, 12)) rfl h_p1 rfl) rfl rfl hl.1 rfl (lv_room (Nat.le_of_ble_eq_true rfl)) dX5_readOne_31 ⟨Nat.le_of_ble_eq_true rfl, Nat.le_of_ble_eq_true rfl⟩) hw hA ⟨by decide, by decide⟩ (fun ws H locs hp_v_33 hw hF9 => ?_)
    obtain ⟨hfn, hp_v_33⟩ := hp_v_33
    have o_p0 := OV.over (V := vw_SENT) hF9 o_p0 (by decide)
    have o_p2 := OV.over (V := vw_POST) hF9 o_p2 (by decide)
    obtain ⟨sg_34, q_sg_34⟩ : ∃ q9 : OS, (f_X7_refuse__4 (1 : Int32) s1) = q9 := ⟨_, rfl⟩
    have o_p1 : OV vw_TAPE Ps ws p1 sg_34 := by rw [← q_sg_34]; exact hfn.1
    obtain ⟨v_35, m_v_35, r_v_35⟩ := (hp_v_33.1)
    refine lv_goto (tgt := 57) hx hb dX5_readOne_34 (by decide) ?_
    simp only [f_X5_readOne__12_29, ↓reduceIte, q_sg_34] at hE
    exact B57 x4 s0 sg_34 s2 ws _ _ ls r_p3 r_x4 o_p0 o_p1 o_p2 hE hw hl
  refine lv_aload_n hx hb dX5_readOne_0 rfl (lv_at hl 1 rfl) ?_
  refine tg_getN (ci := 7) (ts := ty_TAPE) (C := RX7) (T := TX7) (N := 12) hx hb hts inX7 hown hK hw h_p1 rfl rfl 7 (by decide) (hSD.nest tn_96) (fun _ h9 => h9) (ft := vI (-2147483648) 2147483647) rfl dX5_readOne_1 (fun u_36 hv_u_36 m_u_36 => ?_)
  obtain ⟨vu_36, rfl, r_vu_36⟩ := hv_u_36
  have q_vu_36 : s1.1 7 = vu_36 := OV.eqI (V := vw_TAPE) hw.2.2.1 o_p1 m_u_36 (by decide)
  refine lv_istore (lv' := [(4, .int vu_36), (0, .ref p0), (1, .ref p1), (2, .ref p2), (3, .int p3)]) hx hb dX5_readOne_4 hl (by decide) rfl (fun ls hl => ?_)
  refine lv_iload hx hb dX5_readOne_6 (lv_at hl 0 rfl) ?_
  refine lv_bipush (v := 40) hx hb dX5_readOne_8 (by decide) ?_
  refine lv_icmp_eq (tgt := 37) hx hb dX5_readOne_10 (by decide) (fun c_10 => ?_) (fun c_10 => ?_)
  · have r_vu_36 : RI vu_36 40 40 := rc_eq1 r_vu_36 rl_40 (ti_eq c_10) (by decide)
    simp only [f_X5_readOne__12, ↓reduceIte, q_vu_36, eq_true c_10] at hE
    exact B37 vu_36 vu_36 s0 s1 s2 w0 _ _ ls r_p3 (r_vu_36.to (by decide)) (r_vu_36.to (by decide)) m_u_36 o_p0 o_p1 o_p2 hE hw (lv_sub hl [1, 2, 3, 4, 0] rfl)
  · refine lv_iload hx hb dX5_readOne_13 (lv_at hl 0 rfl) ?_
    refine lv_sipush (v := 146) hx hb dX5_readOne_15 (by decide) ?_
    refine lv_icmp_lt (tgt := 29) hx hb dX5_readOne_18 (by decide) (fun c_18 => ?_) (fun c_18 => ?_)
    · have r_vu_36 : RI vu_36 (-2147483648) 145 := rc_lt1 r_vu_36 rl_146 (ti_lt c_18) (by decide)
      simp only [f_X5_readOne__12, ↓reduceIte, q_vu_36, eq_false c_10, eq_true c_18] at hE
      exact B29 vu_36 s0 s1 s2 w0 _ _ ls r_p3 (r_vu_36.to (by decide)) o_p0 o_p1 o_p2 hE hw (lv_sub hl [1, 2, 3, 4, 0] rfl)
    · have r_vu_36 : RI vu_36 146 2147483647 := rc_le2 rl_146 r_vu_36 (ti_nlt c_18) (by decide)
      refine lv_iload hx hb dX5_readOne_21 (lv_at hl 0 rfl) ?_
      refine lv_sipush (v := 155) hx hb dX5_readOne_23 (by decide) ?_
      refine lv_icmp_le (tgt := 37) hx hb dX5_readOne_26 (by decide) (fun c_26 => ?_) (fun c_26 => ?_)
      · have r_vu_36 : RI vu_36 146 155 := rc_le1 r_vu_36 rl_155 (ti_le c_26) (by decide)
        simp only [f_X5_readOne__12, ↓reduceIte, q_vu_36, eq_false c_10, eq_false c_18, eq_true c_26] at hE
        exact B37 vu_36 vu_36 s0 s1 s2 w0 _ _ ls r_p3 (r_vu_36.to (by decide)) (r_vu_36.to (by decide)) m_u_36 o_p0 o_p1 o_p2 hE hw (lv_sub hl [1, 2, 3, 4, 0] rfl)
      · have r_vu_36 : RI vu_36 156 2147483647 := rc_lt2 rl_155 r_vu_36 (ti_nle c_26) (by decide)
        simp only [f_X5_readOne__12, ↓reduceIte, q_vu_36, eq_false c_10, eq_false c_18, eq_false c_26] at hE
        exact B29 vu_36 s0 s1 s2 w0 _ _ ls r_p3 (r_vu_36.to (by decide)) o_p0 o_p1 o_p2 hE hw (lv_sub hl [1, 2, 3, 4, 0] rfl)
