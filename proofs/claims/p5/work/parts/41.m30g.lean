abbrev wr_X7_takeName__11 : List (Nat × Nat) := [(7, 5), (7, 6), (7, 7), (7, 8), (7, 9), (7, 10), (7, 11)]
abbrev wa_X7_takeName__11 : List Nat := []
set_option maxHeartbeats 4000000 in
set_option maxRecDepth 100000 in
theorem c_X7_takeName__11 (l : Launch) (D : va_G) (cy : Nat → ClassId) (z : Nat → Nat) (sz : Nat) (Ps : PSI) (w0 : va_W) (hT : HT cy GG Ps w0) (p0 : Nat) (p1 : Nat) (p2 : Int32) (f0_10 : Int32) (s0 : OS) (s1 : OS) (h_p0 : (p0, 26) ∈ Ps) (h_p1 : (p1, 25) ∈ Ps) (r_p2 : RI p2 1 1) (r_f0_10 : RI f0_10 0 0) (m_f0_10 : FLD w0 p0 7 10 (.int f0_10)) (o_p0 : OV vw_TAPE Ps w0 p0 s0) (o_p1 : OV vw_POST Ps w0 p1 s1) : Met l yX7_takeName (Cond.code yX7_takeName cX7_takeName 4 (some .int) :: gT) ({ frames := 3, cells := 0, slots := 0, locals := 600 } : Room) (va_Pc [.ref p0, .ref p1, .int p2] (PRE D cy z w0 sz)) (va_Qi (fun (r : Int32) (u : va_W) => ((OV vw_TAPE Ps u p0 ((f_X7_takeName__11 p2 s0 s1).1) ∧ OV vw_POST Ps u p1 ((f_X7_takeName__11 p2 s0 s1).2.1) ∧ (f_X7_takeName__11 p2 s0 s1).2.2 = r ∧ True) ∧ (RI r (-1) 3 ∧ (r = 0 → True) ∧ (¬ r = 0 → True) ∧ (True) ∧ (r.toInt < 0 → FLTp u p0 ∧ True) ∧ (0 ≤ r.toInt → True))) ∧ HT cy GG Ps u ∧ FR wr_X7_takeName__11 wa_X7_takeName__11 Ps w0 u) (BB D cy (va_A w0 sz) (fun (u : va_W) => u)) (va_A w0 sz)) 0 0 (va_A w0 sz) := by
  refine Met.ofW (cc := cX7_takeName) (maxL := 4) (ret := (some .int)) (by decide) rfl ?_
  intro p e s m args below meth c s₁ B hml hv
  obtain ⟨rfl, hsz, hP, hK, hD0, hSD⟩ := hv
  have hx := B.exec
  have hb := B.bytes
  have hr := B.returns
  have hlocks := B.notSynchronized
  have hts : ∀ w ∈ gT, w.before _ s = true := fun w h => atoms_spec (ws := Cond.code yX7_takeName cX7_takeName 4 (some .int) :: gT) B.pre w (List.mem_cons_of_mem _ h)
  have hown : s.vm.findClass RX7 = some m.cls := findClass_of_methodNamed B.named
  subst hsz
  have hD := hD0.self (sz := s.heap.size)
  generalize hAe : va_A w0 s.heap.size = A at hD hSD ⊢
  have hA : ∀ q : Nat, s.heap.size ≤ q → A q := fun q h => by rw [← hAe]; exact Or.inr h
  have hl := lv_entry ([.ref p0, .ref p1, .int p2]) (n := 4) (Nat.le_of_ble_eq_true rfl)
  rw [lg_entry_eq]
  generalize (lg_sl ([.ref p0, .ref p1, .int p2]) ++ List.replicate (4 - (lg_sl ([.ref p0, .ref p1, .int p2])).length) Slot.unset).toArray = ls at hl ⊢
  have hl : lv_has ls 4 [(0, .ref p0), (1, .ref p1), (2, .int p2)] := hl
  refine nameQ (fun Q hQ => ?_)
  have hw : WD D cy GG A s wr_X7_takeName__11 wa_X7_takeName__11 Ps w0 Ps w0 s.heap [] := ⟨hT, hP, hD, va_S.rf, FR.rf, hT.1, [], (List.append_nil _).symm⟩
  obtain ⟨R9, hR⟩ : ∃ q9 : OS × OS × Int32, f_X7_takeName__11 p2 s0 s1 = q9 := ⟨_, rfl⟩
  have hE := hR
  refine lv_aload_n hx hb dX7_takeName_0 rfl (lv_at hl 0 rfl) ?_
  refine lv_aload_n hx hb dX7_takeName_1 rfl (lv_at hl 1 rfl) ?_
  refine lv_iload_n hx hb dX7_takeName_2 rfl (lv_at hl 2 rfl) ?_
  refine tk_i (va_runV (As := [.ref p1, .int p2]) (rest := []) ⟨hx, hb, hml, hown, hts⟩ (c_X7_nameAhead__12 l D cy z s.heap.size Ps w0 hw.1 p0 p1 p2 f0_10 s0 s1 h_p0 h_p1 r_p2 r_f0_10 m_f0_10 o_p0 o_p1) (cwV 2 hts (gV tw_468 tw_457 tw_458 tw_2 tw_459) rfl rfl rfl (by decide +kernel) ⟨Nat.le_of_ble_eq_true rfl, Nat.le_of_ble_eq_true rfl⟩) (tg_preV hw hK hSD hA (ci := 7) (q := (RX7, TX7, 12)) rfl h_p0 rfl) rfl rfl hl.1 rfl (lv_room (Nat.le_of_ble_eq_true rfl)) dX7_takeName_3 ⟨Nat.le_of_ble_eq_true rfl, Nat.le_of_ble_eq_true rfl⟩) hw hA ⟨by decide, by decide⟩ (fun v_1 ws H locs hp_v_1 hw hF9 => ?_)
  obtain ⟨hfn, hp_v_1⟩ := hp_v_1
  obtain ⟨sg_2, q_sg_2⟩ : ∃ q9 : OS, (f_X7_nameAhead__12 p2 s0 s1).1 = q9 := ⟨_, rfl⟩
  have o_p0 : OV vw_TAPE Ps ws p0 sg_2 := by rw [← q_sg_2]; exact hfn.1
  obtain ⟨sg_3, q_sg_3⟩ : ∃ q9 : OS, (f_X7_nameAhead__12 p2 s0 s1).2.1 = q9 := ⟨_, rfl⟩
  have o_p1 : OV vw_POST Ps ws p1 sg_3 := by rw [← q_sg_3]; exact hfn.2.1
  have q_v_1 : (f_X7_nameAhead__12 p2 s0 s1).2.2 = v_1 := hfn.2.2.1
  have r_v_1 : RI v_1 (-1) 3 := hp_v_1.1
  by_cases c9_v_1 : v_1.toInt < 0
  · have r_v_1 : RI v_1 (-1) (-1) := by unfold RI at r_v_1 ⊢; omega
    have x_FLT_p0 := (hp_v_1.2.2.2.2.1 (by omega)).1
    obtain ⟨v_4, m_v_4, r_v_4⟩ := id x_FLT_p0
    refine lv_istore_n (lv' := [(3, .int v_1), (0, .ref p0), (1, .ref p1), (2, .int p2)]) hx hb dX7_takeName_6 rfl hl (by decide) rfl (fun ls hl => ?_)
    refine lv_aload_n hx hb dX7_takeName_7 rfl (lv_at hl 1 rfl) ?_
    refine tk_vr (va_runV (As := []) (rest := []) ⟨hx, hb, hml, hown, hts⟩ (c_X7_pass__4 l D cy z H.size Ps ws hw.1 p0 v_4 sg_2 h_p0 r_v_4 m_v_4 o_p0) (cwV 0 hts (gV tw_424 tw_425 tw_426 tw_2 tw_427) rfl rfl rfl (by decide +kernel) ⟨Nat.le_of_ble_eq_true rfl, Nat.le_of_ble_eq_true rfl⟩) (tg_preV hw hK hSD hA (ci := 7) (q := (RX7, TX7, 12)) rfl h_p0 rfl) rfl rfl hl.1 rfl (lv_room (Nat.le_of_ble_eq_true rfl)) dX7_takeName_8 ⟨Nat.le_of_ble_eq_true rfl, Nat.le_of_ble_eq_true rfl⟩) hw hA (fun  H locs hp_v_5 hw => ?_)
    obtain ⟨hfn, hp_v_5⟩ := hp_v_5
    refine lv_iload_n hx hb dX7_takeName_11 rfl (lv_at hl 0 rfl) ?_
    simp only [f_X7_takeName__11, ↓reduceIte, q_sg_2, q_sg_3, q_v_1, eq_true c9_v_1] at hE
    subst hQ
    exact W.iret (v := v_1) hx hb hr (fun t ht hW => ⟨⟨v_1, ws, rfl, ⟨⟨⟨(by rw [hR, ← hE]; exact o_p0), (by rw [hR, ← hE]; exact o_p1), (by rw [hR, ← hE]), trivial⟩, r_v_1.to (by decide), (fun _ => trivial), (fun h0 => trivial), trivial, (fun h0 => ⟨x_FLT_p0, trivial⟩), (fun _ => trivial)⟩, hw.1, hw.2.2.2.2.1⟩, by rw [ht]; exact hw.2.1, va_K.moved hW.alike hK, hw.2.2.1⟩, hw.2.2.2.1.F ht⟩) hw.2.2.2.1.2.2 dX7_takeName_12
  · have r_v_1 : RI v_1 0 3 := by unfold RI at r_v_1 ⊢; omega
    refine lv_istore_n (lv' := [(3, .int v_1), (0, .ref p0), (1, .ref p1), (2, .int p2)]) hx hb dX7_takeName_6 rfl hl (by decide) rfl (fun ls hl => ?_)
    refine lv_aload_n hx hb dX7_takeName_7 rfl (lv_at hl 1 rfl) ?_
    refine tk_v (va_runV (As := []) (rest := []) ⟨hx, hb, hml, hown, hts⟩ (c_X7_pass__6 l D cy z H.size Ps ws hw.1 p0 sg_2 h_p0 o_p0) (cwV 0 hts (gV tw_424 tw_425 tw_426 tw_2 tw_427) rfl rfl rfl (by decide +kernel) ⟨Nat.le_of_ble_eq_true rfl, Nat.le_of_ble_eq_true rfl⟩) (tg_preV hw hK hSD hA (ci := 7) (q := (RX7, TX7, 12)) rfl h_p0 rfl) rfl rfl hl.1 rfl (lv_room (Nat.le_of_ble_eq_true rfl)) dX7_takeName_8 ⟨Nat.le_of_ble_eq_true rfl, Nat.le_of_ble_eq_true rfl⟩) hw hA ⟨by decide, by decide⟩ (fun ws H locs hp_v_6 hw hF9 => ?_)
    obtain ⟨hfn, hp_v_6⟩ := hp_v_6
    have o_p1 := OV.over (V := vw_POST) hF9 o_p1 (by decide)
    obtain ⟨sg_7, q_sg_7⟩ : ∃ q9 : OS, (f_X7_pass__6 sg_2) = q9 := ⟨_, rfl⟩
    have o_p0 : OV vw_TAPE Ps ws p0 sg_7 := by rw [← q_sg_7]; exact hfn.1
    refine lv_iload_n hx hb dX7_takeName_11 rfl (lv_at hl 0 rfl) ?_
    simp only [f_X7_takeName__11, ↓reduceIte, q_sg_2, q_sg_3, q_v_1, eq_false c9_v_1, q_sg_7] at hE
    subst hQ
    exact W.iret (v := v_1) hx hb hr (fun t ht hW => ⟨⟨v_1, ws, rfl, ⟨⟨⟨(by rw [hR, ← hE]; exact o_p0), (by rw [hR, ← hE]; exact o_p1), (by rw [hR, ← hE]), trivial⟩, r_v_1.to (by decide), (fun h0 => trivial), (fun h0 => trivial), trivial, (fun h0 => absurd h0 (by have h8 := r_v_1; unfold RI at h8; omega)), (fun _ => trivial)⟩, hw.1, hw.2.2.2.2.1⟩, by rw [ht]; exact hw.2.1, va_K.moved hW.alike hK, hw.2.2.1⟩, hw.2.2.2.1.F ht⟩) hw.2.2.2.1.2.2 dX7_takeName_12
abbrev wr_X7_nameAhead__13 : List (Nat × Nat) := [(7, 10), (7, 11)]
abbrev wa_X7_nameAhead__13 : List Nat := []
set_option maxHeartbeats 4000000 in
set_option maxRecDepth 100000 in
theorem c_X7_nameAhead__13 (l : Launch) (D : va_G) (cy : Nat → ClassId) (z : Nat → Nat) (sz : Nat) (Ps : PSI) (w0 : va_W) (hT : HT cy GG Ps w0) (p0 : Nat) (p1 : Nat) (p2 : Int32) (s0 : OS) (s1 : OS) (h_p0 : (p0, 26) ∈ Ps) (h_p1 : (p1, 25) ∈ Ps) (r_p2 : RI p2 1 1) (o_p0 : OV vw_TAPE Ps w0 p0 s0) (o_p1 : OV vw_POST Ps w0 p1 s1) : Met l yX7_nameAhead (Cond.code yX7_nameAhead cX7_nameAhead 4 (some .int) :: gT) ({ frames := 2, cells := 0, slots := 0, locals := 400 } : Room) (va_Pc [.ref p0, .ref p1, .int p2] (PRE D cy z w0 sz)) (va_Qi (fun (r : Int32) (u : va_W) => ((OV vw_TAPE Ps u p0 ((f_X7_nameAhead__13 p2 s0 s1).1) ∧ OV vw_POST Ps u p1 ((f_X7_nameAhead__13 p2 s0 s1).2.1) ∧ (f_X7_nameAhead__13 p2 s0 s1).2.2 = r ∧ True) ∧ (RI r (-1) 3 ∧ (r = 0 → True) ∧ (¬ r = 0 → True) ∧ (True) ∧ (r.toInt < 0 → FLTp u p0 ∧ True) ∧ (0 ≤ r.toInt → True))) ∧ HT cy GG Ps u ∧ FR wr_X7_nameAhead__13 wa_X7_nameAhead__13 Ps w0 u) (BB D cy (va_A w0 sz) (fun (u : va_W) => u)) (va_A w0 sz)) 0 0 (va_A w0 sz) := by
  refine Met.ofW (cc := cX7_nameAhead) (maxL := 4) (ret := (some .int)) (by decide) rfl ?_
  intro p e s m args below meth c s₁ B hml hv
  obtain ⟨rfl, hsz, hP, hK, hD0, hSD⟩ := hv
  have hx := B.exec
  have hb := B.bytes
  have hr := B.returns
  have hlocks := B.notSynchronized
  have hts : ∀ w ∈ gT, w.before _ s = true := fun w h => atoms_spec (ws := Cond.code yX7_nameAhead cX7_nameAhead 4 (some .int) :: gT) B.pre w (List.mem_cons_of_mem _ h)
  have hown : s.vm.findClass RX7 = some m.cls := findClass_of_methodNamed B.named
  subst hsz
  have hD := hD0.self (sz := s.heap.size)
  generalize hAe : va_A w0 s.heap.size = A at hD hSD ⊢
  have hA : ∀ q : Nat, s.heap.size ≤ q → A q := fun q h => by rw [← hAe]; exact Or.inr h
  have hl := lv_entry ([.ref p0, .ref p1, .int p2]) (n := 4) (Nat.le_of_ble_eq_true rfl)
  rw [lg_entry_eq]
  generalize (lg_sl ([.ref p0, .ref p1, .int p2]) ++ List.replicate (4 - (lg_sl ([.ref p0, .ref p1, .int p2])).length) Slot.unset).toArray = ls at hl ⊢
  have hl : lv_has ls 4 [(0, .ref p0), (1, .ref p1), (2, .int p2)] := hl
  refine nameQ (fun Q hQ => ?_)
  have hw : WD D cy GG A s wr_X7_nameAhead__13 wa_X7_nameAhead__13 Ps w0 Ps w0 s.heap [] := ⟨hT, hP, hD, va_S.rf, FR.rf, hT.1, [], (List.append_nil _).symm⟩
  obtain ⟨R9, hR⟩ : ∃ q9 : OS × OS × Int32, f_X7_nameAhead__13 p2 s0 s1 = q9 := ⟨_, rfl⟩
  have hE := hR
  refine lv_aload_n hx hb dX7_nameAhead_0 rfl (lv_at hl 0 rfl) ?_
  refine tg_get (ci := 7) (ts := ty_TAPE) (C := RX7) (T := TX7) (N := 12) hx hb hts inX7 hown hK hw h_p0 rfl rfl 7 (by decide) (hts _ tw_98) (fun _ h9 => h9) (ft := vI (-2147483648) 2147483647) rfl dX7_nameAhead_1 (fun u_1 hv_u_1 m_u_1 => ?_)
  obtain ⟨vu_1, rfl, r_vu_1⟩ := hv_u_1
  have q_vu_1 : s0.1 7 = vu_1 := OV.eqI (V := vw_TAPE) hw.2.2.1 o_p0 m_u_1 (by decide)
  refine lv_iconst (v := 2) hx hb dX7_nameAhead_4 (by decide) ?_
  refine lv_icmp_eq (tgt := 15) hx hb dX7_nameAhead_5 (by decide) (fun c_5 => ?_) (fun c_5 => ?_)
  · have r_vu_1 : RI vu_1 2 2 := rc_eq1 r_vu_1 rl_2 (ti_eq c_5) (by decide)
    refine lv_aload_n hx hb dX7_nameAhead_15 rfl (lv_at hl 1 rfl) ?_
    refine lv_aload_n hx hb dX7_nameAhead_16 rfl (lv_at hl 0 rfl) ?_
    refine tg_get (ci := 7) (ts := ty_TAPE) (C := RX7) (T := TX7) (N := 12) hx hb hts inX7 hown hK hw h_p0 rfl rfl 8 (by decide) (hts _ tw_100) (fun _ h9 => h9) (ft := vJ (-9223372036854775808) 9223372036854775807) rfl dX7_nameAhead_17 (fun u_2 hv_u_2 m_u_2 => ?_)
    obtain ⟨vu_2, rfl, r_vu_2⟩ := hv_u_2
    have q_vu_2 : s0.2.1 8 = vu_2 := OV.eqL (V := vw_TAPE) hw.2.2.1 o_p0 m_u_2 (by decide)
    refine lv_iload_n hx hb dX7_nameAhead_20 rfl (lv_at hl 2 rfl) ?_
    refine tk_ir (va_runV (As := [.long vu_2, .int p2]) (rest := []) ⟨hx, hb, hml, hown, hts⟩ (c_X3_numberOf__6 l D cy z s.heap.size Ps w0 hw.1 p1 vu_2 p2 s1 h_p1 r_vu_2 r_p2 o_p1) (cwV 2 hts (gV tw_460 tw_461 tw_462 tw_11 tw_463) rfl rfl rfl (by decide +kernel) ⟨Nat.le_of_ble_eq_true rfl, Nat.le_of_ble_eq_true rfl⟩) (tg_preV hw hK hSD hA (ci := 3) (q := (RX3, TX3, 9)) rfl h_p1 rfl) rfl rfl hl.1 rfl (lv_room (Nat.le_of_ble_eq_true rfl)) dX7_nameAhead_21 ⟨Nat.le_of_ble_eq_true rfl, Nat.le_of_ble_eq_true rfl⟩) hw hA (fun v_3  H locs hp_v_3 hw => ?_)
    obtain ⟨hfn, hp_v_3⟩ := hp_v_3
    have q_v_3 : (f_X3_numberOf__5 vu_2 p2 s1) = v_3 := hfn.1
    have r_v_3 : RI v_3 (-1) 3 := hp_v_3.1
    refine lv_istore_n (lv' := [(3, .int v_3), (0, .ref p0), (1, .ref p1), (2, .int p2)]) hx hb dX7_nameAhead_24 rfl hl (by decide) rfl (fun ls hl => ?_)
    refine lv_iload_n hx hb dX7_nameAhead_25 rfl (lv_at hl 0 rfl) ?_
    refine lv_iconst (v := (-1)) hx hb dX7_nameAhead_26 (by decide) ?_
    refine lv_icmp_ne (tgt := 35) hx hb dX7_nameAhead_27 (by decide) (fun c_27 => ?_) (fun c_27 => ?_)
    · have r_v_3 : RI v_3 0 3 := rc_neL r_v_3 rl_m1 (ti_ne c_27) (by decide)
      refine lv_aload_n hx hb dX7_nameAhead_35 rfl (lv_at hl 1 rfl) ?_
      refine tg_get (ci := 7) (ts := ty_TAPE) (C := RX7) (T := TX7) (N := 12) hx hb hts inX7 hown hK hw h_p0 rfl rfl 10 (by decide) (hts _ tw_104) (fun _ h9 => h9) (ft := vI 0 4) rfl dX7_nameAhead_36 (fun u_4 hv_u_4 m_u_4 => ?_)
      obtain ⟨vu_4, rfl, r_vu_4⟩ := hv_u_4
      have q_vu_4 : s0.1 10 = vu_4 := OV.eqI (V := vw_TAPE) hw.2.2.1 o_p0 m_u_4 (by decide)
      refine lv_if_ne (tgt := 46) hx hb dX7_nameAhead_39 (by decide) (fun c_39 => ?_) (fun c_39 => ?_)
      · have r_vu_4 : RI vu_4 1 4 := rc_neL r_vu_4 rl_0 (ti_ne c_39) (by decide)
        refine lv_iconst (v := (-1)) hx hb dX7_nameAhead_46 (by decide) ?_
        simp only [f_X7_nameAhead__13, ↓reduceIte, q_vu_1, eq_true c_5, q_vu_2, q_v_3, eq_false c_27, q_vu_4, eq_false c_39] at hE
        subst hQ
        have x_FLT_p0 : FLTp w0 p0 := ⟨_, m_u_4, r_vu_4.to (by decide)⟩
        exact W.iret (v := (-1)) hx hb hr (fun t ht hW => ⟨⟨(-1), w0, rfl, ⟨⟨⟨(by rw [hR, ← hE]; exact o_p0), (by rw [hR, ← hE]; exact o_p1), (by rw [hR, ← hE]), trivial⟩, rl_m1.to (by decide), (fun _ => trivial), (fun h0 => trivial), trivial, (fun h0 => ⟨x_FLT_p0, trivial⟩), (fun _ => trivial)⟩, hw.1, hw.2.2.2.2.1⟩, by rw [ht]; exact hw.2.1, va_K.moved hW.alike hK, hw.2.2.1⟩, hw.2.2.2.1.F ht⟩) hw.2.2.2.1.2.2 dX7_nameAhead_47
      · have r_vu_4 : RI vu_4 0 0 := rc_eq1 r_vu_4 rl_0 (ti_eq c_39) (by decide)
        refine lv_iload_n hx hb dX7_nameAhead_42 rfl (lv_at hl 0 rfl) ?_
        refine lv_goto (tgt := 47) hx hb dX7_nameAhead_43 (by decide) ?_
        simp only [f_X7_nameAhead__13, ↓reduceIte, q_vu_1, eq_true c_5, q_vu_2, q_v_3, eq_false c_27, q_vu_4, eq_true c_39] at hE
        subst hQ
        exact W.iret (v := v_3) hx hb hr (fun t ht hW => ⟨⟨v_3, w0, rfl, ⟨⟨⟨(by rw [hR, ← hE]; exact o_p0), (by rw [hR, ← hE]; exact o_p1), (by rw [hR, ← hE]), trivial⟩, r_v_3.to (by decide), (fun h0 => trivial), (fun h0 => trivial), trivial, (fun h0 => absurd h0 (by have h8 := r_v_3; unfold RI at h8; omega)), (fun _ => trivial)⟩, hw.1, hw.2.2.2.2.1⟩, by rw [ht]; exact hw.2.1, va_K.moved hW.alike hK, hw.2.2.1⟩, hw.2.2.2.1.F ht⟩) hw.2.2.2.1.2.2 dX7_nameAhead_47
    · have r_v_3 : RI v_3 (-1) (-1) := rc_eq1 r_v_3 rl_m1 (ti_eq c_27) (by decide)
      refine lv_aload_n hx hb dX7_nameAhead_30 rfl (lv_at hl 1 rfl) ?_
      refine lv_iconst (v := 3) hx hb dX7_nameAhead_31 (by decide) ?_
      refine tk_v (va_runV (As := [.int 3]) (rest := []) ⟨hx, hb, hml, hown, hts⟩ (c_X7_refuse__4 l D cy z H.size Ps w0 hw.1 p0 3 s0 h_p0 (rl_3.to (by decide)) o_p0) (cwV 1 hts (gV tw_442 tw_443 tw_444 tw_2 tw_445) rfl rfl rfl (by decide +kernel) ⟨Nat.le_of_ble_eq_true rfl, Nat.le_of_ble_eq_true rfl⟩) (tg_preV hw hK hSD hA (ci := 7) (q := (RX7, TX7, 12)) rfl h_p0 rfl) rfl rfl hl.1 rfl (lv_room (Nat.le_of_ble_eq_true rfl)) dX7_nameAhead_32 ⟨Nat.le_of_ble_eq_true rfl, Nat.le_of_ble_eq_true rfl⟩) hw hA ⟨by decide, by decide⟩ (fun ws H locs hp_v_5 hw hF9 => ?_)
      have m_u_1 := FLD.over hF9 m_u_1 (by decide)
      have m_u_2 := FLD.over hF9 m_u_2 (by decide)
      obtain ⟨hfn, hp_v_5⟩ := hp_v_5
      have o_p1 := OV.over (V := vw_POST) hF9 o_p1 (by decide)
      obtain ⟨sg_6, q_sg_6⟩ : ∃ q9 : OS, (f_X7_refuse__4 (3 : Int32) s0) = q9 := ⟨_, rfl⟩
      have o_p0 : OV vw_TAPE Ps ws p0 sg_6 := by rw [← q_sg_6]; exact hfn.1
      obtain ⟨v_7, m_v_7, r_v_7⟩ := (hp_v_5.1)
      refine lv_aload_n hx hb dX7_nameAhead_35 rfl (lv_at hl 1 rfl) ?_
      refine tg_mem (ci := 7) (C := RX7) (T := TX7) (N := 12) hx hb hts inX7 hown hK hw 10 m_v_7 rfl (by decide) (hts _ tw_104) (fun _ h9 => h9) dX7_nameAhead_36 ?_
      have q_v_7 : sg_6.1 10 = v_7 := OV.eqI (V := vw_TAPE) hw.2.2.1 o_p0 m_v_7 (by decide)
      refine lv_if_ne (tgt := 46) hx hb dX7_nameAhead_39 (by decide) (fun c_39 => ?_) (fun c_39 => ?_)
      · refine lv_iconst (v := (-1)) hx hb dX7_nameAhead_46 (by decide) ?_
        simp only [f_X7_nameAhead__13, ↓reduceIte, q_vu_1, eq_true c_5, q_vu_2, q_v_3, eq_true c_27, q_sg_6, q_v_7, eq_false c_39] at hE
        subst hQ
        have x_FLT_p0 : FLTp ws p0 := ⟨_, m_v_7, r_v_7.to (by decide)⟩
        exact W.iret (v := (-1)) hx hb hr (fun t ht hW => ⟨⟨(-1), ws, rfl, ⟨⟨⟨(by rw [hR, ← hE]; exact o_p0), (by rw [hR, ← hE]; exact o_p1), (by rw [hR, ← hE]), trivial⟩, rl_m1.to (by decide), (fun _ => trivial), (fun h0 => trivial), trivial, (fun h0 => ⟨x_FLT_p0, trivial⟩), (fun _ => trivial)⟩, hw.1, hw.2.2.2.2.1⟩, by rw [ht]; exact hw.2.1, va_K.moved hW.alike hK, hw.2.2.1⟩, hw.2.2.2.1.F ht⟩) hw.2.2.2.1.2.2 dX7_nameAhead_47
      · have r_v_7 : RI v_7 1 0 := rc_eq1 r_v_7 rl_0 (ti_eq c_39) (by decide)
        exact (r_v_7.no (by decide)).elim
  · refine lv_aload_n hx hb dX7_nameAhead_8 rfl (lv_at hl 0 rfl) ?_
    refine lv_iconst (v := 1) hx hb dX7_nameAhead_9 (by decide) ?_
    refine tk_v (va_runV (As := [.int 1]) (rest := []) ⟨hx, hb, hml, hown, hts⟩ (c_X7_refuse__4 l D cy z s.heap.size Ps w0 hw.1 p0 1 s0 h_p0 (rl_1.to (by decide)) o_p0) (cwV 1 hts (gV tw_442 tw_443 tw_444 tw_2 tw_445) rfl rfl rfl (by decide +kernel) ⟨Nat.le_of_ble_eq_true rfl, Nat.le_of_ble_eq_true rfl⟩) (tg_preV hw hK hSD hA (ci := 7) (q := (RX7, TX7, 12)) rfl h_p0 rfl) rfl rfl hl.1 rfl (lv_room (Nat.le_of_ble_eq_true rfl)) dX7_nameAhead_10 ⟨Nat.le_of_ble_eq_true rfl, Nat.le_of_ble_eq_true rfl⟩) hw hA ⟨by decide, by decide⟩ (fun ws H locs hp_v_8 hw hF9 => ?_)
    have m_u_1 := FLD.over hF9 m_u_1 (by decide)
    obtain ⟨hfn, hp_v_8⟩ := hp_v_8
    have o_p1 := OV.over (V := vw_POST) hF9 o_p1 (by decide)
    obtain ⟨sg_9, q_sg_9⟩ : ∃ q9 : OS, (f_X7_refuse__4 (1 : Int32) s0) = q9 := ⟨_, rfl⟩
    have o_p0 : OV vw_TAPE Ps ws p0 sg_9 := by rw [← q_sg_9]; exact hfn.1
    obtain ⟨v_10, m_v_10, r_v_10⟩ := (hp_v_8.1)
    refine lv_iconst (v := (-1)) hx hb dX7_nameAhead_13 (by decide) ?_
    simp only [f_X7_nameAhead__13, ↓reduceIte, q_vu_1, eq_false c_5, q_sg_9] at hE
    subst hQ
    have x_FLT_p0 : FLTp ws p0 := ⟨_, m_v_10, r_v_10.to (by decide)⟩
    exact W.iret (v := (-1)) hx hb hr (fun t ht hW => ⟨⟨(-1), ws, rfl, ⟨⟨⟨(by rw [hR, ← hE]; exact o_p0), (by rw [hR, ← hE]; exact o_p1), (by rw [hR, ← hE]), trivial⟩, rl_m1.to (by decide), (fun _ => trivial), (fun h0 => trivial), trivial, (fun h0 => ⟨x_FLT_p0, trivial⟩), (fun _ => trivial)⟩, hw.1, hw.2.2.2.2.1⟩, by rw [ht]; exact hw.2.1, va_K.moved hW.alike hK, hw.2.2.1⟩, hw.2.2.2.1.F ht⟩) hw.2.2.2.1.2.2 dX7_nameAhead_14
abbrev wr_X7_takeName__12 : List (Nat × Nat) := [(7, 5), (7, 6), (7, 7), (7, 8), (7, 9), (7, 10), (7, 11)]
abbrev wa_X7_takeName__12 : List Nat := []
set_option maxHeartbeats 4000000 in
set_option maxRecDepth 100000 in
theorem c_X7_takeName__12 (l : Launch) (D : va_G) (cy : Nat → ClassId) (z : Nat → Nat) (sz : Nat) (Ps : PSI) (w0 : va_W) (hT : HT cy GG Ps w0) (p0 : Nat) (p1 : Nat) (p2 : Int32) (s0 : OS) (s1 : OS) (h_p0 : (p0, 26) ∈ Ps) (h_p1 : (p1, 25) ∈ Ps) (r_p2 : RI p2 1 1) (o_p0 : OV vw_TAPE Ps w0 p0 s0) (o_p1 : OV vw_POST Ps w0 p1 s1) : Met l yX7_takeName (Cond.code yX7_takeName cX7_takeName 4 (some .int) :: gT) ({ frames := 3, cells := 0, slots := 0, locals := 600 } : Room) (va_Pc [.ref p0, .ref p1, .int p2] (PRE D cy z w0 sz)) (va_Qi (fun (r : Int32) (u : va_W) => ((OV vw_TAPE Ps u p0 ((f_X7_takeName__12 p2 s0 s1).1) ∧ OV vw_POST Ps u p1 ((f_X7_takeName__12 p2 s0 s1).2.1) ∧ (f_X7_takeName__12 p2 s0 s1).2.2 = r ∧ True) ∧ (RI r (-1) 3 ∧ (r = 0 → True) ∧ (¬ r = 0 → True) ∧ (True) ∧ (r.toInt < 0 → FLTp u p0 ∧ True) ∧ (0 ≤ r.toInt → True))) ∧ HT cy GG Ps u ∧ FR wr_X7_takeName__12 wa_X7_takeName__12 Ps w0 u) (BB D cy (va_A w0 sz) (fun (u : va_W) => u)) (va_A w0 sz)) 0 0 (va_A w0 sz) := by
  refine Met.ofW (cc := cX7_takeName) (maxL := 4) (ret := (some .int)) (by decide) rfl ?_
  intro p e s m args below meth c s₁ B hml hv
  obtain ⟨rfl, hsz, hP, hK, hD0, hSD⟩ := hv
  have hx := B.exec
  have hb := B.bytes
  have hr := B.returns
  have hlocks := B.notSynchronized
  have hts : ∀ w ∈ gT, w.before _ s = true := fun w h => atoms_spec (ws := Cond.code yX7_takeName cX7_takeName 4 (some .int) :: gT) B.pre w (List.mem_cons_of_mem _ h)
  have hown : s.vm.findClass RX7 = some m.cls := findClass_of_methodNamed B.named
  subst hsz
  have hD := hD0.self (sz := s.heap.size)
  generalize hAe : va_A w0 s.heap.size = A at hD hSD ⊢
  have hA : ∀ q : Nat, s.heap.size ≤ q → A q := fun q h => by rw [← hAe]; exact Or.inr h
  have hl := lv_entry ([.ref p0, .ref p1, .int p2]) (n := 4) (Nat.le_of_ble_eq_true rfl)
  rw [lg_entry_eq]
  generalize (lg_sl ([.ref p0, .ref p1, .int p2]) ++ List.replicate (4 - (lg_sl ([.ref p0, .ref p1, .int p2])).length) Slot.unset).toArray = ls at hl ⊢
  have hl : lv_has ls 4 [(0, .ref p0), (1, .ref p1), (2, .int p2)] := hl
  refine nameQ (fun Q hQ => ?_)
  have hw : WD D cy GG A s wr_X7_takeName__12 wa_X7_takeName__12 Ps w0 Ps w0 s.heap [] := ⟨hT, hP, hD, va_S.rf, FR.rf, hT.1, [], (List.append_nil _).symm⟩
  obtain ⟨R9, hR⟩ : ∃ q9 : OS × OS × Int32, f_X7_takeName__12 p2 s0 s1 = q9 := ⟨_, rfl⟩
  have hE := hR
  refine lv_aload_n hx hb dX7_takeName_0 rfl (lv_at hl 0 rfl) ?_
  refine lv_aload_n hx hb dX7_takeName_1 rfl (lv_at hl 1 rfl) ?_
  refine lv_iload_n hx hb dX7_takeName_2 rfl (lv_at hl 2 rfl) ?_
  refine tk_i (va_runV (As := [.ref p1, .int p2]) (rest := []) ⟨hx, hb, hml, hown, hts⟩ (c_X7_nameAhead__13 l D cy z s.heap.size Ps w0 hw.1 p0 p1 p2 s0 s1 h_p0 h_p1 r_p2 o_p0 o_p1) (cwV 2 hts (gV tw_468 tw_457 tw_458 tw_2 tw_459) rfl rfl rfl (by decide +kernel) ⟨Nat.le_of_ble_eq_true rfl, Nat.le_of_ble_eq_true rfl⟩) (tg_preV hw hK hSD hA (ci := 7) (q := (RX7, TX7, 12)) rfl h_p0 rfl) rfl rfl hl.1 rfl (lv_room (Nat.le_of_ble_eq_true rfl)) dX7_takeName_3 ⟨Nat.le_of_ble_eq_true rfl, Nat.le_of_ble_eq_true rfl⟩) hw hA ⟨by decide, by decide⟩ (fun v_1 ws H locs hp_v_1 hw hF9 => ?_)
  obtain ⟨hfn, hp_v_1⟩ := hp_v_1
  obtain ⟨sg_2, q_sg_2⟩ : ∃ q9 : OS, (f_X7_nameAhead__13 p2 s0 s1).1 = q9 := ⟨_, rfl⟩
  have o_p0 : OV vw_TAPE Ps ws p0 sg_2 := by rw [← q_sg_2]; exact hfn.1
  obtain ⟨sg_3, q_sg_3⟩ : ∃ q9 : OS, (f_X7_nameAhead__13 p2 s0 s1).2.1 = q9 := ⟨_, rfl⟩
  have o_p1 : OV vw_POST Ps ws p1 sg_3 := by rw [← q_sg_3]; exact hfn.2.1
  have q_v_1 : (f_X7_nameAhead__13 p2 s0 s1).2.2 = v_1 := hfn.2.2.1
  have r_v_1 : RI v_1 (-1) 3 := hp_v_1.1
  by_cases c9_v_1 : v_1.toInt < 0
  · have r_v_1 : RI v_1 (-1) (-1) := by unfold RI at r_v_1 ⊢; omega
    have x_FLT_p0 := (hp_v_1.2.2.2.2.1 (by omega)).1
    obtain ⟨v_4, m_v_4, r_v_4⟩ := id x_FLT_p0
    refine lv_istore_n (lv' := [(3, .int v_1), (0, .ref p0), (1, .ref p1), (2, .int p2)]) hx hb dX7_takeName_6 rfl hl (by decide) rfl (fun ls hl => ?_)
    refine lv_aload_n hx hb dX7_takeName_7 rfl (lv_at hl 1 rfl) ?_
    refine tk_vr (va_runV (As := []) (rest := []) ⟨hx, hb, hml, hown, hts⟩ (c_X7_pass__4 l D cy z H.size Ps ws hw.1 p0 v_4 sg_2 h_p0 r_v_4 m_v_4 o_p0) (cwV 0 hts (gV tw_424 tw_425 tw_426 tw_2 tw_427) rfl rfl rfl (by decide +kernel) ⟨Nat.le_of_ble_eq_true rfl, Nat.le_of_ble_eq_true rfl⟩) (tg_preV hw hK hSD hA (ci := 7) (q := (RX7, TX7, 12)) rfl h_p0 rfl) rfl rfl hl.1 rfl (lv_room (Nat.le_of_ble_eq_true rfl)) dX7_takeName_8 ⟨Nat.le_of_ble_eq_true rfl, Nat.le_of_ble_eq_true rfl⟩) hw hA (fun  H locs hp_v_5 hw => ?_)
    obtain ⟨hfn, hp_v_5⟩ := hp_v_5
    refine lv_iload_n hx hb dX7_takeName_11 rfl (lv_at hl 0 rfl) ?_
    simp only [f_X7_takeName__12, ↓reduceIte, q_sg_2, q_sg_3, q_v_1, eq_true c9_v_1] at hE
    subst hQ
    exact W.iret (v := v_1) hx hb hr (fun t ht hW => ⟨⟨v_1, ws, rfl, ⟨⟨⟨(by rw [hR, ← hE]; exact o_p0), (by rw [hR, ← hE]; exact o_p1), (by rw [hR, ← hE]), trivial⟩, r_v_1.to (by decide), (fun _ => trivial), (fun h0 => trivial), trivial, (fun h0 => ⟨x_FLT_p0, trivial⟩), (fun _ => trivial)⟩, hw.1, hw.2.2.2.2.1⟩, by rw [ht]; exact hw.2.1, va_K.moved hW.alike hK, hw.2.2.1⟩, hw.2.2.2.1.F ht⟩) hw.2.2.2.1.2.2 dX7_takeName_12
  · have r_v_1 : RI v_1 0 3 := by unfold RI at r_v_1 ⊢; omega
    refine lv_istore_n (lv' := [(3, .int v_1), (0, .ref p0), (1, .ref p1), (2, .int p2)]) hx hb dX7_takeName_6 rfl hl (by decide) rfl (fun ls hl => ?_)
    refine lv_aload_n hx hb dX7_takeName_7 rfl (lv_at hl 1 rfl) ?_
    refine tk_v (va_runV (As := []) (rest := []) ⟨hx, hb, hml, hown, hts⟩ (c_X7_pass__6 l D cy z H.size Ps ws hw.1 p0 sg_2 h_p0 o_p0) (cwV 0 hts (gV tw_424 tw_425 tw_426 tw_2 tw_427) rfl rfl rfl (by decide +kernel) ⟨Nat.le_of_ble_eq_true rfl, Nat.le_of_ble_eq_true rfl⟩) (tg_preV hw hK hSD hA (ci := 7) (q := (RX7, TX7, 12)) rfl h_p0 rfl) rfl rfl hl.1 rfl (lv_room (Nat.le_of_ble_eq_true rfl)) dX7_takeName_8 ⟨Nat.le_of_ble_eq_true rfl, Nat.le_of_ble_eq_true rfl⟩) hw hA ⟨by decide, by decide⟩ (fun ws H locs hp_v_6 hw hF9 => ?_)
    obtain ⟨hfn, hp_v_6⟩ := hp_v_6
    have o_p1 := OV.over (V := vw_POST) hF9 o_p1 (by decide)
    obtain ⟨sg_7, q_sg_7⟩ : ∃ q9 : OS, (f_X7_pass__6 sg_2) = q9 := ⟨_, rfl⟩
    have o_p0 : OV vw_TAPE Ps ws p0 sg_7 := by rw [← q_sg_7]; exact hfn.1
    refine lv_iload_n hx hb dX7_takeName_11 rfl (lv_at hl 0 rfl) ?_
    simp only [f_X7_takeName__12, ↓reduceIte, q_sg_2, q_sg_3, q_v_1, eq_false c9_v_1, q_sg_7] at hE
    subst hQ
    exact W.iret (v := v_1) hx hb hr (fun t ht hW => ⟨⟨v_1, ws, rfl, ⟨⟨⟨(by rw [hR, ← hE]; exact o_p0), (by rw [hR, ← hE]; exact o_p1), (by rw [hR, ← hE]), trivial⟩, r_v_1.to (by decide), (fun h0 => trivial), (fun h0 => trivial), trivial, (fun h0 => absurd h0 (by have h8 := r_v_1; unfold RI at h8; omega)), (fun _ => trivial)⟩, hw.1, hw.2.2.2.2.1⟩, by rw [ht]; exact hw.2.1, va_K.moved hW.alike hK, hw.2.2.1⟩, hw.2.2.2.1.F ht⟩) hw.2.2.2.1.2.2 dX7_takeName_12
abbrev wr_X3_readNamed__6 : List (Nat × Nat) := [(7, 5), (7, 6), (7, 7), (7, 8), (7, 9), (7, 10), (7, 11)]
abbrev wa_X3_readNamed__6 : List Nat := [1, 4, 9]
set_option maxHeartbeats 4000000 in
set_option maxRecDepth 100000 in
theorem c_X3_readNamed__6 (l : Launch) (D : va_G) (cy : Nat → ClassId) (z : Nat → Nat) (sz : Nat) (Ps : PSI) (w0 : va_W) (hT : HT cy GG Ps w0) (p0 : Nat) (p1 : Nat) (p2 : Nat) (p3 : Int32) (s0 : OS) (s1 : OS) (s2 : OS) (h_p0 : (p0, 25) ∈ Ps) (h_p1 : (p1, 26) ∈ Ps) (h_p2 : (p2, 24) ∈ Ps) (r_p3 : RI p3 2 2) (x_MLT_p0_2 : AXC 3 1 4 (fun f => (f 2).toInt < 6) Ps w0 p0) (o_p0 : OV vw_POST Ps w0 p0 s0) (o_p1 : OV vw_TAPE Ps w0 p1 s1) (o_p2 : OV vw_WORLD Ps w0 p2 s2) : Met l yX3_readNamed (Cond.code yX3_readNamed cX3_readNamed 5 none :: gT) ({ frames := 4, cells := 0, slots := 0, locals := 800 } : Room) (va_Pc [.ref p0, .ref p1, .ref p2, .int p3] (PRE D cy z w0 sz)) (va_Qv (fun (u : va_W) => ((OV vw_POST Ps u p0 ((f_X3_readNamed__6 p3 s0 s1 s2).1) ∧ OV vw_TAPE Ps u p1 ((f_X3_readNamed__6 p3 s0 s1 s2).2.1) ∧ OV vw_WORLD Ps u p2 ((f_X3_readNamed__6 p3 s0 s1 s2).2.2) ∧ True) ∧ (True)) ∧ HT cy GG Ps u ∧ FR wr_X3_readNamed__6 wa_X3_readNamed__6 Ps w0 u) (BB D cy (va_A w0 sz) (fun (u : va_W) => u)) (va_A w0 sz)) 0 0 (va_A w0 sz) := by
  refine Met.ofW (cc := cX3_readNamed) (maxL := 5) (ret := none) (by decide) rfl ?_
  intro p e s m args below meth c s₁ B hml hv
  obtain ⟨rfl, hsz, hP, hK, hD0, hSD⟩ := hv
  have hx := B.exec
  have hb := B.bytes
  have hr := B.returns
  have hlocks := B.notSynchronized
  have hts : ∀ w ∈ gT, w.before _ s = true := fun w h => atoms_spec (ws := Cond.code yX3_readNamed cX3_readNamed 5 none :: gT) B.pre w (List.mem_cons_of_mem _ h)
  have hown : s.vm.findClass RX3 = some m.cls := findClass_of_methodNamed B.named
  subst hsz
  have hD := hD0.self (sz := s.heap.size)
  generalize hAe : va_A w0 s.heap.size = A at hD hSD ⊢
  have hA : ∀ q : Nat, s.heap.size ≤ q → A q := fun q h => by rw [← hAe]; exact Or.inr h
  have hl := lv_entry ([.ref p0, .ref p1, .ref p2, .int p3]) (n := 5) (Nat.le_of_ble_eq_true rfl)
  rw [lg_entry_eq]
  generalize (lg_sl ([.ref p0, .ref p1, .ref p2, .int p3]) ++ List.replicate (5 - (lg_sl ([.ref p0, .ref p1, .ref p2, .int p3])).length) Slot.unset).toArray = ls at hl ⊢
  have hl : lv_has ls 5 [(0, .ref p0), (1, .ref p1), (2, .ref p2), (3, .int p3)] := hl
  refine nameQ (fun Q hQ => ?_)
  have hw : WD D cy GG A s wr_X3_readNamed__6 wa_X3_readNamed__6 Ps w0 Ps w0 s.heap [] := ⟨hT, hP, hD, va_S.rf, FR.rf, hT.1, [], (List.append_nil _).symm⟩
  obtain ⟨R9, hR⟩ : ∃ q9 : OS × OS × OS, f_X3_readNamed__6 p3 s0 s1 s2 = q9 := ⟨_, rfl⟩
  have hE := hR
  refine lv_aload_n hx hb dX3_readNamed_0 rfl (lv_at hl 0 rfl) ?_
  refine lv_aload_n hx hb dX3_readNamed_1 rfl (lv_at hl 1 rfl) ?_
  refine lv_iload_n hx hb dX3_readNamed_2 rfl (lv_at hl 3 rfl) ?_
  refine tk_i (va_runV (As := [.ref p1, .int p3]) (rest := []) ⟨hx, hb, hml, hown, hts⟩ (c_X3_tellName__6 l D cy z s.heap.size Ps w0 hw.1 p0 p1 p3 s0 s1 h_p0 h_p1 r_p3 x_MLT_p0_2 o_p0 o_p1) (cwV 2 hts (gV tw_503 tw_505 ts_7 tw_11 tw_506) rfl rfl rfl (by decide +kernel) ⟨Nat.le_of_ble_eq_true rfl, Nat.le_of_ble_eq_true rfl⟩) (tg_preV hw hK hSD hA (ci := 3) (q := (RX3, TX3, 9)) rfl h_p0 rfl) rfl rfl hl.1 rfl (lv_room (Nat.le_of_ble_eq_true rfl)) dX3_readNamed_3 ⟨Nat.le_of_ble_eq_true rfl, Nat.le_of_ble_eq_true rfl⟩) hw hA ⟨by decide, by decide⟩ (fun v_1 ws H locs hp_v_1 hw hF9 => ?_)
  obtain ⟨hfn, hp_v_1⟩ := hp_v_1
  have o_p2 := OV.over (V := vw_WORLD) hF9 o_p2 (by decide)
  obtain ⟨sg_2, q_sg_2⟩ : ∃ q9 : OS, (f_X3_tellName__4 p3 s0 s1).1 = q9 := ⟨_, rfl⟩
  have o_p0 : OV vw_POST Ps ws p0 sg_2 := by rw [← q_sg_2]; exact hfn.1
  obtain ⟨sg_3, q_sg_3⟩ : ∃ q9 : OS, (f_X3_tellName__4 p3 s0 s1).2.1 = q9 := ⟨_, rfl⟩
  have o_p1 : OV vw_TAPE Ps ws p1 sg_3 := by rw [← q_sg_3]; exact hfn.2.1
  have q_v_1 : (f_X3_tellName__4 p3 s0 s1).2.2 = v_1 := hfn.2.2.1
  have r_v_1 : RI v_1 (-1) 5 := hp_v_1.1
  by_cases c9_v_1 : v_1 = 0
  · have r_v_1 : RI v_1 0 0 := by rw [c9_v_1]; exact rl_0
    obtain ⟨v_4, m_v_4, r_v_4⟩ := ((hp_v_1.2.1 c9_v_1).1)
    refine lv_istore (lv' := [(4, .int v_1), (0, .ref p0), (1, .ref p1), (2, .ref p2), (3, .int p3)]) hx hb dX3_readNamed_6 hl (by decide) rfl (fun ls hl => ?_)
    refine lv_iload hx hb dX3_readNamed_8 (lv_at hl 0 rfl) ?_
    refine lv_iconst (v := (-1)) hx hb dX3_readNamed_10 (by decide) ?_
    refine lv_icmp_ne (tgt := 15) hx hb dX3_readNamed_11 (by decide) (fun c_11 => ?_) (fun c_11 => ?_)
    · refine lv_iload_n hx hb dX3_readNamed_15 rfl (lv_at hl 4 rfl) ?_
      refine lv_if_ne (tgt := 36) hx hb dX3_readNamed_16 (by decide) (fun c_16 => ?_) (fun c_16 => ?_)
      · refine lv_iload_n hx hb dX3_readNamed_36 rfl (lv_at hl 4 rfl) ?_
        refine lv_iconst (v := 2) hx hb dX3_readNamed_37 (by decide) ?_
        refine lv_icmp_ne (tgt := 61) hx hb dX3_readNamed_38 (by decide) (fun c_38 => ?_) (fun c_38 => ?_)
        · exact absurd (r_p3.eq.trans rl_2.eq.symm) ((ti_ne c_38))
        · refine lv_aload_n hx hb dX3_readNamed_41 rfl (lv_at hl 3 rfl) ?_
          refine tg_getN (ci := 8) (ts := ty_WORLD) (C := RX8) (T := TX8) (N := 13) hx hb hts inX8 hown hK hw h_p2 rfl rfl 3 (by decide) (hSD.nest tn_254) (fun _ h9 => h9) (ft := vR 9) rfl dX3_readNamed_42 (fun u_5 hv_u_5 m_u_5 => ?_)
          obtain ⟨vu_5, rfl, h_vu_5⟩ := hv_u_5
          refine lv_iload hx hb dX3_readNamed_45 (lv_at hl 0 rfl) ?_
          refine lv_iconst (v := 0) hx hb dX3_readNamed_47 (by decide) ?_
          refine lv_aload_n hx hb dX3_readNamed_48 rfl (lv_at hl 2 rfl) ?_
          refine lv_aload_n hx hb dX3_readNamed_49 rfl (lv_at hl 1 rfl) ?_
          refine lv_iconst (v := 1) hx hb dX3_readNamed_50 (by decide) ?_
          refine tk_i (va_runV (As := [.ref p0, .int 1]) (rest := [.int 0, .int v_1, .ref vu_5]) ⟨hx, hb, hml, hown, hts⟩ (c_X7_takeName__11 l D cy z H.size Ps ws hw.1 p1 p0 1 v_4 sg_3 sg_2 h_p1 h_p0 rl_1 r_v_4 m_v_4 o_p1 o_p0) (cwV 2 hts (gV tw_464 tw_465 tw_466 tw_2 tw_467) rfl rfl rfl (by decide +kernel) ⟨Nat.le_of_ble_eq_true rfl, Nat.le_of_ble_eq_true rfl⟩) (tg_preV hw hK hSD hA (ci := 7) (q := (RX7, TX7, 12)) rfl h_p1 rfl) rfl rfl hl.1 rfl (lv_room (Nat.le_of_ble_eq_true rfl)) dX3_readNamed_51 ⟨Nat.le_of_ble_eq_true rfl, Nat.le_of_ble_eq_true rfl⟩) hw hA ⟨by decide, by decide⟩ (fun v_6 ws H locs hp_v_6 hw hF9 => ?_)
          have m_u_5 := FLD.over hF9 m_u_5 (by decide)
          obtain ⟨hfn, hp_v_6⟩ := hp_v_6
          have o_p2 := OV.over (V := vw_WORLD) hF9 o_p2 (by decide)
          obtain ⟨sg_7, q_sg_7⟩ : ∃ q9 : OS, (f_X7_takeName__11 (1 : Int32) sg_3 sg_2).1 = q9 := ⟨_, rfl⟩
          have o_p1 : OV vw_TAPE Ps ws p1 sg_7 := by rw [← q_sg_7]; exact hfn.1
          obtain ⟨sg_8, q_sg_8⟩ : ∃ q9 : OS, (f_X7_takeName__11 (1 : Int32) sg_3 sg_2).2.1 = q9 := ⟨_, rfl⟩
          have o_p0 : OV vw_POST Ps ws p0 sg_8 := by rw [← q_sg_8]; exact hfn.2.1
          have q_v_6 : (f_X7_takeName__11 (1 : Int32) sg_3 sg_2).2.2 = v_6 := hfn.2.2.1
          have r_v_6 : RI v_6 (-1) 3 := hp_v_6.1
          by_cases c9_v_6 : v_6.toInt < 0
          · have r_v_6 : RI v_6 (-1) (-1) := by unfold RI at r_v_6 ⊢; omega
            have x_FLT_p1 := (hp_v_6.2.2.2.2.1 (by omega)).1
            obtain ⟨v_9, m_v_9, r_v_9⟩ := id x_FLT_p1
            refine va_mmax hx hb (hml.trans hl.1.symm) hown (hts _ tw_512) (hts _ tw_489) (hts _ tw_16) (hts _ tw_490) (Nat.le_of_ble_eq_true rfl) (Nat.le_of_ble_eq_true rfl) (Nat.le_of_ble_eq_true rfl) (Nat.le_of_ble_eq_true rfl) dX3_readNamed_54 (lv_topi (fun v_10 e_v_10 => ?_))
            have r_v_10 : RI v_10 0 0 := by rw [e_v_10]; exact ri_max rl_0 r_v_6 (by decide)
            have q_v_10 : mjmax (0 : Int32) v_6 = v_10 := by rw [e_v_10]; rfl
            have mo9 := m_u_5
            refine tg_iast hx hb hK hw h_vu_5 rfl 0 0 r_v_1 (by decide) r_v_10 (by exact fun _ _ _ => by decide) (fun _ _ _ _ _ => trivial) (by decide) dX3_readNamed_57 (fun ws H locs hw hF9 hU9 => ?_)
            have x_FLT_p1 := FLTp.over hF9 x_FLT_p1 (by decide)
            have m_u_5 := FLD.over hF9 m_u_5 (by decide)
            have m_v_9 := FLD.over hF9 m_v_9 (by decide)
            have o_p0 := OV.over (V := vw_POST) hF9 o_p0 (by decide)
            have o_p1 := OV.over (V := vw_TAPE) hF9 o_p1 (by decide)
            obtain ⟨sg_11, q_sg_11⟩ : ∃ q9 : OS, sA s2 3 (Int32.toNatClampNeg v_1) v_10 = q9 := ⟨_, rfl⟩
            have o_p2 : OV vw_WORLD Ps ws p2 sg_11 := by rw [← q_sg_11]; exact OV.putA (V := vw_WORLD) (t := 9) hF9 hU9 o_p2 mo9 (by decide) (by decide)
            refine lv_goto (tgt := 97) hx hb dX3_readNamed_58 (by decide) ?_
            simp only [f_X3_readNamed__6, ↓reduceIte, q_sg_2, q_sg_3, q_v_1, eq_true c9_v_1, eq_false c_11, eq_false c_16, eq_true c_38, q_sg_7, q_sg_8, q_v_6, eq_true c9_v_6, q_v_10, q_sg_11] at hE
            subst hQ
            exact W.vret hx hb hr (fun t ht hW => ⟨⟨ws, rfl, ⟨⟨⟨(by rw [hR, ← hE]; exact o_p0), (by rw [hR, ← hE]; exact o_p1), (by rw [hR, ← hE]; exact o_p2), trivial⟩, trivial⟩, hw.1, hw.2.2.2.2.1⟩, by rw [ht]; exact hw.2.1, va_K.moved hW.alike hK, hw.2.2.1⟩, hw.2.2.2.1.F ht⟩) hw.2.2.2.1.2.2 dX3_readNamed_97
          · have r_v_6 : RI v_6 0 3 := by unfold RI at r_v_6 ⊢; omega
            refine va_mmax hx hb (hml.trans hl.1.symm) hown (hts _ tw_512) (hts _ tw_489) (hts _ tw_16) (hts _ tw_490) (Nat.le_of_ble_eq_true rfl) (Nat.le_of_ble_eq_true rfl) (Nat.le_of_ble_eq_true rfl) (Nat.le_of_ble_eq_true rfl) dX3_readNamed_54 (lv_topi (fun v_12 e_v_12 => ?_))
            have r_v_12 : RI v_12 0 3 := by rw [e_v_12]; exact ri_max rl_0 r_v_6 (by decide)
            have q_v_12 : mjmax (0 : Int32) v_6 = v_12 := by rw [e_v_12]; rfl
            have mo9 := m_u_5
            refine tg_iast hx hb hK hw h_vu_5 rfl 0 0 r_v_1 (by decide) r_v_12 (by exact fun _ _ _ => by decide) (fun _ _ _ _ _ => trivial) (by decide) dX3_readNamed_57 (fun ws H locs hw hF9 hU9 => ?_)
            have m_u_5 := FLD.over hF9 m_u_5 (by decide)
            have o_p0 := OV.over (V := vw_POST) hF9 o_p0 (by decide)
            have o_p1 := OV.over (V := vw_TAPE) hF9 o_p1 (by decide)
            obtain ⟨sg_13, q_sg_13⟩ : ∃ q9 : OS, sA s2 3 (Int32.toNatClampNeg v_1) v_12 = q9 := ⟨_, rfl⟩
            have o_p2 : OV vw_WORLD Ps ws p2 sg_13 := by rw [← q_sg_13]; exact OV.putA (V := vw_WORLD) (t := 9) hF9 hU9 o_p2 mo9 (by decide) (by decide)
            refine lv_goto (tgt := 97) hx hb dX3_readNamed_58 (by decide) ?_
            simp only [f_X3_readNamed__6, ↓reduceIte, q_sg_2, q_sg_3, q_v_1, eq_true c9_v_1, eq_false c_11, eq_false c_16, eq_true c_38, q_sg_7, q_sg_8, q_v_6, eq_false c9_v_6, q_v_12, q_sg_13] at hE
            subst hQ
            exact W.vret hx hb hr (fun t ht hW => ⟨⟨ws, rfl, ⟨⟨⟨(by rw [hR, ← hE]; exact o_p0), (by rw [hR, ← hE]; exact o_p1), (by rw [hR, ← hE]; exact o_p2), trivial⟩, trivial⟩, hw.1, hw.2.2.2.2.1⟩, by rw [ht]; exact hw.2.1, va_K.moved hW.alike hK, hw.2.2.1⟩, hw.2.2.2.1.F ht⟩) hw.2.2.2.1.2.2 dX3_readNamed_97
      · have r_p3 : RI p3 2 0 := rc_eq1 r_p3 rl_0 (ti_eq c_16) (by decide)
        exact (r_p3.no (by decide)).elim
    · have r_v_1 : RI v_1 0 (-1) := rc_eq1 r_v_1 rl_m1 (ti_eq c_11) (by decide)
      exact (r_v_1.no (by decide)).elim
  · refine lv_istore (lv' := [(4, .int v_1), (0, .ref p0), (1, .ref p1), (2, .ref p2), (3, .int p3)]) hx hb dX3_readNamed_6 hl (by decide) rfl (fun ls hl => ?_)
    refine lv_iload hx hb dX3_readNamed_8 (lv_at hl 0 rfl) ?_
    refine lv_iconst (v := (-1)) hx hb dX3_readNamed_10 (by decide) ?_
    refine lv_icmp_ne (tgt := 15) hx hb dX3_readNamed_11 (by decide) (fun c_11 => ?_) (fun c_11 => ?_)
    · have r_v_1 : RI v_1 0 5 := rc_neL r_v_1 rl_m1 (ti_ne c_11) (by decide)
      refine lv_iload_n hx hb dX3_readNamed_15 rfl (lv_at hl 4 rfl) ?_
      refine lv_if_ne (tgt := 36) hx hb dX3_readNamed_16 (by decide) (fun c_16 => ?_) (fun c_16 => ?_)
      · refine lv_iload_n hx hb dX3_readNamed_36 rfl (lv_at hl 4 rfl) ?_
        refine lv_iconst (v := 2) hx hb dX3_readNamed_37 (by decide) ?_
        refine lv_icmp_ne (tgt := 61) hx hb dX3_readNamed_38 (by decide) (fun c_38 => ?_) (fun c_38 => ?_)
        · exact absurd (r_p3.eq.trans rl_2.eq.symm) ((ti_ne c_38))
        · refine lv_aload_n hx hb dX3_readNamed_41 rfl (lv_at hl 3 rfl) ?_
          refine tg_getN (ci := 8) (ts := ty_WORLD) (C := RX8) (T := TX8) (N := 13) hx hb hts inX8 hown hK hw h_p2 rfl rfl 3 (by decide) (hSD.nest tn_254) (fun _ h9 => h9) (ft := vR 9) rfl dX3_readNamed_42 (fun u_14 hv_u_14 m_u_14 => ?_)
          obtain ⟨vu_14, rfl, h_vu_14⟩ := hv_u_14
          refine lv_iload hx hb dX3_readNamed_45 (lv_at hl 0 rfl) ?_
          refine lv_iconst (v := 0) hx hb dX3_readNamed_47 (by decide) ?_
          refine lv_aload_n hx hb dX3_readNamed_48 rfl (lv_at hl 2 rfl) ?_
          refine lv_aload_n hx hb dX3_readNamed_49 rfl (lv_at hl 1 rfl) ?_
          refine lv_iconst (v := 1) hx hb dX3_readNamed_50 (by decide) ?_
          refine tk_i (va_runV (As := [.ref p0, .int 1]) (rest := [.int 0, .int v_1, .ref vu_14]) ⟨hx, hb, hml, hown, hts⟩ (c_X7_takeName__12 l D cy z H.size Ps ws hw.1 p1 p0 1 sg_3 sg_2 h_p1 h_p0 rl_1 o_p1 o_p0) (cwV 2 hts (gV tw_464 tw_465 tw_466 tw_2 tw_467) rfl rfl rfl (by decide +kernel) ⟨Nat.le_of_ble_eq_true rfl, Nat.le_of_ble_eq_true rfl⟩) (tg_preV hw hK hSD hA (ci := 7) (q := (RX7, TX7, 12)) rfl h_p1 rfl) rfl rfl hl.1 rfl (lv_room (Nat.le_of_ble_eq_true rfl)) dX3_readNamed_51 ⟨Nat.le_of_ble_eq_true rfl, Nat.le_of_ble_eq_true rfl⟩) hw hA ⟨by decide, by decide⟩ (fun v_15 ws H locs hp_v_15 hw hF9 => ?_)
          have m_u_14 := FLD.over hF9 m_u_14 (by decide)
          obtain ⟨hfn, hp_v_15⟩ := hp_v_15
          have o_p2 := OV.over (V := vw_WORLD) hF9 o_p2 (by decide)
          obtain ⟨sg_16, q_sg_16⟩ : ∃ q9 : OS, (f_X7_takeName__12 (1 : Int32) sg_3 sg_2).1 = q9 := ⟨_, rfl⟩
          have o_p1 : OV vw_TAPE Ps ws p1 sg_16 := by rw [← q_sg_16]; exact hfn.1
          obtain ⟨sg_17, q_sg_17⟩ : ∃ q9 : OS, (f_X7_takeName__12 (1 : Int32) sg_3 sg_2).2.1 = q9 := ⟨_, rfl⟩
          have o_p0 : OV vw_POST Ps ws p0 sg_17 := by rw [← q_sg_17]; exact hfn.2.1
          have q_v_15 : (f_X7_takeName__12 (1 : Int32) sg_3 sg_2).2.2 = v_15 := hfn.2.2.1
          have r_v_15 : RI v_15 (-1) 3 := hp_v_15.1
          by_cases c9_v_15 : v_15.toInt < 0
          · have r_v_15 : RI v_15 (-1) (-1) := by unfold RI at r_v_15 ⊢; omega
            have x_FLT_p1 := (hp_v_15.2.2.2.2.1 (by omega)).1
            obtain ⟨v_18, m_v_18, r_v_18⟩ := id x_FLT_p1
            refine va_mmax hx hb (hml.trans hl.1.symm) hown (hts _ tw_512) (hts _ tw_489) (hts _ tw_16) (hts _ tw_490) (Nat.le_of_ble_eq_true rfl) (Nat.le_of_ble_eq_true rfl) (Nat.le_of_ble_eq_true rfl) (Nat.le_of_ble_eq_true rfl) dX3_readNamed_54 (lv_topi (fun v_19 e_v_19 => ?_))
            have r_v_19 : RI v_19 0 0 := by rw [e_v_19]; exact ri_max rl_0 r_v_15 (by decide)
            have q_v_19 : mjmax (0 : Int32) v_15 = v_19 := by rw [e_v_19]; rfl
            have mo9 := m_u_14
            refine tg_iast hx hb hK hw h_vu_14 rfl 0 5 r_v_1 (by decide) r_v_19 (by exact fun _ _ _ => by decide) (fun _ _ _ _ _ => trivial) (by decide) dX3_readNamed_57 (fun ws H locs hw hF9 hU9 => ?_)
            have x_FLT_p1 := FLTp.over hF9 x_FLT_p1 (by decide)
            have m_u_14 := FLD.over hF9 m_u_14 (by decide)
            have m_v_18 := FLD.over hF9 m_v_18 (by decide)
            have o_p0 := OV.over (V := vw_POST) hF9 o_p0 (by decide)
            have o_p1 := OV.over (V := vw_TAPE) hF9 o_p1 (by decide)
            obtain ⟨sg_20, q_sg_20⟩ : ∃ q9 : OS, sA s2 3 (Int32.toNatClampNeg v_1) v_19 = q9 := ⟨_, rfl⟩
            have o_p2 : OV vw_WORLD Ps ws p2 sg_20 := by rw [← q_sg_20]; exact OV.putA (V := vw_WORLD) (t := 9) hF9 hU9 o_p2 mo9 (by decide) (by decide)
            refine lv_goto (tgt := 97) hx hb dX3_readNamed_58 (by decide) ?_
            simp only [f_X3_readNamed__6, ↓reduceIte, q_sg_2, q_sg_3, q_v_1, eq_false c9_v_1, eq_false c_11, eq_false c_16, eq_true c_38, q_sg_16, q_sg_17, q_v_15, eq_true c9_v_15, q_v_19, q_sg_20] at hE
            subst hQ
            exact W.vret hx hb hr (fun t ht hW => ⟨⟨ws, rfl, ⟨⟨⟨(by rw [hR, ← hE]; exact o_p0), (by rw [hR, ← hE]; exact o_p1), (by rw [hR, ← hE]; exact o_p2), trivial⟩, trivial⟩, hw.1, hw.2.2.2.2.1⟩, by rw [ht]; exact hw.2.1, va_K.moved hW.alike hK, hw.2.2.1⟩, hw.2.2.2.1.F ht⟩) hw.2.2.2.1.2.2 dX3_readNamed_97
          · have r_v_15 : RI v_15 0 3 := by unfold RI at r_v_15 ⊢; omega
            refine va_mmax hx hb (hml.trans hl.1.symm) hown (hts _ tw_512) (hts _ tw_489) (hts _ tw_16) (hts _ tw_490) (Nat.le_of_ble_eq_true rfl) (Nat.le_of_ble_eq_true rfl) (Nat.le_of_ble_eq_true rfl) (Nat.le_of_ble_eq_true rfl) dX3_readNamed_54 (lv_topi (fun v_21 e_v_21 => ?_))
            have r_v_21 : RI v_21 0 3 := by rw [e_v_21]; exact ri_max rl_0 r_v_15 (by decide)
            have q_v_21 : mjmax (0 : Int32) v_15 = v_21 := by rw [e_v_21]; rfl
            have mo9 := m_u_14
            refine tg_iast hx hb hK hw h_vu_14 rfl 0 5 r_v_1 (by decide) r_v_21 (by exact fun _ _ _ => by decide) (fun _ _ _ _ _ => trivial) (by decide) dX3_readNamed_57 (fun ws H locs hw hF9 hU9 => ?_)
            have m_u_14 := FLD.over hF9 m_u_14 (by decide)
            have o_p0 := OV.over (V := vw_POST) hF9 o_p0 (by decide)
            have o_p1 := OV.over (V := vw_TAPE) hF9 o_p1 (by decide)
            obtain ⟨sg_22, q_sg_22⟩ : ∃ q9 : OS, sA s2 3 (Int32.toNatClampNeg v_1) v_21 = q9 := ⟨_, rfl⟩
            have o_p2 : OV vw_WORLD Ps ws p2 sg_22 := by rw [← q_sg_22]; exact OV.putA (V := vw_WORLD) (t := 9) hF9 hU9 o_p2 mo9 (by decide) (by decide)
            refine lv_goto (tgt := 97) hx hb dX3_readNamed_58 (by decide) ?_
            simp only [f_X3_readNamed__6, ↓reduceIte, q_sg_2, q_sg_3, q_v_1, eq_false c9_v_1, eq_false c_11, eq_false c_16, eq_true c_38, q_sg_16, q_sg_17, q_v_15, eq_false c9_v_15, q_v_21, q_sg_22] at hE
            subst hQ
            exact W.vret hx hb hr (fun t ht hW => ⟨⟨ws, rfl, ⟨⟨⟨(by rw [hR, ← hE]; exact o_p0), (by rw [hR, ← hE]; exact o_p1), (by rw [hR, ← hE]; exact o_p2), trivial⟩, trivial⟩, hw.1, hw.2.2.2.2.1⟩, by rw [ht]; exact hw.2.1, va_K.moved hW.alike hK, hw.2.2.1⟩, hw.2.2.2.1.F ht⟩) hw.2.2.2.1.2.2 dX3_readNamed_97
      · have r_p3 : RI p3 2 0 := rc_eq1 r_p3 rl_0 (ti_eq c_16) (by decide)
        exact (r_p3.no (by decide)).elim
    · have r_v_1 : RI v_1 (-1) (-1) := rc_eq1 r_v_1 rl_m1 (ti_eq c_11) (by decide)
      simp only [f_X3_readNamed__6, ↓reduceIte, q_sg_2, q_sg_3, q_v_1, eq_false c9_v_1, eq_true c_11] at hE
      subst hQ
      exact W.vret hx hb hr (fun t ht hW => ⟨⟨ws, rfl, ⟨⟨⟨(by rw [hR, ← hE]; exact o_p0), (by rw [hR, ← hE]; exact o_p1), (by rw [hR, ← hE]; exact o_p2), trivial⟩, trivial⟩, hw.1, hw.2.2.2.2.1⟩, by rw [ht]; exact hw.2.1, va_K.moved hW.alike hK, hw.2.2.1⟩, hw.2.2.2.1.F ht⟩) hw.2.2.2.1.2.2 dX3_readNamed_14
abbrev wr_X3_beginsLine__16 : List (Nat × Nat) := [(7, 5), (7, 6), (7, 7), (7, 8), (7, 9), (7, 10), (7, 11)]
abbrev wa_X3_beginsLine__16 : List Nat := []
set_option maxHeartbeats 4000000 in
set_option maxRecDepth 100000 in
theorem c_X3_beginsLine__16 (l : Launch) (D : va_G) (cy : Nat → ClassId) (z : Nat → Nat) (sz : Nat) (Ps : PSI) (w0 : va_W) (hT : HT cy GG Ps w0) (p0 : Nat) (p1 : Nat) (p2 : Int32) (f1_10 : Int32) (s0 : OS) (s1 : OS) (h_p0 : (p0, 25) ∈ Ps) (h_p1 : (p1, 26) ∈ Ps) (r_p2 : RI p2 131 131) (r_f1_10 : RI f1_10 0 0) (m_f1_10 : FLD w0 p1 7 10 (.int f1_10)) (o_p0 : OV vw_POST Ps w0 p0 s0) (o_p1 : OV vw_TAPE Ps w0 p1 s1) : Met l yX3_beginsLine (Cond.code yX3_beginsLine cX3_beginsLine 3 (some .boolean) :: gT) ({ frames := 3, cells := 0, slots := 0, locals := 600 } : Room) (va_Pc [.ref p0, .ref p1, .int p2] (PRE D cy z w0 sz)) (va_Qi (fun (r : Int32) (u : va_W) => ((OV vw_POST Ps u p0 ((f_X3_beginsLine__16 p2 s0 s1).1) ∧ OV vw_TAPE Ps u p1 ((f_X3_beginsLine__16 p2 s0 s1).2.1) ∧ (f_X3_beginsLine__16 p2 s0 s1).2.2 = r ∧ True) ∧ (RI r 0 1 ∧ (r = 0 → (∃ v9 : Int32, FLD u p1 7 10 (.int v9) ∧ RI v9 1 4) ∧ True) ∧ (¬ r = 0 → (∃ v9 : Int32, FLD u p1 7 10 (.int v9) ∧ RI v9 0 0) ∧ AXC 3 1 4 (fun f => (f 3).toInt < 8) Ps u p0 ∧ True))) ∧ HT cy GG Ps u ∧ FR wr_X3_beginsLine__16 wa_X3_beginsLine__16 Ps w0 u) (BB D cy (va_A w0 sz) (fun (u : va_W) => u)) (va_A w0 sz)) 0 0 (va_A w0 sz) := by
  refine Met.ofW (cc := cX3_beginsLine) (maxL := 3) (ret := (some .boolean)) (by decide) rfl ?_
  intro p e s m args below meth c s₁ B hml hv
  obtain ⟨rfl, hsz, hP, hK, hD0, hSD⟩ := hv
  have hx := B.exec
  have hb := B.bytes
  have hr := B.returns
  have hlocks := B.notSynchronized
  have hts : ∀ w ∈ gT, w.before _ s = true := fun w h => atoms_spec (ws := Cond.code yX3_beginsLine cX3_beginsLine 3 (some .boolean) :: gT) B.pre w (List.mem_cons_of_mem _ h)
  have hown : s.vm.findClass RX3 = some m.cls := findClass_of_methodNamed B.named
  subst hsz
  have hD := hD0.self (sz := s.heap.size)
  generalize hAe : va_A w0 s.heap.size = A at hD hSD ⊢
  have hA : ∀ q : Nat, s.heap.size ≤ q → A q := fun q h => by rw [← hAe]; exact Or.inr h
  have hl := lv_entry ([.ref p0, .ref p1, .int p2]) (n := 3) (Nat.le_of_ble_eq_true rfl)
  rw [lg_entry_eq]
  generalize (lg_sl ([.ref p0, .ref p1, .int p2]) ++ List.replicate (3 - (lg_sl ([.ref p0, .ref p1, .int p2])).length) Slot.unset).toArray = ls at hl ⊢
  have hl : lv_has ls 3 [(0, .ref p0), (1, .ref p1), (2, .int p2)] := hl
  refine nameQ (fun Q hQ => ?_)
  have hw : WD D cy GG A s wr_X3_beginsLine__16 wa_X3_beginsLine__16 Ps w0 Ps w0 s.heap [] := ⟨hT, hP, hD, va_S.rf, FR.rf, hT.1, [], (List.append_nil _).symm⟩
  obtain ⟨R9, hR⟩ : ∃ q9 : OS × OS × Int32, f_X3_beginsLine__16 p2 s0 s1 = q9 := ⟨_, rfl⟩
  have hE := hR
  refine lv_iload_n hx hb dX3_beginsLine_0 rfl (lv_at hl 2 rfl) ?_
  refine lv_sipush (v := 128) hx hb dX3_beginsLine_1 (by decide) ?_
  refine lv_icmp_lt (tgt := 14) hx hb dX3_beginsLine_4 (by decide) (fun c_4 => ?_) (fun c_4 => ?_)
  · have r_p2 : RI p2 131 127 := rc_lt1 r_p2 rl_128 (ti_lt c_4) (by decide)
    exact (r_p2.no (by decide)).elim
  · refine lv_iload_n hx hb dX3_beginsLine_7 rfl (lv_at hl 2 rfl) ?_
    refine lv_sipush (v := 136) hx hb dX3_beginsLine_8 (by decide) ?_
    refine lv_icmp_le (tgt := 22) hx hb dX3_beginsLine_11 (by decide) (fun c_11 => ?_) (fun c_11 => ?_)
    · refine lv_iload_n hx hb dX3_beginsLine_22 rfl (lv_at hl 2 rfl) ?_
      refine lv_sipush (v := 131) hx hb dX3_beginsLine_23 (by decide) ?_
      refine lv_icmp_gt (tgt := 59) hx hb dX3_beginsLine_26 (by decide) (fun c_26 => ?_) (fun c_26 => ?_)
      · have r_p2 : RI p2 132 131 := rc_lt2 rl_131 r_p2 (ti_lt c_26) (by decide)
        exact (r_p2.no (by decide)).elim
      · refine lv_aload_n hx hb dX3_beginsLine_29 rfl (lv_at hl 0 rfl) ?_
        refine tg_get (ci := 3) (ts := ty_POST) (C := RX3) (T := TX3) (N := 9) hx hb hts inX3 hown hK hw h_p0 rfl rfl 1 (by decide) (hts _ tw_201) (fun _ h9 => h9) (ft := vR 4) rfl dX3_beginsLine_30 (fun u_1 hv_u_1 m_u_1 => ?_)
        obtain ⟨vu_1, rfl, h_vu_1⟩ := hv_u_1
        refine lv_iload_n hx hb dX3_beginsLine_33 rfl (lv_at hl 2 rfl) ?_
        refine lv_sipush (v := 128) hx hb dX3_beginsLine_34 (by decide) ?_
        refine lv_isub hx hb dX3_beginsLine_37 (lv_topi (fun v_2 e_v_2 => ?_))
        obtain ⟨t_v_2, r_v_2⟩ := tq_sub (lo := 3) (hi := 3) r_p2 rl_128 (by decide +kernel) e_v_2
        have t_v_2 : v_2.toInt = p2.toInt - 128 := t_v_2
        have q_v_2 : p2 - (128 : Int32) = v_2 := e_v_2.symm
        refine tg_iald (lo := 0) (hi := 8) hx hb hK hw h_vu_1 rfl 3 3 r_v_2 (by decide) (by decide +kernel) dX3_beginsLine_38 (fun v_3 r_v_3 m_v_3 o_v_3 => ?_)
        have q_v_3 : s0.2.2.1 1 (Int32.toNatClampNeg v_2) = v_3 := OV.eqA (V := vw_POST) (t := 4) hw.2.2.1 o_p0 m_u_1 m_v_3 (by decide)
        refine va_gets (v := .ref (z 0)) hx hb hSD.2.2.2.1 hw.2.2.2.1 hown (hts _ tw_198) (fun _ h9 => h9) dX3_beginsLine_39 ?_
        refine lv_iload_n hx hb dX3_beginsLine_42 rfl (lv_at hl 2 rfl) ?_
        refine lv_sipush (v := 128) hx hb dX3_beginsLine_43 (by decide) ?_
        refine lv_isub hx hb dX3_beginsLine_46 (lv_topi (fun v_4 e_v_4 => ?_))
        obtain ⟨t_v_4, r_v_4⟩ := tq_sub (lo := 3) (hi := 3) r_p2 rl_128 (by decide +kernel) e_v_4
        have t_v_4 : v_4.toInt = p2.toInt - 128 := t_v_4
        have z9 : v_2 = v_4 := q_v_2.symm.trans (e_v_4.symm)
        subst z9
        refine tz_mk 3 8 hx hb hSD.2.2.2.2.1 hw.2.2.2.1 r_v_2 (by decide) rfl dX3_beginsLine_47 (fun v_5 e_v_5 => ?_)
        have r_v_5 : RI v_5 8 8 := by rw [e_v_5]; exact rl_8
        have q_v_5 : (8 : Int32) = v_5 := e_v_5.symm
        refine lv_icmp_lt (tgt := 59) hx hb dX3_beginsLine_48 (by decide) (fun c_48 => ?_) (fun c_48 => ?_)
        · have d_48 := c_48
          rw [← q_v_5] at d_48
          have r_v_3 : RI v_3 0 7 := rc_lt1 r_v_3 r_v_5 (ti_lt c_48) (by decide)
          have x_MLT_p0_3 : AXC 3 1 4 (fun f => (f 3).toInt < 8) Ps w0 p0 := AXC.mk hw h_vu_1 rfl m_u_1 (fun f9 g9 => by have e9 := g9 _ _ m_v_3; have j9 : Int32.toNatClampNeg v_2 = 3 := (by have k1 := r_v_2.cl (by decide); have k2 := r_v_2.eq; omega); rw [j9] at e9; show _ < _; rw [e9]; have k3 := r_v_3.2; omega)
          refine lv_iload_n hx hb dX3_beginsLine_59 rfl (lv_at hl 2 rfl) ?_
          refine lv_sipush (v := 135) hx hb dX3_beginsLine_60 (by decide) ?_
          refine lv_icmp_ne (tgt := 73) hx hb dX3_beginsLine_63 (by decide) (fun c_63 => ?_) (fun c_63 => ?_)
          · refine lv_iload_n hx hb dX3_beginsLine_73 rfl (lv_at hl 2 rfl) ?_
            refine lv_sipush (v := 136) hx hb dX3_beginsLine_74 (by decide) ?_
            refine lv_icmp_ne (tgt := 92) hx hb dX3_beginsLine_77 (by decide) (fun c_77 => ?_) (fun c_77 => ?_)
            · refine lv_aload_n hx hb dX3_beginsLine_92 rfl (lv_at hl 1 rfl) ?_
              have hw8 := hw
              refine tk_v (va_runV (As := []) (rest := []) ⟨hx, hb, hml, hown, hts⟩ (c_X7_pass__5 l D cy z s.heap.size Ps w0 hw.1 p1 f1_10 s1 h_p1 r_f1_10 m_f1_10 o_p1) (cwV 0 hts (gV tw_451 tw_425 tw_426 tw_2 tw_427) rfl rfl rfl (by decide +kernel) ⟨Nat.le_of_ble_eq_true rfl, Nat.le_of_ble_eq_true rfl⟩) (tg_preV hw hK hSD hA (ci := 7) (q := (RX7, TX7, 12)) rfl h_p1 rfl) rfl rfl hl.1 rfl (lv_room (Nat.le_of_ble_eq_true rfl)) dX3_beginsLine_93 ⟨Nat.le_of_ble_eq_true rfl, Nat.le_of_ble_eq_true rfl⟩) hw hA ⟨by decide, by decide⟩ (fun ws H locs hp_v_6 hw hF9 => ?_)
              have m_v_3 := AEL.over hw8 hF9 h_vu_1 m_v_3 (by decide)
              have m_f1_10 := FLD.over hF9 m_f1_10 (by decide)
              have m_u_1 := FLD.over hF9 m_u_1 (by decide)
              have x_MLT_p0_3 := AXC.over hF9 x_MLT_p0_3 (by decide)
              obtain ⟨hfn, hp_v_6⟩ := hp_v_6
              have o_p0 := OV.over (V := vw_POST) hF9 o_p0 (by decide)
              obtain ⟨sg_7, q_sg_7⟩ : ∃ q9 : OS, (f_X7_pass__5 s1) = q9 := ⟨_, rfl⟩
              have o_p1 : OV vw_TAPE Ps ws p1 sg_7 := by rw [← q_sg_7]; exact hfn.1
              obtain ⟨v_8, m_v_8, r_v_8⟩ := (hp_v_6.1)
              refine lv_aload_n hx hb dX3_beginsLine_96 rfl (lv_at hl 1 rfl) ?_
              refine tg_memN (ci := 7) (C := RX7) (T := TX7) (N := 12) hx hb hts inX7 hown hK hw 10 m_v_8 rfl (by decide) (hSD.nest tn_105) (fun _ h9 => h9) dX3_beginsLine_97 ?_
              have q_v_8 : sg_7.1 10 = v_8 := OV.eqI (V := vw_TAPE) hw.2.2.1 o_p1 m_v_8 (by decide)
              refine lv_if_ne (tgt := 107) hx hb dX3_beginsLine_100 (by decide) (fun c_100 => ?_) (fun c_100 => ?_)
              · exact absurd (r_v_8.eq.trans rl_0.eq.symm) ((ti_ne c_100))
              · refine lv_iconst (v := 1) hx hb dX3_beginsLine_103 (by decide) ?_
                refine lv_goto (tgt := 108) hx hb dX3_beginsLine_104 (by decide) ?_
                simp only [f_X3_beginsLine__16, ↓reduceIte, eq_false c_4, eq_true c_11, eq_false c_26, q_v_2, q_v_3, eq_true d_48, eq_false c_63, eq_false c_77, q_sg_7, q_v_8, eq_true c_100] at hE
                subst hQ
                exact W.zret (v := 1) hx hb hr (rfl) (fun t ht hW => ⟨⟨1, ws, rfl, ⟨⟨⟨(by rw [hR, ← hE]; exact o_p0), (by rw [hR, ← hE]; exact o_p1), (by rw [hR, ← hE]), trivial⟩, rl_1.to (by decide), (fun h0 => absurd h0 (by decide)), (fun h0 => ⟨⟨_, m_v_8, r_v_8⟩, x_MLT_p0_3, trivial⟩)⟩, hw.1, hw.2.2.2.2.1⟩, by rw [ht]; exact hw.2.1, va_K.moved hW.alike hK, hw.2.2.1⟩, hw.2.2.2.1.F ht⟩) hw.2.2.2.1.2.2 dX3_beginsLine_108
            · have r_p2 : RI p2 136 131 := rc_eq1 r_p2 rl_136 (ti_eq c_77) (by decide)
              exact (r_p2.no (by decide)).elim
          · have r_p2 : RI p2 135 131 := rc_eq1 r_p2 rl_135 (ti_eq c_63) (by decide)
            exact (r_p2.no (by decide)).elim
        · have d_48 := c_48
          rw [← q_v_5] at d_48
          have r_v_3 : RI v_3 8 8 := rc_le2 r_v_5 r_v_3 (ti_nlt c_48) (by decide)
          refine lv_aload_n hx hb dX3_beginsLine_51 rfl (lv_at hl 1 rfl) ?_
          refine lv_iconst (v := 4) hx hb dX3_beginsLine_52 (by decide) ?_
          have hw8 := hw
          refine tk_v (va_runV (As := [.int 4]) (rest := []) ⟨hx, hb, hml, hown, hts⟩ (c_X7_refuse__5 l D cy z s.heap.size Ps w0 hw.1 p1 4 f1_10 s1 h_p1 (rl_4.to (by decide)) r_f1_10 m_f1_10 o_p1) (cwV 1 hts (gV tw_450 tw_443 tw_444 tw_2 tw_445) rfl rfl rfl (by decide +kernel) ⟨Nat.le_of_ble_eq_true rfl, Nat.le_of_ble_eq_true rfl⟩) (tg_preV hw hK hSD hA (ci := 7) (q := (RX7, TX7, 12)) rfl h_p1 rfl) rfl rfl hl.1 rfl (lv_room (Nat.le_of_ble_eq_true rfl)) dX3_beginsLine_53 ⟨Nat.le_of_ble_eq_true rfl, Nat.le_of_ble_eq_true rfl⟩) hw hA ⟨by decide, by decide⟩ (fun ws H locs hp_v_9 hw hF9 => ?_)
          have m_v_3 := AEL.over hw8 hF9 h_vu_1 m_v_3 (by decide)
          have m_u_1 := FLD.over hF9 m_u_1 (by decide)
          obtain ⟨hfn, hp_v_9⟩ := hp_v_9
          have o_p0 := OV.over (V := vw_POST) hF9 o_p0 (by decide)
          obtain ⟨sg_10, q_sg_10⟩ : ∃ q9 : OS, (f_X7_refuse__5 (4 : Int32) s1) = q9 := ⟨_, rfl⟩
          have o_p1 : OV vw_TAPE Ps ws p1 sg_10 := by rw [← q_sg_10]; exact hfn.1
          obtain ⟨v_11, m_v_11, r_v_11⟩ := (hp_v_9.1)
          refine lv_goto (tgt := 92) hx hb dX3_beginsLine_56 (by decide) ?_
          refine lv_aload_n hx hb dX3_beginsLine_92 rfl (lv_at hl 1 rfl) ?_
          refine tk_vr (va_runV (As := []) (rest := []) ⟨hx, hb, hml, hown, hts⟩ (c_X7_pass__4 l D cy z H.size Ps ws hw.1 p1 v_11 sg_10 h_p1 r_v_11 m_v_11 o_p1) (cwV 0 hts (gV tw_451 tw_425 tw_426 tw_2 tw_427) rfl rfl rfl (by decide +kernel) ⟨Nat.le_of_ble_eq_true rfl, Nat.le_of_ble_eq_true rfl⟩) (tg_preV hw hK hSD hA (ci := 7) (q := (RX7, TX7, 12)) rfl h_p1 rfl) rfl rfl hl.1 rfl (lv_room (Nat.le_of_ble_eq_true rfl)) dX3_beginsLine_93 ⟨Nat.le_of_ble_eq_true rfl, Nat.le_of_ble_eq_true rfl⟩) hw hA (fun  H locs hp_v_12 hw => ?_)
          obtain ⟨hfn, hp_v_12⟩ := hp_v_12
          refine lv_aload_n hx hb dX3_beginsLine_96 rfl (lv_at hl 1 rfl) ?_
          refine tg_memN (ci := 7) (C := RX7) (T := TX7) (N := 12) hx hb hts inX7 hown hK hw 10 m_v_11 rfl (by decide) (hSD.nest tn_105) (fun _ h9 => h9) dX3_beginsLine_97 ?_
          have q_v_11 : sg_10.1 10 = v_11 := OV.eqI (V := vw_TAPE) hw.2.2.1 o_p1 m_v_11 (by decide)
          refine lv_if_ne (tgt := 107) hx hb dX3_beginsLine_100 (by decide) (fun c_100 => ?_) (fun c_100 => ?_)
          · refine lv_iconst (v := 0) hx hb dX3_beginsLine_107 (by decide) ?_
            simp only [f_X3_beginsLine__16, ↓reduceIte, eq_false c_4, eq_true c_11, eq_false c_26, q_v_2, q_v_3, eq_false d_48, q_sg_10, q_v_11, eq_false c_100] at hE
            subst hQ
            exact W.zret (v := 0) hx hb hr (rfl) (fun t ht hW => ⟨⟨0, ws, rfl, ⟨⟨⟨(by rw [hR, ← hE]; exact o_p0), (by rw [hR, ← hE]; exact o_p1), (by rw [hR, ← hE]), trivial⟩, rl_0.to (by decide), (fun h0 => ⟨⟨_, m_v_11, r_v_11⟩, trivial⟩), (fun h0 => absurd rfl h0)⟩, hw.1, hw.2.2.2.2.1⟩, by rw [ht]; exact hw.2.1, va_K.moved hW.alike hK, hw.2.2.1⟩, hw.2.2.2.1.F ht⟩) hw.2.2.2.1.2.2 dX3_beginsLine_108
          · have r_v_11 : RI v_11 1 0 := rc_eq1 r_v_11 rl_0 (ti_eq c_100) (by decide)
            exact (r_v_11.no (by decide)).elim
    · have r_p2 : RI p2 137 131 := rc_lt2 rl_136 r_p2 (ti_nle c_11) (by decide)
      exact (r_p2.no (by decide)).elim
abbrev wr_X3_tellName__7 : List (Nat × Nat) := [(7, 5), (7, 6), (7, 7), (7, 8), (7, 9), (7, 10), (7, 11)]
abbrev wa_X3_tellName__7 : List Nat := [1, 4]
set_option maxHeartbeats 4000000 in
set_option maxRecDepth 100000 in
theorem c_X3_tellName__7 (l : Launch) (D : va_G) (cy : Nat → ClassId) (z : Nat → Nat) (sz : Nat) (Ps : PSI) (w0 : va_W) (hT : HT cy GG Ps w0) (p0 : Nat) (p1 : Nat) (p2 : Int32) (s0 : OS) (s1 : OS) (h_p0 : (p0, 25) ∈ Ps) (h_p1 : (p1, 26) ∈ Ps) (r_p2 : RI p2 3 3) (x_MLT_p0_3 : AXC 3 1 4 (fun f => (f 3).toInt < 8) Ps w0 p0) (o_p0 : OV vw_POST Ps w0 p0 s0) (o_p1 : OV vw_TAPE Ps w0 p1 s1) : Met l yX3_tellName (Cond.code yX3_tellName cX3_tellName 4 (some .int) :: gT) ({ frames := 3, cells := 0, slots := 0, locals := 600 } : Room) (va_Pc [.ref p0, .ref p1, .int p2] (PRE D cy z w0 sz)) (va_Qi (fun (r : Int32) (u : va_W) => ((OV vw_POST Ps u p0 ((f_X3_tellName__4 p2 s0 s1).1) ∧ OV vw_TAPE Ps u p1 ((f_X3_tellName__4 p2 s0 s1).2.1) ∧ (f_X3_tellName__4 p2 s0 s1).2.2 = r ∧ True) ∧ (RI r (-1) 7 ∧ (r = 0 → (∃ v9 : Int32, FLD u p1 7 10 (.int v9) ∧ RI v9 0 0) ∧ True) ∧ (¬ r = 0 → True))) ∧ HT cy GG Ps u ∧ FR wr_X3_tellName__7 wa_X3_tellName__7 Ps w0 u) (BB D cy (va_A w0 sz) (fun (u : va_W) => u)) (va_A w0 sz)) 0 0 (va_A w0 sz) := by
  refine Met.ofW (cc := cX3_tellName) (maxL := 4) (ret := (some .int)) (by decide) rfl ?_
  intro p e s m args below meth c s₁ B hml hv
  obtain ⟨rfl, hsz, hP, hK, hD0, hSD⟩ := hv
  have hx := B.exec
  have hb := B.bytes
  have hr := B.returns
  have hlocks := B.notSynchronized
  have hts : ∀ w ∈ gT, w.before _ s = true := fun w h => atoms_spec (ws := Cond.code yX3_tellName cX3_tellName 4 (some .int) :: gT) B.pre w (List.mem_cons_of_mem _ h)
  have hown : s.vm.findClass RX3 = some m.cls := findClass_of_methodNamed B.named
  subst hsz
  have hD := hD0.self (sz := s.heap.size)
  generalize hAe : va_A w0 s.heap.size = A at hD hSD ⊢
  have hA : ∀ q : Nat, s.heap.size ≤ q → A q := fun q h => by rw [← hAe]; exact Or.inr h
  have hl := lv_entry ([.ref p0, .ref p1, .int p2]) (n := 4) (Nat.le_of_ble_eq_true rfl)
  rw [lg_entry_eq]
  generalize (lg_sl ([.ref p0, .ref p1, .int p2]) ++ List.replicate (4 - (lg_sl ([.ref p0, .ref p1, .int p2])).length) Slot.unset).toArray = ls at hl ⊢
  have hl : lv_has ls 4 [(0, .ref p0), (1, .ref p1), (2, .int p2)] := hl
  refine nameQ (fun Q hQ => ?_)
  have hw : WD D cy GG A s wr_X3_tellName__7 wa_X3_tellName__7 Ps w0 Ps w0 s.heap [] := ⟨hT, hP, hD, va_S.rf, FR.rf, hT.1, [], (List.append_nil _).symm⟩
  obtain ⟨R9, hR⟩ : ∃ q9 : OS × OS × Int32, f_X3_tellName__4 p2 s0 s1 = q9 := ⟨_, rfl⟩
  have hE := hR
  have B32 : ∀ (s0 : OS) (s1 : OS) (ws : va_W) (H : Heap) (locs : List Loc) (ls : Array Slot), RI p2 3 3 → AXC 3 1 4 (fun f => (f 3).toInt < 8) Ps ws p0 → OV vw_POST Ps ws p0 s0 → OV vw_TAPE Ps ws p1 s1 → f_X3_tellName__4_32 p2 s0 s1 = R9 → WD D cy GG A s wr_X3_tellName__7 wa_X3_tellName__7 Ps w0 Ps ws H locs → lv_has ls 4 [(0, .ref p0), (1, .ref p1), (2, .int p2)] → W p l e (headSpec (Cond.code yX3_tellName cX3_tellName 4 (some .int) :: gT) ({ frames := 3, cells := 0, slots := 0, locals := 600 } : Room)).room s m ([.ref p0, .ref p1, .int p2] : List Value).toArray below meth c H locs 0 0 Q (F0 m 32 ls []) := by
    intro s0 s1 ws H locs ls r_p2 x_MLT_p0_3 o_p0 o_p1 hE hw hl
    refine lv_aload_n hx hb dX3_tellName_32 rfl (lv_at hl 1 rfl) ?_
    refine tg_getN (ci := 7) (ts := ty_TAPE) (C := RX7) (T := TX7) (N := 12) hx hb hts inX7 hown hK hw h_p1 rfl rfl 10 (by decide) (hSD.nest tn_105) (fun _ h9 => h9) (ft := vI 0 4) rfl dX3_tellName_33 (fun u_1 hv_u_1 m_u_1 => ?_)
    obtain ⟨vu_1, rfl, r_vu_1⟩ := hv_u_1
    have q_vu_1 : s1.1 10 = vu_1 := OV.eqI (V := vw_TAPE) hw.2.2.1 o_p1 m_u_1 (by decide)
    refine lv_if_eq (tgt := 41) hx hb dX3_tellName_36 (by decide) (fun c_36 => ?_) (fun c_36 => ?_)
    · have r_vu_1 : RI vu_1 0 0 := rc_eq1 r_vu_1 rl_0 (ti_eq c_36) (by decide)
      refine lv_aload_n hx hb dX3_tellName_41 rfl (lv_at hl 0 rfl) ?_
      refine tg_get (ci := 3) (ts := ty_POST) (C := RX3) (T := TX3) (N := 9) hx hb hts inX3 hown hK hw h_p0 rfl rfl 1 (by decide) (hts _ tw_201) (fun _ h9 => h9) (ft := vR 4) rfl dX3_tellName_42 (fun u_2 hv_u_2 m_u_2 => ?_)
      obtain ⟨vu_2, rfl, h_vu_2⟩ := hv_u_2
      refine lv_iload_n hx hb dX3_tellName_45 rfl (lv_at hl 2 rfl) ?_
      refine tg_iald (lo := 0) (hi := 8) hx hb hK hw h_vu_2 rfl 3 3 r_p2 (by decide) (by decide +kernel) dX3_tellName_46 (fun v_3 r_v_3 m_v_3 o_v_3 => ?_)
      have q_v_3 : s0.2.2.1 1 (Int32.toNatClampNeg p2) = v_3 := OV.eqA (V := vw_POST) (t := 4) hw.2.2.1 o_p0 m_u_2 m_v_3 (by decide)
      have r_v_3 : RI v_3 0 7 := ⟨r_v_3.1, by obtain ⟨f9, q9, e9⟩ := AXC.use hw x_MLT_p0_3 m_u_2 m_v_3; have j9 : Int32.toNatClampNeg p2 = 3 := (by have k1 := r_p2.cl (by decide); have k2 := r_p2.eq; omega); rw [j9] at e9; have q8 : (f9 3).toInt < 8 := q9; rw [e9] at q8; omega⟩
      refine lv_istore_n (lv' := [(3, .int v_3), (0, .ref p0), (1, .ref p1), (2, .int p2)]) hx hb dX3_tellName_47 rfl hl (by decide) rfl (fun ls hl => ?_)
      refine lv_aload_n hx hb dX3_tellName_48 rfl (lv_at hl 1 rfl) ?_
      refine tg_get (ci := 3) (ts := ty_POST) (C := RX3) (T := TX3) (N := 9) hx hb hts inX3 hown hK hw h_p0 rfl rfl 0 (by decide) (hts _ tw_200) (fun _ h9 => h9) (ft := vR 1) rfl dX3_tellName_49 (fun u_4 hv_u_4 m_u_4 => ?_)
      obtain ⟨vu_4, rfl, h_vu_4⟩ := hv_u_4
      refine lv_iload_n hx hb dX3_tellName_52 rfl (lv_at hl 3 rfl) ?_
      refine lv_bipush (v := 8) hx hb dX3_tellName_53 (by decide) ?_
      refine lv_imul hx hb dX3_tellName_55 (lv_topi (fun v_5 e_v_5 => ?_))
      obtain ⟨t_v_5, r_v_5⟩ := tq_mul (lo := 24) (hi := 24) r_p2 rl_8 (by decide +kernel) e_v_5
      have t_v_5 : v_5.toInt = p2.toInt * 8 := t_v_5
      have q_v_5 : p2 * (8 : Int32) = v_5 := e_v_5.symm
      refine lv_iload_n hx hb dX3_tellName_56 rfl (lv_at hl 0 rfl) ?_
      refine lv_iadd hx hb dX3_tellName_57 (lv_topi (fun v_6 e_v_6 => ?_))
      obtain ⟨t_v_6, r_v_6⟩ := tq_add (lo := 24) (hi := 31) r_v_5 r_v_3 (by decide +kernel) e_v_6
      have q_v_6 : v_5 + v_3 = v_6 := e_v_6.symm
      refine lv_aload_n hx hb dX3_tellName_58 rfl (lv_at hl 2 rfl) ?_
      refine tg_getN (ci := 7) (ts := ty_TAPE) (C := RX7) (T := TX7) (N := 12) hx hb hts inX7 hown hK hw h_p1 rfl rfl 8 (by decide) (hSD.nest tn_99) (fun _ h9 => h9) (ft := vJ (-9223372036854775808) 9223372036854775807) rfl dX3_tellName_59 (fun u_7 hv_u_7 m_u_7 => ?_)
      obtain ⟨vu_7, rfl, r_vu_7⟩ := hv_u_7
      have q_vu_7 : s1.2.1 8 = vu_7 := OV.eqL (V := vw_TAPE) hw.2.2.1 o_p1 m_u_7 (by decide)
      have mo9 := m_u_4
      refine tg_lastE hx hb hK hw h_vu_4 rfl r_v_6 (by decide) r_vu_7 (by decide) (by decide) dX3_tellName_62 (fun ws H locs hw hF9 hU9 => ?_)
      have x_MLT_p0_3 := AXC.over hF9 x_MLT_p0_3 (by decide)
      have m_u_1 := FLD.over hF9 m_u_1 (by decide)
      have m_u_2 := FLD.over hF9 m_u_2 (by decide)
      have m_u_4 := FLD.over hF9 m_u_4 (by decide)
      have m_u_7 := FLD.over hF9 m_u_7 (by decide)
      have o_p1 := OV.over (V := vw_TAPE) hF9 o_p1 (by decide)
      obtain ⟨sg_8, q_sg_8⟩ : ∃ q9 : OS, sB s0 0 (Int32.toNatClampNeg v_6) vu_7 = q9 := ⟨_, rfl⟩
      have o_p0 : OV vw_POST Ps ws p0 sg_8 := by rw [← q_sg_8]; exact OV.putB (V := vw_POST) (t := 1) hF9 hU9 o_p0 mo9 (by decide) (by decide)
      refine lv_aload_n hx hb dX3_tellName_63 rfl (lv_at hl 1 rfl) ?_
      refine tg_mem (ci := 3) (C := RX3) (T := TX3) (N := 9) hx hb hts inX3 hown hK hw 1 m_u_2 rfl (by decide) (hts _ tw_201) (fun _ h9 => h9) dX3_tellName_64 ?_
      refine lv_iload_n hx hb dX3_tellName_67 rfl (lv_at hl 3 rfl) ?_
      refine lv_iload_n hx hb dX3_tellName_68 rfl (lv_at hl 0 rfl) ?_
      refine lv_iconst (v := 1) hx hb dX3_tellName_69 (by decide) ?_
      refine lv_iadd hx hb dX3_tellName_70 (lv_topi (fun v_9 e_v_9 => ?_))
      obtain ⟨t_v_9, r_v_9⟩ := tq_add (lo := 1) (hi := 8) r_v_3 rl_1 (by decide +kernel) e_v_9
      have t_v_9 : v_9.toInt = v_3.toInt + 1 := t_v_9
      have q_v_9 : v_3 + (1 : Int32) = v_9 := e_v_9.symm
      have mo9 := m_u_2
      refine tg_iast hx hb hK hw h_vu_2 rfl 3 3 r_p2 (by decide) r_v_9 (by decide +kernel) (fun _ _ _ _ _ => trivial) (by decide) dX3_tellName_71 (fun ws H locs hw hF9 hU9 => ?_)
      have m_u_1 := FLD.over hF9 m_u_1 (by decide)
      have m_u_2 := FLD.over hF9 m_u_2 (by decide)
      have m_u_4 := FLD.over hF9 m_u_4 (by decide)
      have m_u_7 := FLD.over hF9 m_u_7 (by decide)
      have o_p1 := OV.over (V := vw_TAPE) hF9 o_p1 (by decide)
      obtain ⟨sg_10, q_sg_10⟩ : ∃ q9 : OS, sA sg_8 1 (Int32.toNatClampNeg p2) v_9 = q9 := ⟨_, rfl⟩
      have o_p0 : OV vw_POST Ps ws p0 sg_10 := by rw [← q_sg_10]; exact OV.putA (V := vw_POST) (t := 4) hF9 hU9 o_p0 mo9 (by decide) (by decide)
      refine lv_aload_n hx hb dX3_tellName_72 rfl (lv_at hl 2 rfl) ?_
      refine tk_v (va_runV (As := []) (rest := []) ⟨hx, hb, hml, hown, hts⟩ (c_X7_pass__5 l D cy z H.size Ps ws hw.1 p1 vu_1 s1 h_p1 r_vu_1 m_u_1 o_p1) (cwV 0 hts (gV tw_451 tw_425 tw_426 tw_2 tw_427) rfl rfl rfl (by decide +kernel) ⟨Nat.le_of_ble_eq_true rfl, Nat.le_of_ble_eq_true rfl⟩) (tg_preV hw hK hSD hA (ci := 7) (q := (RX7, TX7, 12)) rfl h_p1 rfl) rfl rfl hl.1 rfl (lv_room (Nat.le_of_ble_eq_true rfl)) dX3_tellName_73 ⟨Nat.le_of_ble_eq_true rfl, Nat.le_of_ble_eq_true rfl⟩) hw hA ⟨by decide, by decide⟩ (fun ws H locs hp_v_11 hw hF9 => ?_)
      have m_u_1 := FLD.over hF9 m_u_1 (by decide)
      have m_u_2 := FLD.over hF9 m_u_2 (by decide)
      have m_u_4 := FLD.over hF9 m_u_4 (by decide)
      obtain ⟨hfn, hp_v_11⟩ := hp_v_11
      have o_p0 := OV.over (V := vw_POST) hF9 o_p0 (by decide)
      obtain ⟨sg_12, q_sg_12⟩ : ∃ q9 : OS, (f_X7_pass__5 s1) = q9 := ⟨_, rfl⟩
      have o_p1 : OV vw_TAPE Ps ws p1 sg_12 := by rw [← q_sg_12]; exact hfn.1
      obtain ⟨v_13, m_v_13, r_v_13⟩ := (hp_v_11.1)
      refine lv_iload_n hx hb dX3_tellName_76 rfl (lv_at hl 0 rfl) ?_
      simp only [f_X3_tellName__4_32, ↓reduceIte, q_vu_1, eq_true c_36, q_v_3, q_v_5, q_v_6, q_vu_7, q_sg_8, q_v_9, q_sg_10, q_sg_12] at hE
      subst hQ
      exact W.iret (v := v_3) hx hb hr (fun t ht hW => ⟨⟨v_3, ws, rfl, ⟨⟨⟨(by rw [hR, ← hE]; exact o_p0), (by rw [hR, ← hE]; exact o_p1), (by rw [hR, ← hE]), trivial⟩, r_v_3.to (by decide), (fun h0 => ⟨⟨_, m_v_13, r_v_13⟩, trivial⟩), (fun h0 => trivial)⟩, hw.1, hw.2.2.2.2.1⟩, by rw [ht]; exact hw.2.1, va_K.moved hW.alike hK, hw.2.2.1⟩, hw.2.2.2.1.F ht⟩) hw.2.2.2.1.2.2 dX3_tellName_77
    · have r_vu_1 : RI vu_1 1 4 := rc_neL r_vu_1 rl_0 (ti_ne c_36) (by decide)
      refine lv_iconst (v := (-1)) hx hb dX3_tellName_39 (by decide) ?_
      simp only [f_X3_tellName__4_32, ↓reduceIte, q_vu_1, eq_false c_36] at hE
      subst hQ
      exact W.iret (v := (-1)) hx hb hr (fun t ht hW => ⟨⟨(-1), ws, rfl, ⟨⟨⟨(by rw [hR, ← hE]; exact o_p0), (by rw [hR, ← hE]; exact o_p1), (by rw [hR, ← hE]), trivial⟩, rl_m1.to (by decide), (fun h0 => absurd h0 (by decide)), (fun h0 => trivial)⟩, hw.1, hw.2.2.2.2.1⟩, by rw [ht]; exact hw.2.1, va_K.moved hW.alike hK, hw.2.2.1⟩, hw.2.2.2.1.F ht⟩) hw.2.2.2.1.2.2 dX3_tellName_40
  refine lv_aload_n hx hb dX3_tellName_0 rfl (lv_at hl 1 rfl) ?_
  refine tg_getN (ci := 7) (ts := ty_TAPE) (C := RX7) (T := TX7) (N := 12) hx hb hts inX7 hown hK hw h_p1 rfl rfl 7 (by decide) (hSD.nest tn_97) (fun _ h9 => h9) (ft := vI (-2147483648) 2147483647) rfl dX3_tellName_1 (fun u_14 hv_u_14 m_u_14 => ?_)
  obtain ⟨vu_14, rfl, r_vu_14⟩ := hv_u_14
  have q_vu_14 : s1.1 7 = vu_14 := OV.eqI (V := vw_TAPE) hw.2.2.1 o_p1 m_u_14 (by decide)
  refine lv_iconst (v := 2) hx hb dX3_tellName_4 (by decide) ?_
  refine lv_icmp_eq (tgt := 16) hx hb dX3_tellName_5 (by decide) (fun c_5 => ?_) (fun c_5 => ?_)
  · have r_vu_14 : RI vu_14 2 2 := rc_eq1 r_vu_14 rl_2 (ti_eq c_5) (by decide)
    refine lv_aload_n hx hb dX3_tellName_16 rfl (lv_at hl 0 rfl) ?_
    refine lv_aload_n hx hb dX3_tellName_17 rfl (lv_at hl 1 rfl) ?_
    refine tg_getN (ci := 7) (ts := ty_TAPE) (C := RX7) (T := TX7) (N := 12) hx hb hts inX7 hown hK hw h_p1 rfl rfl 8 (by decide) (hSD.nest tn_99) (fun _ h9 => h9) (ft := vJ (-9223372036854775808) 9223372036854775807) rfl dX3_tellName_18 (fun u_15 hv_u_15 m_u_15 => ?_)
    obtain ⟨vu_15, rfl, r_vu_15⟩ := hv_u_15
    have q_vu_15 : s1.2.1 8 = vu_15 := OV.eqL (V := vw_TAPE) hw.2.2.1 o_p1 m_u_15 (by decide)
    refine tk_ir (va_runV (As := [.long vu_15]) (rest := []) ⟨hx, hb, hml, hown, hts⟩ (c_X3_isTold__1 l D cy z s.heap.size Ps w0 hw.1 p0 vu_15 s0 h_p0 r_vu_15 o_p0) (cwV 1 hts (gV tw_507 tw_509 ts_8 tw_11 tw_510) rfl rfl rfl (by decide +kernel) ⟨Nat.le_of_ble_eq_true rfl, Nat.le_of_ble_eq_true rfl⟩) (tg_preV hw hK hSD hA (ci := 3) (q := (RX3, TX3, 9)) rfl h_p0 rfl) rfl rfl hl.1 rfl (lv_room (Nat.le_of_ble_eq_true rfl)) dX3_tellName_21 ⟨Nat.le_of_ble_eq_true rfl, Nat.le_of_ble_eq_true rfl⟩) hw hA (fun v_16  H locs hp_v_16 hw => ?_)
    obtain ⟨hfn, hp_v_16⟩ := hp_v_16
    have q_v_16 : (f_X3_isTold__1 vu_15 s0) = v_16 := hfn.1
    have r_v_16 : RI v_16 0 1 := hp_v_16.1
    refine lv_if_eq (tgt := 32) hx hb dX3_tellName_24 (by decide) (fun c_24 => ?_) (fun c_24 => ?_)
    · have r_v_16 : RI v_16 0 0 := rc_eq1 r_v_16 rl_0 (ti_eq c_24) (by decide)
      simp only [f_X3_tellName__4, ↓reduceIte, q_vu_14, eq_true c_5, q_vu_15, q_v_16, eq_true c_24] at hE
      exact B32 s0 s1 w0 _ _ ls r_p2 x_MLT_p0_3 o_p0 o_p1 hE hw hl
    · have r_v_16 : RI v_16 1 1 := rc_neL r_v_16 rl_0 (ti_ne c_24) (by decide)
      refine lv_aload_n hx hb dX3_tellName_27 rfl (lv_at hl 1 rfl) ?_
      refine lv_iconst (v := 3) hx hb dX3_tellName_28 (by decide) ?_
      refine tk_v (va_runV (As := [.int 3]) (rest := []) ⟨hx, hb, hml, hown, hts⟩ (c_X7_refuse__4 l D cy z H.size Ps w0 hw.1 p1 3 s1 h_p1 (rl_3.to (by decide)) o_p1) (cwV 1 hts (gV tw_450 tw_443 tw_444 tw_2 tw_445) rfl rfl rfl (by decide +kernel) ⟨Nat.le_of_ble_eq_true rfl, Nat.le_of_ble_eq_true rfl⟩) (tg_preV hw hK hSD hA (ci := 7) (q := (RX7, TX7, 12)) rfl h_p1 rfl) rfl rfl hl.1 rfl (lv_room (Nat.le_of_ble_eq_true rfl)) dX3_tellName_29 ⟨Nat.le_of_ble_eq_true rfl, Nat.le_of_ble_eq_true rfl⟩) hw hA ⟨by decide, by decide⟩ (fun ws H locs hp_v_17 hw hF9 => ?_)
      have m_u_14 := FLD.over hF9 m_u_14 (by decide)
      have m_u_15 := FLD.over hF9 m_u_15 (by decide)
      have x_MLT_p0_3 := AXC.over hF9 x_MLT_p0_3 (by decide)
      obtain ⟨hfn, hp_v_17⟩ := hp_v_17
      have o_p0 := OV.over (V := vw_POST) hF9 o_p0 (by decide)
      obtain ⟨sg_18, q_sg_18⟩ : ∃ q9 : OS, (f_X7_refuse__4 (3 : Int32) s1) = q9 := ⟨_, rfl⟩
      have o_p1 : OV vw_TAPE Ps ws p1 sg_18 := by rw [← q_sg_18]; exact hfn.1
      obtain ⟨v_19, m_v_19, r_v_19⟩ := (hp_v_17.1)
      simp only [f_X3_tellName__4, ↓reduceIte, q_vu_14, eq_true c_5, q_vu_15, q_v_16, eq_false c_24, q_sg_18] at hE
      exact B32 s0 sg_18 ws _ _ ls r_p2 x_MLT_p0_3 o_p0 o_p1 hE hw hl
  · refine lv_aload_n hx hb dX3_tellName_8 rfl (lv_at hl 1 rfl) ?_
    refine lv_iconst (v := 1) hx hb dX3_tellName_9 (by decide) ?_
    refine tk_v (va_runV (As := [.int 1]) (rest := []) ⟨hx, hb, hml, hown, hts⟩ (c_X7_refuse__4 l D cy z s.heap.size Ps w0 hw.1 p1 1 s1 h_p1 (rl_1.to (by decide)) o_p1) (cwV 1 hts (gV tw_450 tw_443 tw_444 tw_2 tw_445) rfl rfl rfl (by decide +kernel) ⟨Nat.le_of_ble_eq_true rfl, Nat.le_of_ble_eq_true rfl⟩) (tg_preV hw hK hSD hA (ci := 7) (q := (RX7, TX7, 12)) rfl h_p1 rfl) rfl rfl hl.1 rfl (lv_room (Nat.le_of_ble_eq_true rfl)) dX3_tellName_10 ⟨Nat.le_of_ble_eq_true rfl, Nat.le_of_ble_eq_true rfl⟩) hw hA ⟨by decide, by decide⟩ (fun ws H locs hp_v_20 hw hF9 => ?_)
    have m_u_14 := FLD.over hF9 m_u_14 (by decide)
    have x_MLT_p0_3 := AXC.over hF9 x_MLT_p0_3 (by decide)
    obtain ⟨hfn, hp_v_20⟩ := hp_v_20
    have o_p0 := OV.over (V := vw_POST) hF9 o_p0 (by decide)
    obtain ⟨sg_21, q_sg_21⟩ : ∃ q9 : OS, (f_X7_refuse__4 (1 : Int32) s1) = q9 := ⟨_, rfl⟩
    have o_p1 : OV vw_TAPE Ps ws p1 sg_21 := by rw [← q_sg_21]; exact hfn.1
    obtain ⟨v_22, m_v_22, r_v_22⟩ := (hp_v_20.1)
    refine lv_goto (tgt := 32) hx hb dX3_tellName_13 (by decide) ?_
    simp only [f_X3_tellName__4, ↓reduceIte, q_vu_14, eq_false c_5, q_sg_21] at hE
    exact B32 s0 sg_21 ws _ _ ls r_p2 x_MLT_p0_3 o_p0 o_p1 hE hw hl
abbrev wr_X3_numberOf__7 : List (Nat × Nat) := []
abbrev wa_X3_numberOf__7 : List Nat := []
set_option maxHeartbeats 4000000 in
set_option maxRecDepth 100000 in
theorem c_X3_numberOf__7 (l : Launch) (D : va_G) (cy : Nat → ClassId) (z : Nat → Nat) (sz : Nat) (Ps : PSI) (w0 : va_W) (hT : HT cy GG Ps w0) (p0 : Nat) (p1 : Int64) (p2 : Int32) (s0 : OS) (h_p0 : (p0, 25) ∈ Ps) (r_p1 : RJ p1 (-9223372036854775808) 9223372036854775807) (r_p2 : RI p2 0 0) (o_p0 : OV vw_POST Ps w0 p0 s0) : Met l yX3_numberOf (Cond.code yX3_numberOf cX3_numberOf 5 (some .int) :: gT) ({ frames := 0, cells := 0, slots := 0, locals := 200 } : Room) (va_Pc [.ref p0, .long p1, .int p2] (PRE D cy z w0 sz)) (va_Qi (fun (r : Int32) (u : Unit) => ((f_X3_numberOf__5 p1 p2 s0) = r ∧ True) ∧ (RI r (-1) 5 ∧ (r = 0 → True) ∧ (¬ r = 0 → True))) (BB D cy (va_A w0 sz) (fun (u : Unit) => w0)) (va_A w0 sz)) 0 0 (va_A w0 sz) := by
  refine Met.ofW (cc := cX3_numberOf) (maxL := 5) (ret := (some .int)) (by decide) rfl ?_
  intro p e s m args below meth c s₁ B hml hv
  obtain ⟨rfl, hsz, hP, hK, hD0, hSD⟩ := hv
  have hx := B.exec
  have hb := B.bytes
  have hr := B.returns
  have hlocks := B.notSynchronized
  have hts : ∀ w ∈ gT, w.before _ s = true := fun w h => atoms_spec (ws := Cond.code yX3_numberOf cX3_numberOf 5 (some .int) :: gT) B.pre w (List.mem_cons_of_mem _ h)
  have hown : s.vm.findClass RX3 = some m.cls := findClass_of_methodNamed B.named
  subst hsz
  have hD := hD0.self (sz := s.heap.size)
  generalize hAe : va_A w0 s.heap.size = A at hD hSD ⊢
  have hA : ∀ q : Nat, s.heap.size ≤ q → A q := fun q h => by rw [← hAe]; exact Or.inr h
  have hl := lv_entry ([.ref p0, .long p1, .int p2]) (n := 5) (Nat.le_of_ble_eq_true rfl)
  rw [lg_entry_eq]
  generalize (lg_sl ([.ref p0, .long p1, .int p2]) ++ List.replicate (5 - (lg_sl ([.ref p0, .long p1, .int p2])).length) Slot.unset).toArray = ls at hl ⊢
  have hl : lv_has ls 5 [(0, .ref p0), (1, .long p1), (3, .int p2)] := hl
  refine nameQ (fun Q hQ => ?_)
  have hw : WD D cy GG A s wr_X3_numberOf__7 wa_X3_numberOf__7 Ps w0 Ps w0 s.heap [] := ⟨hT, hP, hD, va_S.rf, FR.rf, hT.1, [], (List.append_nil _).symm⟩
  obtain ⟨R9, hR⟩ : ∃ q9 : Int32, f_X3_numberOf__5 p1 p2 s0 = q9 := ⟨_, rfl⟩
  have hE := hR
  have B3 : ∀ (nf : Nat) (x4 : Int32) (s0 : OS) (H : Heap) (locs : List Loc) (ls : Array Slot), 6 - x4.toInt < (nf : Int) → RJ p1 (-9223372036854775808) 9223372036854775807 → RI p2 0 0 → RI x4 0 6 → OV vw_POST Ps w0 p0 s0 → f_X3_numberOf__5_3 p1 p2 nf x4 s0 = R9 → WD D cy GG A s wr_X3_numberOf__7 wa_X3_numberOf__7 Ps w0 Ps w0 H locs → lv_has ls 5 [(0, .ref p0), (1, .long p1), (3, .int p2), (4, .int x4)] → W p l e (headSpec (Cond.code yX3_numberOf cX3_numberOf 5 (some .int) :: gT) ({ frames := 0, cells := 0, slots := 0, locals := 200 } : Room)).room s m ([.ref p0, .long p1, .int p2] : List Value).toArray below meth c H locs 0 0 Q (F0 m 3 ls []) := by
    intro nf3
    induction nf3 with
    | zero =>
      intro x4 s0 H locs ls hn3 r_p1 r_p2 r_x4 o_p0 hE hw hl
      exact absurd hn3 (by have q0 := r_x4.1; have u0 := r_x4.2; omega)
    | succ nf3 ih3 =>
      intro x4 s0 H locs ls hn3 r_p1 r_p2 r_x4 o_p0 hE hw hl
      refine lv_iload hx hb dX3_numberOf_3 (lv_at hl 3 rfl) ?_
      refine lv_aload_n hx hb dX3_numberOf_5 rfl (lv_at hl 0 rfl) ?_
      refine tg_get (ci := 3) (ts := ty_POST) (C := RX3) (T := TX3) (N := 9) hx hb hts inX3 hown hK hw h_p0 rfl rfl 1 (by decide) (hts _ tw_201) (fun _ h9 => h9) (ft := vR 4) rfl dX3_numberOf_6 (fun u_1 hv_u_1 m_u_1 => ?_)
      obtain ⟨vu_1, rfl, h_vu_1⟩ := hv_u_1
      refine lv_iload_n hx hb dX3_numberOf_9 rfl (lv_at hl 2 rfl) ?_
      refine tg_iald (lo := 0) (hi := 6) hx hb hK hw h_vu_1 rfl 0 0 r_p2 (by decide) (by decide +kernel) dX3_numberOf_10 (fun v_2 r_v_2 m_v_2 o_v_2 => ?_)
      have q_v_2 : s0.2.2.1 1 (Int32.toNatClampNeg p2) = v_2 := OV.eqA (V := vw_POST) (t := 4) hw.2.2.1 o_p0 m_u_1 m_v_2 (by decide)
      refine lv_icmp_ge (tgt := 40) hx hb dX3_numberOf_11 (by decide) (fun c_11 => ?_) (fun c_11 => ?_)
      · refine lv_iconst (v := (-1)) hx hb dX3_numberOf_40 (by decide) ?_
        simp only [f_X3_numberOf__5_3, ↓reduceIte, q_v_2, eq_true c_11] at hE
        subst hQ
        exact W.iret (v := (-1)) hx hb hr (fun t ht hW => ⟨⟨(-1), (), rfl, ⟨⟨(by rw [hR, ← hE]), trivial⟩, rl_m1.to (by decide), (fun _ => trivial), (fun h0 => trivial)⟩, by rw [ht]; exact hw.2.1, va_K.moved hW.alike hK, hw.2.2.1⟩, hw.2.2.2.1.F ht⟩) hw.2.2.2.1.2.2 dX3_numberOf_41
      · have r_x4 : RI x4 0 5 := rc_lt1 r_x4 r_v_2 (ti_nle c_11) (by decide)
        have r_v_2 : RI v_2 1 6 := rc_lt2 r_x4 r_v_2 (ti_nle c_11) (by decide)
        refine lv_aload_n hx hb dX3_numberOf_14 rfl (lv_at hl 0 rfl) ?_
        refine tg_get (ci := 3) (ts := ty_POST) (C := RX3) (T := TX3) (N := 9) hx hb hts inX3 hown hK hw h_p0 rfl rfl 0 (by decide) (hts _ tw_200) (fun _ h9 => h9) (ft := vR 1) rfl dX3_numberOf_15 (fun u_3 hv_u_3 m_u_3 => ?_)
        obtain ⟨vu_3, rfl, h_vu_3⟩ := hv_u_3
        refine lv_iload_n hx hb dX3_numberOf_18 rfl (lv_at hl 2 rfl) ?_
        refine lv_bipush (v := 8) hx hb dX3_numberOf_19 (by decide) ?_
        refine lv_imul hx hb dX3_numberOf_21 (lv_topi (fun v_4 e_v_4 => ?_))
        obtain ⟨t_v_4, r_v_4⟩ := tq_mul (lo := 0) (hi := 0) r_p2 rl_8 (by decide +kernel) e_v_4
        have t_v_4 : v_4.toInt = p2.toInt * 8 := t_v_4
        have q_v_4 : p2 * (8 : Int32) = v_4 := e_v_4.symm
        refine lv_iload hx hb dX3_numberOf_22 (lv_at hl 3 rfl) ?_
        refine lv_iadd hx hb dX3_numberOf_24 (lv_topi (fun v_5 e_v_5 => ?_))
        obtain ⟨t_v_5, r_v_5⟩ := tq_add (lo := 0) (hi := 5) r_v_4 r_x4 (by decide +kernel) e_v_5
        have q_v_5 : v_4 + x4 = v_5 := e_v_5.symm
        refine tg_laldE hx hb hK hw h_vu_3 rfl r_v_5 (by decide) dX3_numberOf_25 (fun w_6 r_w_6 l_w_6 => ?_)
        have q_w_6 : s0.2.2.2 0 (Int32.toNatClampNeg v_5) = w_6 := OV.eqB (V := vw_POST) (t := 1) hw.2.2.1 o_p0 m_u_3 l_w_6 (by decide)
        refine lv_lload_n hx hb dX3_numberOf_26 rfl (lv_at hl 1 rfl) ?_
        refine W.lcmp hx hb dX3_numberOf_27 (lv_topi (fun v_7 e_v_7 => ?_))
        have r_v_7 := ri_any v_7
        have q_v_7 : lg_cmp w_6 p1 = v_7 := e_v_7.symm
        refine lv_if_ne (tgt := 34) hx hb dX3_numberOf_28 (by decide) (fun c_28 => ?_) (fun c_28 => ?_)
        · obtain ⟨v_8, e_v_8⟩ : ∃ q9 : Int32, q9 = x4 + Int32.ofInt 1 := ⟨_, rfl⟩
          obtain ⟨t_v_8, r_v_8⟩ := tq_add (lo := 1) (hi := 6) r_x4 (show RI (Int32.ofInt 1) 1 1 by unfold RI; decide +kernel) (by decide +kernel) e_v_8
          have t_v_8 : v_8.toInt = x4.toInt + 1 := t_v_8
          refine lv_iinc (v := v_8) (lv' := [(4, .int v_8), (0, .ref p0), (1, .long p1), (3, .int p2)]) hx hb dX3_numberOf_34 hl (k := 3) rfl e_v_8.symm (by decide) rfl (fun ls hl => ?_)
          have q_v_8 : x4 + (1 : Int32) = v_8 := by rw [e_v_8, show Int32.ofInt 1 = (1 : Int32) by decide]
          refine lv_goto (tgt := 3) hx hb dX3_numberOf_37 (by decide) ?_
          simp only [f_X3_numberOf__5_3, ↓reduceIte, q_v_2, eq_false c_11, q_v_4, q_v_5, q_w_6, q_v_7, eq_false c_28, q_v_8] at hE
          exact ih3 v_8 s0 _ _ ls (by have q0 := r_v_8.1; have u0 := r_v_8.2; have o0 := r_x4.1; have p0 := r_x4.2; omega) r_p1 r_p2 (r_v_8.to (by decide)) o_p0 hE hw (lv_sub hl [1, 2, 3, 0] rfl)
        · have r_v_7 : RI v_7 0 0 := rc_eq1 r_v_7 rl_0 (ti_eq c_28) (by decide)
          refine lv_iload hx hb dX3_numberOf_31 (lv_at hl 3 rfl) ?_
          simp only [f_X3_numberOf__5_3, ↓reduceIte, q_v_2, eq_false c_11, q_v_4, q_v_5, q_w_6, q_v_7, eq_true c_28] at hE
          subst hQ
          exact W.iret (v := x4) hx hb hr (fun t ht hW => ⟨⟨x4, (), rfl, ⟨⟨(by rw [hR, ← hE]), trivial⟩, r_x4.to (by decide), (fun h0 => trivial), (fun h0 => trivial)⟩, by rw [ht]; exact hw.2.1, va_K.moved hW.alike hK, hw.2.2.1⟩, hw.2.2.2.1.F ht⟩) hw.2.2.2.1.2.2 dX3_numberOf_33
  refine lv_iconst (v := 0) hx hb dX3_numberOf_0 (by decide) ?_
  refine lv_istore (lv' := [(4, .int 0), (0, .ref p0), (1, .long p1), (3, .int p2)]) hx hb dX3_numberOf_1 hl (by decide) rfl (fun ls hl => ?_)
  simp only [f_X3_numberOf__5, ↓reduceIte] at hE
  exact B3 4294967298 0 s0 _ _ ls (by have q0 := rl_0.1; have u0 := rl_0.2; omega) r_p1 r_p2 (rl_0.to (by decide)) o_p0 hE hw (lv_sub hl [1, 2, 3, 0] rfl)
abbrev wr_X7_nameAhead__14 : List (Nat × Nat) := [(7, 10), (7, 11)]
abbrev wa_X7_nameAhead__14 : List Nat := []
set_option maxHeartbeats 4000000 in
set_option maxRecDepth 100000 in
theorem c_X7_nameAhead__14 (l : Launch) (D : va_G) (cy : Nat → ClassId) (z : Nat → Nat) (sz : Nat) (Ps : PSI) (w0 : va_W) (hT : HT cy GG Ps w0) (p0 : Nat) (p1 : Nat) (p2 : Int32) (f0_10 : Int32) (s0 : OS) (s1 : OS) (h_p0 : (p0, 26) ∈ Ps) (h_p1 : (p1, 25) ∈ Ps) (r_p2 : RI p2 0 0) (r_f0_10 : RI f0_10 0 0) (m_f0_10 : FLD w0 p0 7 10 (.int f0_10)) (o_p0 : OV vw_TAPE Ps w0 p0 s0) (o_p1 : OV vw_POST Ps w0 p1 s1) : Met l yX7_nameAhead (Cond.code yX7_nameAhead cX7_nameAhead 4 (some .int) :: gT) ({ frames := 2, cells := 0, slots := 0, locals := 400 } : Room) (va_Pc [.ref p0, .ref p1, .int p2] (PRE D cy z w0 sz)) (va_Qi (fun (r : Int32) (u : va_W) => ((OV vw_TAPE Ps u p0 ((f_X7_nameAhead__12 p2 s0 s1).1) ∧ OV vw_POST Ps u p1 ((f_X7_nameAhead__12 p2 s0 s1).2.1) ∧ (f_X7_nameAhead__12 p2 s0 s1).2.2 = r ∧ True) ∧ (RI r (-1) 5 ∧ (r = 0 → True) ∧ (¬ r = 0 → True) ∧ (True) ∧ (r.toInt < 0 → FLTp u p0 ∧ True) ∧ (0 ≤ r.toInt → True))) ∧ HT cy GG Ps u ∧ FR wr_X7_nameAhead__14 wa_X7_nameAhead__14 Ps w0 u) (BB D cy (va_A w0 sz) (fun (u : va_W) => u)) (va_A w0 sz)) 0 0 (va_A w0 sz) := by
  refine Met.ofW (cc := cX7_nameAhead) (maxL := 4) (ret := (some .int)) (by decide) rfl ?_
  intro p e s m args below meth c s₁ B hml hv
  obtain ⟨rfl, hsz, hP, hK, hD0, hSD⟩ := hv
  have hx := B.exec
  have hb := B.bytes
  have hr := B.returns
  have hlocks := B.notSynchronized
  have hts : ∀ w ∈ gT, w.before _ s = true := fun w h => atoms_spec (ws := Cond.code yX7_nameAhead cX7_nameAhead 4 (some .int) :: gT) B.pre w (List.mem_cons_of_mem _ h)
  have hown : s.vm.findClass RX7 = some m.cls := findClass_of_methodNamed B.named
  subst hsz
  have hD := hD0.self (sz := s.heap.size)
  generalize hAe : va_A w0 s.heap.size = A at hD hSD ⊢
  have hA : ∀ q : Nat, s.heap.size ≤ q → A q := fun q h => by rw [← hAe]; exact Or.inr h
  have hl := lv_entry ([.ref p0, .ref p1, .int p2]) (n := 4) (Nat.le_of_ble_eq_true rfl)
  rw [lg_entry_eq]
  generalize (lg_sl ([.ref p0, .ref p1, .int p2]) ++ List.replicate (4 - (lg_sl ([.ref p0, .ref p1, .int p2])).length) Slot.unset).toArray = ls at hl ⊢
  have hl : lv_has ls 4 [(0, .ref p0), (1, .ref p1), (2, .int p2)] := hl
  refine nameQ (fun Q hQ => ?_)
  have hw : WD D cy GG A s wr_X7_nameAhead__14 wa_X7_nameAhead__14 Ps w0 Ps w0 s.heap [] := ⟨hT, hP, hD, va_S.rf, FR.rf, hT.1, [], (List.append_nil _).symm⟩
  obtain ⟨R9, hR⟩ : ∃ q9 : OS × OS × Int32, f_X7_nameAhead__12 p2 s0 s1 = q9 := ⟨_, rfl⟩
  have hE := hR
  refine lv_aload_n hx hb dX7_nameAhead_0 rfl (lv_at hl 0 rfl) ?_
  refine tg_get (ci := 7) (ts := ty_TAPE) (C := RX7) (T := TX7) (N := 12) hx hb hts inX7 hown hK hw h_p0 rfl rfl 7 (by decide) (hts _ tw_98) (fun _ h9 => h9) (ft := vI (-2147483648) 2147483647) rfl dX7_nameAhead_1 (fun u_1 hv_u_1 m_u_1 => ?_)
  obtain ⟨vu_1, rfl, r_vu_1⟩ := hv_u_1
  have q_vu_1 : s0.1 7 = vu_1 := OV.eqI (V := vw_TAPE) hw.2.2.1 o_p0 m_u_1 (by decide)
  refine lv_iconst (v := 2) hx hb dX7_nameAhead_4 (by decide) ?_
  refine lv_icmp_eq (tgt := 15) hx hb dX7_nameAhead_5 (by decide) (fun c_5 => ?_) (fun c_5 => ?_)
  · have r_vu_1 : RI vu_1 2 2 := rc_eq1 r_vu_1 rl_2 (ti_eq c_5) (by decide)
    refine lv_aload_n hx hb dX7_nameAhead_15 rfl (lv_at hl 1 rfl) ?_
    refine lv_aload_n hx hb dX7_nameAhead_16 rfl (lv_at hl 0 rfl) ?_
    refine tg_get (ci := 7) (ts := ty_TAPE) (C := RX7) (T := TX7) (N := 12) hx hb hts inX7 hown hK hw h_p0 rfl rfl 8 (by decide) (hts _ tw_100) (fun _ h9 => h9) (ft := vJ (-9223372036854775808) 9223372036854775807) rfl dX7_nameAhead_17 (fun u_2 hv_u_2 m_u_2 => ?_)
    obtain ⟨vu_2, rfl, r_vu_2⟩ := hv_u_2
    have q_vu_2 : s0.2.1 8 = vu_2 := OV.eqL (V := vw_TAPE) hw.2.2.1 o_p0 m_u_2 (by decide)
    refine lv_iload_n hx hb dX7_nameAhead_20 rfl (lv_at hl 2 rfl) ?_
    refine tk_ir (va_runV (As := [.long vu_2, .int p2]) (rest := []) ⟨hx, hb, hml, hown, hts⟩ (c_X3_numberOf__7 l D cy z s.heap.size Ps w0 hw.1 p1 vu_2 p2 s1 h_p1 r_vu_2 r_p2 o_p1) (cwV 2 hts (gV tw_460 tw_461 tw_462 tw_11 tw_463) rfl rfl rfl (by decide +kernel) ⟨Nat.le_of_ble_eq_true rfl, Nat.le_of_ble_eq_true rfl⟩) (tg_preV hw hK hSD hA (ci := 3) (q := (RX3, TX3, 9)) rfl h_p1 rfl) rfl rfl hl.1 rfl (lv_room (Nat.le_of_ble_eq_true rfl)) dX7_nameAhead_21 ⟨Nat.le_of_ble_eq_true rfl, Nat.le_of_ble_eq_true rfl⟩) hw hA (fun v_3  H locs hp_v_3 hw => ?_)
    obtain ⟨hfn, hp_v_3⟩ := hp_v_3
    have q_v_3 : (f_X3_numberOf__5 vu_2 p2 s1) = v_3 := hfn.1
    have r_v_3 : RI v_3 (-1) 5 := hp_v_3.1
    refine lv_istore_n (lv' := [(3, .int v_3), (0, .ref p0), (1, .ref p1), (2, .int p2)]) hx hb dX7_nameAhead_24 rfl hl (by decide) rfl (fun ls hl => ?_)
    refine lv_iload_n hx hb dX7_nameAhead_25 rfl (lv_at hl 0 rfl) ?_
    refine lv_iconst (v := (-1)) hx hb dX7_nameAhead_26 (by decide) ?_
    refine lv_icmp_ne (tgt := 35) hx hb dX7_nameAhead_27 (by decide) (fun c_27 => ?_) (fun c_27 => ?_)
    · have r_v_3 : RI v_3 0 5 := rc_neL r_v_3 rl_m1 (ti_ne c_27) (by decide)
      refine lv_aload_n hx hb dX7_nameAhead_35 rfl (lv_at hl 1 rfl) ?_
      refine tg_mem (ci := 7) (C := RX7) (T := TX7) (N := 12) hx hb hts inX7 hown hK hw 10 m_f0_10 rfl (by decide) (hts _ tw_104) (fun _ h9 => h9) dX7_nameAhead_36 ?_
      have q_f0_10 : s0.1 10 = f0_10 := OV.eqI (V := vw_TAPE) hw.2.2.1 o_p0 m_f0_10 (by decide)
      refine lv_if_ne (tgt := 46) hx hb dX7_nameAhead_39 (by decide) (fun c_39 => ?_) (fun c_39 => ?_)
      · exact absurd (r_f0_10.eq.trans rl_0.eq.symm) ((ti_ne c_39))
      · refine lv_iload_n hx hb dX7_nameAhead_42 rfl (lv_at hl 0 rfl) ?_
        refine lv_goto (tgt := 47) hx hb dX7_nameAhead_43 (by decide) ?_
        simp only [f_X7_nameAhead__12, ↓reduceIte, q_vu_1, eq_true c_5, q_vu_2, q_v_3, eq_false c_27, q_f0_10, eq_true c_39] at hE
        subst hQ
        exact W.iret (v := v_3) hx hb hr (fun t ht hW => ⟨⟨v_3, w0, rfl, ⟨⟨⟨(by rw [hR, ← hE]; exact o_p0), (by rw [hR, ← hE]; exact o_p1), (by rw [hR, ← hE]), trivial⟩, r_v_3.to (by decide), (fun h0 => trivial), (fun h0 => trivial), trivial, (fun h0 => absurd h0 (by have h8 := r_v_3; unfold RI at h8; omega)), (fun _ => trivial)⟩, hw.1, hw.2.2.2.2.1⟩, by rw [ht]; exact hw.2.1, va_K.moved hW.alike hK, hw.2.2.1⟩, hw.2.2.2.1.F ht⟩) hw.2.2.2.1.2.2 dX7_nameAhead_47
    · have r_v_3 : RI v_3 (-1) (-1) := rc_eq1 r_v_3 rl_m1 (ti_eq c_27) (by decide)
      refine lv_aload_n hx hb dX7_nameAhead_30 rfl (lv_at hl 1 rfl) ?_
      refine lv_iconst (v := 3) hx hb dX7_nameAhead_31 (by decide) ?_
      refine tk_v (va_runV (As := [.int 3]) (rest := []) ⟨hx, hb, hml, hown, hts⟩ (c_X7_refuse__5 l D cy z H.size Ps w0 hw.1 p0 3 f0_10 s0 h_p0 (rl_3.to (by decide)) r_f0_10 m_f0_10 o_p0) (cwV 1 hts (gV tw_442 tw_443 tw_444 tw_2 tw_445) rfl rfl rfl (by decide +kernel) ⟨Nat.le_of_ble_eq_true rfl, Nat.le_of_ble_eq_true rfl⟩) (tg_preV hw hK hSD hA (ci := 7) (q := (RX7, TX7, 12)) rfl h_p0 rfl) rfl rfl hl.1 rfl (lv_room (Nat.le_of_ble_eq_true rfl)) dX7_nameAhead_32 ⟨Nat.le_of_ble_eq_true rfl, Nat.le_of_ble_eq_true rfl⟩) hw hA ⟨by decide, by decide⟩ (fun ws H locs hp_v_4 hw hF9 => ?_)
      have m_u_1 := FLD.over hF9 m_u_1 (by decide)
      have m_u_2 := FLD.over hF9 m_u_2 (by decide)
      obtain ⟨hfn, hp_v_4⟩ := hp_v_4
      have o_p1 := OV.over (V := vw_POST) hF9 o_p1 (by decide)
      obtain ⟨sg_5, q_sg_5⟩ : ∃ q9 : OS, (f_X7_refuse__5 (3 : Int32) s0) = q9 := ⟨_, rfl⟩
      have o_p0 : OV vw_TAPE Ps ws p0 sg_5 := by rw [← q_sg_5]; exact hfn.1
      obtain ⟨v_6, m_v_6, r_v_6⟩ := (hp_v_4.1)
      refine lv_aload_n hx hb dX7_nameAhead_35 rfl (lv_at hl 1 rfl) ?_
      refine tg_mem (ci := 7) (C := RX7) (T := TX7) (N := 12) hx hb hts inX7 hown hK hw 10 m_v_6 rfl (by decide) (hts _ tw_104) (fun _ h9 => h9) dX7_nameAhead_36 ?_
      have q_v_6 : sg_5.1 10 = v_6 := OV.eqI (V := vw_TAPE) hw.2.2.1 o_p0 m_v_6 (by decide)
      refine lv_if_ne (tgt := 46) hx hb dX7_nameAhead_39 (by decide) (fun c_39 => ?_) (fun c_39 => ?_)
      · refine lv_iconst (v := (-1)) hx hb dX7_nameAhead_46 (by decide) ?_
        simp only [f_X7_nameAhead__12, ↓reduceIte, q_vu_1, eq_true c_5, q_vu_2, q_v_3, eq_true c_27, q_sg_5, q_v_6, eq_false c_39] at hE
        subst hQ
        have x_FLT_p0 : FLTp ws p0 := ⟨_, m_v_6, r_v_6.to (by decide)⟩
        exact W.iret (v := (-1)) hx hb hr (fun t ht hW => ⟨⟨(-1), ws, rfl, ⟨⟨⟨(by rw [hR, ← hE]; exact o_p0), (by rw [hR, ← hE]; exact o_p1), (by rw [hR, ← hE]), trivial⟩, rl_m1.to (by decide), (fun _ => trivial), (fun h0 => trivial), trivial, (fun h0 => ⟨x_FLT_p0, trivial⟩), (fun _ => trivial)⟩, hw.1, hw.2.2.2.2.1⟩, by rw [ht]; exact hw.2.1, va_K.moved hW.alike hK, hw.2.2.1⟩, hw.2.2.2.1.F ht⟩) hw.2.2.2.1.2.2 dX7_nameAhead_47
      · have r_v_6 : RI v_6 1 0 := rc_eq1 r_v_6 rl_0 (ti_eq c_39) (by decide)
        exact (r_v_6.no (by decide)).elim
  · refine lv_aload_n hx hb dX7_nameAhead_8 rfl (lv_at hl 0 rfl) ?_
    refine lv_iconst (v := 1) hx hb dX7_nameAhead_9 (by decide) ?_
    refine tk_v (va_runV (As := [.int 1]) (rest := []) ⟨hx, hb, hml, hown, hts⟩ (c_X7_refuse__5 l D cy z s.heap.size Ps w0 hw.1 p0 1 f0_10 s0 h_p0 (rl_1.to (by decide)) r_f0_10 m_f0_10 o_p0) (cwV 1 hts (gV tw_442 tw_443 tw_444 tw_2 tw_445) rfl rfl rfl (by decide +kernel) ⟨Nat.le_of_ble_eq_true rfl, Nat.le_of_ble_eq_true rfl⟩) (tg_preV hw hK hSD hA (ci := 7) (q := (RX7, TX7, 12)) rfl h_p0 rfl) rfl rfl hl.1 rfl (lv_room (Nat.le_of_ble_eq_true rfl)) dX7_nameAhead_10 ⟨Nat.le_of_ble_eq_true rfl, Nat.le_of_ble_eq_true rfl⟩) hw hA ⟨by decide, by decide⟩ (fun ws H locs hp_v_7 hw hF9 => ?_)
    have m_u_1 := FLD.over hF9 m_u_1 (by decide)
    obtain ⟨hfn, hp_v_7⟩ := hp_v_7
    have o_p1 := OV.over (V := vw_POST) hF9 o_p1 (by decide)
    obtain ⟨sg_8, q_sg_8⟩ : ∃ q9 : OS, (f_X7_refuse__5 (1 : Int32) s0) = q9 := ⟨_, rfl⟩
    have o_p0 : OV vw_TAPE Ps ws p0 sg_8 := by rw [← q_sg_8]; exact hfn.1
    obtain ⟨v_9, m_v_9, r_v_9⟩ := (hp_v_7.1)
    refine lv_iconst (v := (-1)) hx hb dX7_nameAhead_13 (by decide) ?_
    simp only [f_X7_nameAhead__12, ↓reduceIte, q_vu_1, eq_false c_5, q_sg_8] at hE
    subst hQ
    have x_FLT_p0 : FLTp ws p0 := ⟨_, m_v_9, r_v_9.to (by decide)⟩
    exact W.iret (v := (-1)) hx hb hr (fun t ht hW => ⟨⟨(-1), ws, rfl, ⟨⟨⟨(by rw [hR, ← hE]; exact o_p0), (by rw [hR, ← hE]; exact o_p1), (by rw [hR, ← hE]), trivial⟩, rl_m1.to (by decide), (fun _ => trivial), (fun h0 => trivial), trivial, (fun h0 => ⟨x_FLT_p0, trivial⟩), (fun _ => trivial)⟩, hw.1, hw.2.2.2.2.1⟩, by rw [ht]; exact hw.2.1, va_K.moved hW.alike hK, hw.2.2.1⟩, hw.2.2.2.1.F ht⟩) hw.2.2.2.1.2.2 dX7_nameAhead_14
abbrev wr_X7_takeName__13 : List (Nat × Nat) := [(7, 5), (7, 6), (7, 7), (7, 8), (7, 9), (7, 10), (7, 11)]
abbrev wa_X7_takeName__13 : List Nat := []
set_option maxHeartbeats 4000000 in
set_option maxRecDepth 100000 in
theorem c_X7_takeName__13 (l : Launch) (D : va_G) (cy : Nat → ClassId) (z : Nat → Nat) (sz : Nat) (Ps : PSI) (w0 : va_W) (hT : HT cy GG Ps w0) (p0 : Nat) (p1 : Nat) (p2 : Int32) (f0_10 : Int32) (s0 : OS) (s1 : OS) (h_p0 : (p0, 26) ∈ Ps) (h_p1 : (p1, 25) ∈ Ps) (r_p2 : RI p2 0 0) (r_f0_10 : RI f0_10 0 0) (m_f0_10 : FLD w0 p0 7 10 (.int f0_10)) (o_p0 : OV vw_TAPE Ps w0 p0 s0) (o_p1 : OV vw_POST Ps w0 p1 s1) : Met l yX7_takeName (Cond.code yX7_takeName cX7_takeName 4 (some .int) :: gT) ({ frames := 3, cells := 0, slots := 0, locals := 600 } : Room) (va_Pc [.ref p0, .ref p1, .int p2] (PRE D cy z w0 sz)) (va_Qi (fun (r : Int32) (u : va_W) => ((OV vw_TAPE Ps u p0 ((f_X7_takeName__11 p2 s0 s1).1) ∧ OV vw_POST Ps u p1 ((f_X7_takeName__11 p2 s0 s1).2.1) ∧ (f_X7_takeName__11 p2 s0 s1).2.2 = r ∧ True) ∧ (RI r (-1) 5 ∧ (r = 0 → True) ∧ (¬ r = 0 → True) ∧ (True) ∧ (r.toInt < 0 → FLTp u p0 ∧ True) ∧ (0 ≤ r.toInt → True))) ∧ HT cy GG Ps u ∧ FR wr_X7_takeName__13 wa_X7_takeName__13 Ps w0 u) (BB D cy (va_A w0 sz) (fun (u : va_W) => u)) (va_A w0 sz)) 0 0 (va_A w0 sz) := by
  refine Met.ofW (cc := cX7_takeName) (maxL := 4) (ret := (some .int)) (by decide) rfl ?_
  intro p e s m args below meth c s₁ B hml hv
  obtain ⟨rfl, hsz, hP, hK, hD0, hSD⟩ := hv
  have hx := B.exec
  have hb := B.bytes
  have hr := B.returns
  have hlocks := B.notSynchronized
  have hts : ∀ w ∈ gT, w.before _ s = true := fun w h => atoms_spec (ws := Cond.code yX7_takeName cX7_takeName 4 (some .int) :: gT) B.pre w (List.mem_cons_of_mem _ h)
  have hown : s.vm.findClass RX7 = some m.cls := findClass_of_methodNamed B.named
  subst hsz
  have hD := hD0.self (sz := s.heap.size)
  generalize hAe : va_A w0 s.heap.size = A at hD hSD ⊢
  have hA : ∀ q : Nat, s.heap.size ≤ q → A q := fun q h => by rw [← hAe]; exact Or.inr h
  have hl := lv_entry ([.ref p0, .ref p1, .int p2]) (n := 4) (Nat.le_of_ble_eq_true rfl)
  rw [lg_entry_eq]
  generalize (lg_sl ([.ref p0, .ref p1, .int p2]) ++ List.replicate (4 - (lg_sl ([.ref p0, .ref p1, .int p2])).length) Slot.unset).toArray = ls at hl ⊢
  have hl : lv_has ls 4 [(0, .ref p0), (1, .ref p1), (2, .int p2)] := hl
  refine nameQ (fun Q hQ => ?_)
  have hw : WD D cy GG A s wr_X7_takeName__13 wa_X7_takeName__13 Ps w0 Ps w0 s.heap [] := ⟨hT, hP, hD, va_S.rf, FR.rf, hT.1, [], (List.append_nil _).symm⟩
  obtain ⟨R9, hR⟩ : ∃ q9 : OS × OS × Int32, f_X7_takeName__11 p2 s0 s1 = q9 := ⟨_, rfl⟩
  have hE := hR
  refine lv_aload_n hx hb dX7_takeName_0 rfl (lv_at hl 0 rfl) ?_
  refine lv_aload_n hx hb dX7_takeName_1 rfl (lv_at hl 1 rfl) ?_
  refine lv_iload_n hx hb dX7_takeName_2 rfl (lv_at hl 2 rfl) ?_
  refine tk_i (va_runV (As := [.ref p1, .int p2]) (rest := []) ⟨hx, hb, hml, hown, hts⟩ (c_X7_nameAhead__14 l D cy z s.heap.size Ps w0 hw.1 p0 p1 p2 f0_10 s0 s1 h_p0 h_p1 r_p2 r_f0_10 m_f0_10 o_p0 o_p1) (cwV 2 hts (gV tw_468 tw_457 tw_458 tw_2 tw_459) rfl rfl rfl (by decide +kernel) ⟨Nat.le_of_ble_eq_true rfl, Nat.le_of_ble_eq_true rfl⟩) (tg_preV hw hK hSD hA (ci := 7) (q := (RX7, TX7, 12)) rfl h_p0 rfl) rfl rfl hl.1 rfl (lv_room (Nat.le_of_ble_eq_true rfl)) dX7_takeName_3 ⟨Nat.le_of_ble_eq_true rfl, Nat.le_of_ble_eq_true rfl⟩) hw hA ⟨by decide, by decide⟩ (fun v_1 ws H locs hp_v_1 hw hF9 => ?_)
  obtain ⟨hfn, hp_v_1⟩ := hp_v_1
  obtain ⟨sg_2, q_sg_2⟩ : ∃ q9 : OS, (f_X7_nameAhead__12 p2 s0 s1).1 = q9 := ⟨_, rfl⟩
  have o_p0 : OV vw_TAPE Ps ws p0 sg_2 := by rw [← q_sg_2]; exact hfn.1
  obtain ⟨sg_3, q_sg_3⟩ : ∃ q9 : OS, (f_X7_nameAhead__12 p2 s0 s1).2.1 = q9 := ⟨_, rfl⟩
  have o_p1 : OV vw_POST Ps ws p1 sg_3 := by rw [← q_sg_3]; exact hfn.2.1
  have q_v_1 : (f_X7_nameAhead__12 p2 s0 s1).2.2 = v_1 := hfn.2.2.1
  have r_v_1 : RI v_1 (-1) 5 := hp_v_1.1
  by_cases c9_v_1 : v_1.toInt < 0
  · have r_v_1 : RI v_1 (-1) (-1) := by unfold RI at r_v_1 ⊢; omega
    have x_FLT_p0 := (hp_v_1.2.2.2.2.1 (by omega)).1
    obtain ⟨v_4, m_v_4, r_v_4⟩ := id x_FLT_p0
    refine lv_istore_n (lv' := [(3, .int v_1), (0, .ref p0), (1, .ref p1), (2, .int p2)]) hx hb dX7_takeName_6 rfl hl (by decide) rfl (fun ls hl => ?_)
    refine lv_aload_n hx hb dX7_takeName_7 rfl (lv_at hl 1 rfl) ?_
    refine tk_vr (va_runV (As := []) (rest := []) ⟨hx, hb, hml, hown, hts⟩ (c_X7_pass__4 l D cy z H.size Ps ws hw.1 p0 v_4 sg_2 h_p0 r_v_4 m_v_4 o_p0) (cwV 0 hts (gV tw_424 tw_425 tw_426 tw_2 tw_427) rfl rfl rfl (by decide +kernel) ⟨Nat.le_of_ble_eq_true rfl, Nat.le_of_ble_eq_true rfl⟩) (tg_preV hw hK hSD hA (ci := 7) (q := (RX7, TX7, 12)) rfl h_p0 rfl) rfl rfl hl.1 rfl (lv_room (Nat.le_of_ble_eq_true rfl)) dX7_takeName_8 ⟨Nat.le_of_ble_eq_true rfl, Nat.le_of_ble_eq_true rfl⟩) hw hA (fun  H locs hp_v_5 hw => ?_)
    obtain ⟨hfn, hp_v_5⟩ := hp_v_5
    refine lv_iload_n hx hb dX7_takeName_11 rfl (lv_at hl 0 rfl) ?_
    simp only [f_X7_takeName__11, ↓reduceIte, q_sg_2, q_sg_3, q_v_1, eq_true c9_v_1] at hE
    subst hQ
    exact W.iret (v := v_1) hx hb hr (fun t ht hW => ⟨⟨v_1, ws, rfl, ⟨⟨⟨(by rw [hR, ← hE]; exact o_p0), (by rw [hR, ← hE]; exact o_p1), (by rw [hR, ← hE]), trivial⟩, r_v_1.to (by decide), (fun _ => trivial), (fun h0 => trivial), trivial, (fun h0 => ⟨x_FLT_p0, trivial⟩), (fun _ => trivial)⟩, hw.1, hw.2.2.2.2.1⟩, by rw [ht]; exact hw.2.1, va_K.moved hW.alike hK, hw.2.2.1⟩, hw.2.2.2.1.F ht⟩) hw.2.2.2.1.2.2 dX7_takeName_12
  · have r_v_1 : RI v_1 0 5 := by unfold RI at r_v_1 ⊢; omega
    refine lv_istore_n (lv' := [(3, .int v_1), (0, .ref p0), (1, .ref p1), (2, .int p2)]) hx hb dX7_takeName_6 rfl hl (by decide) rfl (fun ls hl => ?_)
    refine lv_aload_n hx hb dX7_takeName_7 rfl (lv_at hl 1 rfl) ?_
    refine tk_v (va_runV (As := []) (rest := []) ⟨hx, hb, hml, hown, hts⟩ (c_X7_pass__6 l D cy z H.size Ps ws hw.1 p0 sg_2 h_p0 o_p0) (cwV 0 hts (gV tw_424 tw_425 tw_426 tw_2 tw_427) rfl rfl rfl (by decide +kernel) ⟨Nat.le_of_ble_eq_true rfl, Nat.le_of_ble_eq_true rfl⟩) (tg_preV hw hK hSD hA (ci := 7) (q := (RX7, TX7, 12)) rfl h_p0 rfl) rfl rfl hl.1 rfl (lv_room (Nat.le_of_ble_eq_true rfl)) dX7_takeName_8 ⟨Nat.le_of_ble_eq_true rfl, Nat.le_of_ble_eq_true rfl⟩) hw hA ⟨by decide, by decide⟩ (fun ws H locs hp_v_6 hw hF9 => ?_)
    obtain ⟨hfn, hp_v_6⟩ := hp_v_6
    have o_p1 := OV.over (V := vw_POST) hF9 o_p1 (by decide)
    obtain ⟨sg_7, q_sg_7⟩ : ∃ q9 : OS, (f_X7_pass__6 sg_2) = q9 := ⟨_, rfl⟩
    have o_p0 : OV vw_TAPE Ps ws p0 sg_7 := by rw [← q_sg_7]; exact hfn.1
    refine lv_iload_n hx hb dX7_takeName_11 rfl (lv_at hl 0 rfl) ?_
    simp only [f_X7_takeName__11, ↓reduceIte, q_sg_2, q_sg_3, q_v_1, eq_false c9_v_1, q_sg_7] at hE
    subst hQ
    exact W.iret (v := v_1) hx hb hr (fun t ht hW => ⟨⟨v_1, ws, rfl, ⟨⟨⟨(by rw [hR, ← hE]; exact o_p0), (by rw [hR, ← hE]; exact o_p1), (by rw [hR, ← hE]), trivial⟩, r_v_1.to (by decide), (fun h0 => trivial), (fun h0 => trivial), trivial, (fun h0 => absurd h0 (by have h8 := r_v_1; unfold RI at h8; omega)), (fun _ => trivial)⟩, hw.1, hw.2.2.2.2.1⟩, by rw [ht]; exact hw.2.1, va_K.moved hW.alike hK, hw.2.2.1⟩, hw.2.2.2.1.F ht⟩) hw.2.2.2.1.2.2 dX7_takeName_12
abbrev wr_X7_refuse__6 : List (Nat × Nat) := []
abbrev wa_X7_refuse__6 : List Nat := []
set_option maxHeartbeats 4000000 in
set_option maxRecDepth 100000 in
theorem c_X7_refuse__6 (l : Launch) (D : va_G) (cy : Nat → ClassId) (z : Nat → Nat) (sz : Nat) (Ps : PSI) (w0 : va_W) (hT : HT cy GG Ps w0) (p0 : Nat) (p1 : Int32) (f0_10 : Int32) (s0 : OS) (h_p0 : (p0, 26) ∈ Ps) (r_p1 : RI p1 1 4) (r_f0_10 : RI f0_10 1 4) (m_f0_10 : FLD w0 p0 7 10 (.int f0_10)) (o_p0 : OV vw_TAPE Ps w0 p0 s0) : Met l yX7_refuse (Cond.code yX7_refuse cX7_refuse 2 none :: gT) ({ frames := 0, cells := 0, slots := 0, locals := 200 } : Room) (va_Pc [.ref p0, .int p1] (PRE D cy z w0 sz)) (va_Qv (fun (u : Unit) => (True) ∧ (True)) (BB D cy (va_A w0 sz) (fun (u : Unit) => w0)) (va_A w0 sz)) 0 0 (va_A w0 sz) := by
  refine Met.ofW (cc := cX7_refuse) (maxL := 2) (ret := none) (by decide) rfl ?_
  intro p e s m args below meth c s₁ B hml hv
  obtain ⟨rfl, hsz, hP, hK, hD0, hSD⟩ := hv
  have hx := B.exec
  have hb := B.bytes
  have hr := B.returns
  have hlocks := B.notSynchronized
  have hts : ∀ w ∈ gT, w.before _ s = true := fun w h => atoms_spec (ws := Cond.code yX7_refuse cX7_refuse 2 none :: gT) B.pre w (List.mem_cons_of_mem _ h)
  have hown : s.vm.findClass RX7 = some m.cls := findClass_of_methodNamed B.named
  subst hsz
  have hD := hD0.self (sz := s.heap.size)
  generalize hAe : va_A w0 s.heap.size = A at hD hSD ⊢
  have hA : ∀ q : Nat, s.heap.size ≤ q → A q := fun q h => by rw [← hAe]; exact Or.inr h
  have hl := lv_entry ([.ref p0, .int p1]) (n := 2) (Nat.le_of_ble_eq_true rfl)
  rw [lg_entry_eq]
  generalize (lg_sl ([.ref p0, .int p1]) ++ List.replicate (2 - (lg_sl ([.ref p0, .int p1])).length) Slot.unset).toArray = ls at hl ⊢
  have hl : lv_has ls 2 [(0, .ref p0), (1, .int p1)] := hl
  refine nameQ (fun Q hQ => ?_)
  have hw : WD D cy GG A s wr_X7_refuse__6 wa_X7_refuse__6 Ps w0 Ps w0 s.heap [] := ⟨hT, hP, hD, va_S.rf, FR.rf, hT.1, [], (List.append_nil _).symm⟩
  obtain ⟨R9, hR⟩ : ∃ q9 : Unit, f_X7_refuse__6 p1 s0 = q9 := ⟨_, rfl⟩
  have hE := hR
  refine lv_aload_n hx hb dX7_refuse_0 rfl (lv_at hl 0 rfl) ?_
  refine tg_mem (ci := 7) (C := RX7) (T := TX7) (N := 12) hx hb hts inX7 hown hK hw 10 m_f0_10 rfl (by decide) (hts _ tw_104) (fun _ h9 => h9) dX7_refuse_1 ?_
  have q_f0_10 : s0.1 10 = f0_10 := OV.eqI (V := vw_TAPE) hw.2.2.1 o_p0 m_f0_10 (by decide)
  refine lv_if_ne (tgt := 20) hx hb dX7_refuse_4 (by decide) (fun c_4 => ?_) (fun c_4 => ?_)
  · simp only [f_X7_refuse__6, ↓reduceIte, q_f0_10, eq_false c_4] at hE
    subst hQ
    exact W.vret hx hb hr (fun t ht hW => ⟨⟨(), rfl, ⟨trivial, trivial⟩, by rw [ht]; exact hw.2.1, va_K.moved hW.alike hK, hw.2.2.1⟩, hw.2.2.2.1.F ht⟩) hw.2.2.2.1.2.2 dX7_refuse_20
  · have r_f0_10 : RI f0_10 1 0 := rc_eq1 r_f0_10 rl_0 (ti_eq c_4) (by decide)
    exact (r_f0_10.no (by decide)).elim
abbrev wr_X7_takeNumber__6 : List (Nat × Nat) := []
abbrev wa_X7_takeNumber__6 : List Nat := []
set_option maxHeartbeats 4000000 in
set_option maxRecDepth 100000 in
theorem c_X7_takeNumber__6 (l : Launch) (D : va_G) (cy : Nat → ClassId) (z : Nat → Nat) (sz : Nat) (Ps : PSI) (w0 : va_W) (hT : HT cy GG Ps w0) (p0 : Nat) (p1 : Int32) (p2 : Int32) (f0_10 : Int32) (s0 : OS) (h_p0 : (p0, 26) ∈ Ps) (r_p1 : RI p1 (-2147483648) 2147483647) (r_p2 : RI p2 (-2147483648) 2147483647) (r_f0_10 : RI f0_10 1 4) (m_f0_10 : FLD w0 p0 7 10 (.int f0_10)) (o_p0 : OV vw_TAPE Ps w0 p0 s0) : Met l yX7_takeNumber (Cond.code yX7_takeNumber cX7_takeNumber 4 (some .int) :: gT) ({ frames := 2, cells := 0, slots := 0, locals := 400 } : Room) (va_Pc [.ref p0, .int p1, .int p2] (PRE D cy z w0 sz)) (va_Qi (fun (r : Int32) (u : Unit) => ((f_X7_takeNumber__6 p1 p2 s0) = r ∧ True) ∧ (RI r (-2147483648) 2147483647 ∧ (r = 0 → True) ∧ (¬ r = 0 → True))) (BB D cy (va_A w0 sz) (fun (u : Unit) => w0)) (va_A w0 sz)) 0 0 (va_A w0 sz) := by
  refine Met.ofW (cc := cX7_takeNumber) (maxL := 4) (ret := (some .int)) (by decide) rfl ?_
  intro p e s m args below meth c s₁ B hml hv
  obtain ⟨rfl, hsz, hP, hK, hD0, hSD⟩ := hv
  have hx := B.exec
  have hb := B.bytes
  have hr := B.returns
  have hlocks := B.notSynchronized
  have hts : ∀ w ∈ gT, w.before _ s = true := fun w h => atoms_spec (ws := Cond.code yX7_takeNumber cX7_takeNumber 4 (some .int) :: gT) B.pre w (List.mem_cons_of_mem _ h)
  have hown : s.vm.findClass RX7 = some m.cls := findClass_of_methodNamed B.named
  subst hsz
  have hD := hD0.self (sz := s.heap.size)
  generalize hAe : va_A w0 s.heap.size = A at hD hSD ⊢
  have hA : ∀ q : Nat, s.heap.size ≤ q → A q := fun q h => by rw [← hAe]; exact Or.inr h
  have hl := lv_entry ([.ref p0, .int p1, .int p2]) (n := 4) (Nat.le_of_ble_eq_true rfl)
  rw [lg_entry_eq]
  generalize (lg_sl ([.ref p0, .int p1, .int p2]) ++ List.replicate (4 - (lg_sl ([.ref p0, .int p1, .int p2])).length) Slot.unset).toArray = ls at hl ⊢
  have hl : lv_has ls 4 [(0, .ref p0), (1, .int p1), (2, .int p2)] := hl
  refine nameQ (fun Q hQ => ?_)
  have hw : WD D cy GG A s wr_X7_takeNumber__6 wa_X7_takeNumber__6 Ps w0 Ps w0 s.heap [] := ⟨hT, hP, hD, va_S.rf, FR.rf, hT.1, [], (List.append_nil _).symm⟩
  obtain ⟨R9, hR⟩ : ∃ q9 : Int32, f_X7_takeNumber__6 p1 p2 s0 = q9 := ⟨_, rfl⟩
  have hE := hR
  have B36 : ∀ (x3 : Int32) (z0_10 : Int32) (s0 : OS) (H : Heap) (locs : List Loc) (ls : Array Slot), RI p1 (-2147483648) 2147483647 → RI p2 (-2147483648) 2147483647 → RI x3 (-2147483648) 2147483647 → RI z0_10 1 4 → FLD w0 p0 7 10 (.int z0_10) → OV vw_TAPE Ps w0 p0 s0 → f_X7_takeNumber__6_36 p1 p2 x3 s0 = R9 → WD D cy GG A s wr_X7_takeNumber__6 wa_X7_takeNumber__6 Ps w0 Ps w0 H locs → lv_has ls 4 [(0, .ref p0), (1, .int p1), (2, .int p2), (3, .int x3)] → W p l e (headSpec (Cond.code yX7_takeNumber cX7_takeNumber 4 (some .int) :: gT) ({ frames := 2, cells := 0, slots := 0, locals := 400 } : Room)).room s m ([.ref p0, .int p1, .int p2] : List Value).toArray below meth c H locs 0 0 Q (F0 m 36 ls []) := by
    intro x3 z0_10 s0 H locs ls r_p1 r_p2 r_x3 r_z0_10 m_z0_10 o_p0 hE hw hl
    have q_z0_10 : s0.1 10 = z0_10 := OV.eqI (V := vw_TAPE) hw.2.2.1 o_p0 m_z0_10 (by decide)
    refine lv_aload_n hx hb dX7_takeNumber_36 rfl (lv_at hl 0 rfl) ?_
    refine tk_vr (va_runV (As := []) (rest := []) ⟨hx, hb, hml, hown, hts⟩ (c_X7_pass__4 l D cy z H.size Ps w0 hw.1 p0 z0_10 s0 h_p0 r_z0_10 m_z0_10 o_p0) (cwV 0 hts (gV tw_424 tw_425 tw_426 tw_2 tw_427) rfl rfl rfl (by decide +kernel) ⟨Nat.le_of_ble_eq_true rfl, Nat.le_of_ble_eq_true rfl⟩) (tg_preV hw hK hSD hA (ci := 7) (q := (RX7, TX7, 12)) rfl h_p0 rfl) rfl rfl hl.1 rfl (lv_room (Nat.le_of_ble_eq_true rfl)) dX7_takeNumber_37 ⟨Nat.le_of_ble_eq_true rfl, Nat.le_of_ble_eq_true rfl⟩) hw hA (fun  H locs hp_v_1 hw => ?_)
    obtain ⟨hfn, hp_v_1⟩ := hp_v_1
    refine lv_iload_n hx hb dX7_takeNumber_40 rfl (lv_at hl 3 rfl) ?_
    simp only [f_X7_takeNumber__6_36, ↓reduceIte, q_z0_10] at hE
    subst hQ
    exact W.iret (v := x3) hx hb hr (fun t ht hW => ⟨⟨x3, (), rfl, ⟨⟨(by rw [hR, ← hE]), trivial⟩, r_x3.to (by decide), (fun h0 => trivial), (fun h0 => trivial)⟩, by rw [ht]; exact hw.2.1, va_K.moved hW.alike hK, hw.2.2.1⟩, hw.2.2.2.1.F ht⟩) hw.2.2.2.1.2.2 dX7_takeNumber_41
  have B31 : ∀ (x3 : Int32) (z0_7 : Int32) (z0_10 : Int32) (s0 : OS) (H : Heap) (locs : List Loc) (ls : Array Slot), RI p1 (-2147483648) 2147483647 → RI p2 (-2147483648) 2147483647 → RI x3 (-2147483648) 2147483647 → RI z0_7 3 3 → FLD w0 p0 7 7 (.int z0_7) → RI z0_10 1 4 → FLD w0 p0 7 10 (.int z0_10) → OV vw_TAPE Ps w0 p0 s0 → f_X7_takeNumber__6_31 p1 p2 x3 s0 = R9 → WD D cy GG A s wr_X7_takeNumber__6 wa_X7_takeNumber__6 Ps w0 Ps w0 H locs → lv_has ls 4 [(0, .ref p0), (1, .int p1), (2, .int p2), (3, .int x3)] → W p l e (headSpec (Cond.code yX7_takeNumber cX7_takeNumber 4 (some .int) :: gT) ({ frames := 2, cells := 0, slots := 0, locals := 400 } : Room)).room s m ([.ref p0, .int p1, .int p2] : List Value).toArray below meth c H locs 0 0 Q (F0 m 31 ls []) := by
    intro x3 z0_7 z0_10 s0 H locs ls r_p1 r_p2 r_x3 r_z0_7 m_z0_7 r_z0_10 m_z0_10 o_p0 hE hw hl
    have q_z0_7 : s0.1 7 = z0_7 := OV.eqI (V := vw_TAPE) hw.2.2.1 o_p0 m_z0_7 (by decide)
    have q_z0_10 : s0.1 10 = z0_10 := OV.eqI (V := vw_TAPE) hw.2.2.1 o_p0 m_z0_10 (by decide)
    refine lv_aload_n hx hb dX7_takeNumber_31 rfl (lv_at hl 0 rfl) ?_
    refine lv_iconst (v := 2) hx hb dX7_takeNumber_32 (by decide) ?_
    refine tk_vr (va_runV (As := [.int 2]) (rest := []) ⟨hx, hb, hml, hown, hts⟩ (c_X7_refuse__6 l D cy z H.size Ps w0 hw.1 p0 2 z0_10 s0 h_p0 (rl_2.to (by decide)) r_z0_10 m_z0_10 o_p0) (cwV 1 hts (gV tw_442 tw_443 tw_444 tw_2 tw_445) rfl rfl rfl (by decide +kernel) ⟨Nat.le_of_ble_eq_true rfl, Nat.le_of_ble_eq_true rfl⟩) (tg_preV hw hK hSD hA (ci := 7) (q := (RX7, TX7, 12)) rfl h_p0 rfl) rfl rfl hl.1 rfl (lv_room (Nat.le_of_ble_eq_true rfl)) dX7_takeNumber_33 ⟨Nat.le_of_ble_eq_true rfl, Nat.le_of_ble_eq_true rfl⟩) hw hA (fun  H locs hp_v_2 hw => ?_)
    obtain ⟨hfn, hp_v_2⟩ := hp_v_2
    simp only [f_X7_takeNumber__6_31, ↓reduceIte, q_z0_7, q_z0_10] at hE
    exact B36 x3 z0_10 s0 _ _ ls r_p1 r_p2 r_x3 r_z0_10 m_z0_10 o_p0 hE hw hl
  refine lv_aload_n hx hb dX7_takeNumber_0 rfl (lv_at hl 0 rfl) ?_
  refine tg_get (ci := 7) (ts := ty_TAPE) (C := RX7) (T := TX7) (N := 12) hx hb hts inX7 hown hK hw h_p0 rfl rfl 9 (by decide) (hts _ tw_101) (fun _ h9 => h9) (ft := vI (-2147483648) 2147483647) rfl dX7_takeNumber_1 (fun u_3 hv_u_3 m_u_3 => ?_)
  obtain ⟨vu_3, rfl, r_vu_3⟩ := hv_u_3
  have q_vu_3 : s0.1 9 = vu_3 := OV.eqI (V := vw_TAPE) hw.2.2.1 o_p0 m_u_3 (by decide)
  refine lv_istore_n (lv' := [(3, .int vu_3), (0, .ref p0), (1, .int p1), (2, .int p2)]) hx hb dX7_takeNumber_4 rfl hl (by decide) rfl (fun ls hl => ?_)
  refine lv_aload_n hx hb dX7_takeNumber_5 rfl (lv_at hl 1 rfl) ?_
  refine tg_get (ci := 7) (ts := ty_TAPE) (C := RX7) (T := TX7) (N := 12) hx hb hts inX7 hown hK hw h_p0 rfl rfl 7 (by decide) (hts _ tw_98) (fun _ h9 => h9) (ft := vI (-2147483648) 2147483647) rfl dX7_takeNumber_6 (fun u_4 hv_u_4 m_u_4 => ?_)
  obtain ⟨vu_4, rfl, r_vu_4⟩ := hv_u_4
  have q_vu_4 : s0.1 7 = vu_4 := OV.eqI (V := vw_TAPE) hw.2.2.1 o_p0 m_u_4 (by decide)
  refine lv_iconst (v := 3) hx hb dX7_takeNumber_9 (by decide) ?_
  refine lv_icmp_eq (tgt := 21) hx hb dX7_takeNumber_10 (by decide) (fun c_10 => ?_) (fun c_10 => ?_)
  · have r_vu_4 : RI vu_4 3 3 := rc_eq1 r_vu_4 rl_3 (ti_eq c_10) (by decide)
    refine lv_iload_n hx hb dX7_takeNumber_21 rfl (lv_at hl 0 rfl) ?_
    refine lv_iload_n hx hb dX7_takeNumber_22 rfl (lv_at hl 2 rfl) ?_
    refine lv_icmp_lt (tgt := 31) hx hb dX7_takeNumber_23 (by decide) (fun c_23 => ?_) (fun c_23 => ?_)
    · have r_vu_3 : RI vu_3 (-2147483648) 2147483646 := rc_lt1 r_vu_3 r_p1 (ti_lt c_23) (by decide)
      have r_p1 : RI p1 (-2147483647) 2147483647 := rc_lt2 r_vu_3 r_p1 (ti_lt c_23) (by decide)
      simp only [f_X7_takeNumber__6, ↓reduceIte, q_vu_3, q_vu_4, eq_true c_10, eq_true c_23] at hE
      exact B31 vu_3 vu_4 f0_10 s0 _ _ ls (r_p1.to (by decide)) r_p2 (r_vu_3.to (by decide)) r_vu_4 m_u_4 r_f0_10 m_f0_10 o_p0 hE hw (lv_sub hl [1, 2, 3, 0] rfl)
    · refine lv_iload_n hx hb dX7_takeNumber_26 rfl (lv_at hl 0 rfl) ?_
      refine lv_iload_n hx hb dX7_takeNumber_27 rfl (lv_at hl 3 rfl) ?_
      refine lv_icmp_le (tgt := 36) hx hb dX7_takeNumber_28 (by decide) (fun c_28 => ?_) (fun c_28 => ?_)
      · simp only [f_X7_takeNumber__6, ↓reduceIte, q_vu_3, q_vu_4, eq_true c_10, eq_false c_23, eq_true c_28] at hE
        exact B36 vu_3 f0_10 s0 _ _ ls r_p1 r_p2 r_vu_3 r_f0_10 m_f0_10 o_p0 hE hw (lv_sub hl [1, 2, 3, 0] rfl)
      · have r_p2 : RI p2 (-2147483648) 2147483646 := rc_lt1 r_p2 r_vu_3 (ti_nle c_28) (by decide)
        have r_vu_3 : RI vu_3 (-2147483647) 2147483647 := rc_lt2 r_p2 r_vu_3 (ti_nle c_28) (by decide)
        simp only [f_X7_takeNumber__6, ↓reduceIte, q_vu_3, q_vu_4, eq_true c_10, eq_false c_23, eq_false c_28] at hE
        exact B31 vu_3 vu_4 f0_10 s0 _ _ ls r_p1 (r_p2.to (by decide)) (r_vu_3.to (by decide)) r_vu_4 m_u_4 r_f0_10 m_f0_10 o_p0 hE hw (lv_sub hl [1, 2, 3, 0] rfl)
  · refine lv_aload_n hx hb dX7_takeNumber_13 rfl (lv_at hl 1 rfl) ?_
    refine lv_iconst (v := 1) hx hb dX7_takeNumber_14 (by decide) ?_
    refine tk_vr (va_runV (As := [.int 1]) (rest := []) ⟨hx, hb, hml, hown, hts⟩ (c_X7_refuse__6 l D cy z s.heap.size Ps w0 hw.1 p0 1 f0_10 s0 h_p0 (rl_1.to (by decide)) r_f0_10 m_f0_10 o_p0) (cwV 1 hts (gV tw_442 tw_443 tw_444 tw_2 tw_445) rfl rfl rfl (by decide +kernel) ⟨Nat.le_of_ble_eq_true rfl, Nat.le_of_ble_eq_true rfl⟩) (tg_preV hw hK hSD hA (ci := 7) (q := (RX7, TX7, 12)) rfl h_p0 rfl) rfl rfl hl.1 rfl (lv_room (Nat.le_of_ble_eq_true rfl)) dX7_takeNumber_15 ⟨Nat.le_of_ble_eq_true rfl, Nat.le_of_ble_eq_true rfl⟩) hw hA (fun  H locs hp_v_5 hw => ?_)
    obtain ⟨hfn, hp_v_5⟩ := hp_v_5
    refine lv_goto (tgt := 36) hx hb dX7_takeNumber_18 (by decide) ?_
    simp only [f_X7_takeNumber__6, ↓reduceIte, q_vu_3, q_vu_4, eq_false c_10] at hE
    exact B36 vu_3 f0_10 s0 _ _ ls r_p1 r_p2 r_vu_3 r_f0_10 m_f0_10 o_p0 hE hw (lv_sub hl [1, 2, 3, 0] rfl)
abbrev wr_X7_nameAhead__15 : List (Nat × Nat) := [(7, 10), (7, 11)]
abbrev wa_X7_nameAhead__15 : List Nat := []
set_option maxHeartbeats 4000000 in
set_option maxRecDepth 100000 in
theorem c_X7_nameAhead__15 (l : Launch) (D : va_G) (cy : Nat → ClassId) (z : Nat → Nat) (sz : Nat) (Ps : PSI) (w0 : va_W) (hT : HT cy GG Ps w0) (p0 : Nat) (p1 : Nat) (p2 : Int32) (s0 : OS) (s1 : OS) (h_p0 : (p0, 26) ∈ Ps) (h_p1 : (p1, 25) ∈ Ps) (r_p2 : RI p2 0 0) (o_p0 : OV vw_TAPE Ps w0 p0 s0) (o_p1 : OV vw_POST Ps w0 p1 s1) : Met l yX7_nameAhead (Cond.code yX7_nameAhead cX7_nameAhead 4 (some .int) :: gT) ({ frames := 2, cells := 0, slots := 0, locals := 400 } : Room) (va_Pc [.ref p0, .ref p1, .int p2] (PRE D cy z w0 sz)) (va_Qi (fun (r : Int32) (u : va_W) => ((OV vw_TAPE Ps u p0 ((f_X7_nameAhead__13 p2 s0 s1).1) ∧ OV vw_POST Ps u p1 ((f_X7_nameAhead__13 p2 s0 s1).2.1) ∧ (f_X7_nameAhead__13 p2 s0 s1).2.2 = r ∧ True) ∧ (RI r (-1) 5 ∧ (r = 0 → True) ∧ (¬ r = 0 → True) ∧ (True) ∧ (r.toInt < 0 → FLTp u p0 ∧ True) ∧ (0 ≤ r.toInt → True))) ∧ HT cy GG Ps u ∧ FR wr_X7_nameAhead__15 wa_X7_nameAhead__15 Ps w0 u) (BB D cy (va_A w0 sz) (fun (u : va_W) => u)) (va_A w0 sz)) 0 0 (va_A w0 sz) := by
  refine Met.ofW (cc := cX7_nameAhead) (maxL := 4) (ret := (some .int)) (by decide) rfl ?_
  intro p e s m args below meth c s₁ B hml hv
  obtain ⟨rfl, hsz, hP, hK, hD0, hSD⟩ := hv
  have hx := B.exec
  have hb := B.bytes
  have hr := B.returns
  have hlocks := B.notSynchronized
  have hts : ∀ w ∈ gT, w.before _ s = true := fun w h => atoms_spec (ws := Cond.code yX7_nameAhead cX7_nameAhead 4 (some .int) :: gT) B.pre w (List.mem_cons_of_mem _ h)
  have hown : s.vm.findClass RX7 = some m.cls := findClass_of_methodNamed B.named
  subst hsz
  have hD := hD0.self (sz := s.heap.size)
  generalize hAe : va_A w0 s.heap.size = A at hD hSD ⊢
  have hA : ∀ q : Nat, s.heap.size ≤ q → A q := fun q h => by rw [← hAe]; exact Or.inr h
  have hl := lv_entry ([.ref p0, .ref p1, .int p2]) (n := 4) (Nat.le_of_ble_eq_true rfl)
  rw [lg_entry_eq]
  generalize (lg_sl ([.ref p0, .ref p1, .int p2]) ++ List.replicate (4 - (lg_sl ([.ref p0, .ref p1, .int p2])).length) Slot.unset).toArray = ls at hl ⊢
  have hl : lv_has ls 4 [(0, .ref p0), (1, .ref p1), (2, .int p2)] := hl
  refine nameQ (fun Q hQ => ?_)
  have hw : WD D cy GG A s wr_X7_nameAhead__15 wa_X7_nameAhead__15 Ps w0 Ps w0 s.heap [] := ⟨hT, hP, hD, va_S.rf, FR.rf, hT.1, [], (List.append_nil _).symm⟩
  obtain ⟨R9, hR⟩ : ∃ q9 : OS × OS × Int32, f_X7_nameAhead__13 p2 s0 s1 = q9 := ⟨_, rfl⟩
  have hE := hR
  refine lv_aload_n hx hb dX7_nameAhead_0 rfl (lv_at hl 0 rfl) ?_
  refine tg_get (ci := 7) (ts := ty_TAPE) (C := RX7) (T := TX7) (N := 12) hx hb hts inX7 hown hK hw h_p0 rfl rfl 7 (by decide) (hts _ tw_98) (fun _ h9 => h9) (ft := vI (-2147483648) 2147483647) rfl dX7_nameAhead_1 (fun u_1 hv_u_1 m_u_1 => ?_)
  obtain ⟨vu_1, rfl, r_vu_1⟩ := hv_u_1
  have q_vu_1 : s0.1 7 = vu_1 := OV.eqI (V := vw_TAPE) hw.2.2.1 o_p0 m_u_1 (by decide)
  refine lv_iconst (v := 2) hx hb dX7_nameAhead_4 (by decide) ?_
  refine lv_icmp_eq (tgt := 15) hx hb dX7_nameAhead_5 (by decide) (fun c_5 => ?_) (fun c_5 => ?_)
  · have r_vu_1 : RI vu_1 2 2 := rc_eq1 r_vu_1 rl_2 (ti_eq c_5) (by decide)
    refine lv_aload_n hx hb dX7_nameAhead_15 rfl (lv_at hl 1 rfl) ?_
    refine lv_aload_n hx hb dX7_nameAhead_16 rfl (lv_at hl 0 rfl) ?_
    refine tg_get (ci := 7) (ts := ty_TAPE) (C := RX7) (T := TX7) (N := 12) hx hb hts inX7 hown hK hw h_p0 rfl rfl 8 (by decide) (hts _ tw_100) (fun _ h9 => h9) (ft := vJ (-9223372036854775808) 9223372036854775807) rfl dX7_nameAhead_17 (fun u_2 hv_u_2 m_u_2 => ?_)
    obtain ⟨vu_2, rfl, r_vu_2⟩ := hv_u_2
    have q_vu_2 : s0.2.1 8 = vu_2 := OV.eqL (V := vw_TAPE) hw.2.2.1 o_p0 m_u_2 (by decide)
    refine lv_iload_n hx hb dX7_nameAhead_20 rfl (lv_at hl 2 rfl) ?_
    refine tk_ir (va_runV (As := [.long vu_2, .int p2]) (rest := []) ⟨hx, hb, hml, hown, hts⟩ (c_X3_numberOf__7 l D cy z s.heap.size Ps w0 hw.1 p1 vu_2 p2 s1 h_p1 r_vu_2 r_p2 o_p1) (cwV 2 hts (gV tw_460 tw_461 tw_462 tw_11 tw_463) rfl rfl rfl (by decide +kernel) ⟨Nat.le_of_ble_eq_true rfl, Nat.le_of_ble_eq_true rfl⟩) (tg_preV hw hK hSD hA (ci := 3) (q := (RX3, TX3, 9)) rfl h_p1 rfl) rfl rfl hl.1 rfl (lv_room (Nat.le_of_ble_eq_true rfl)) dX7_nameAhead_21 ⟨Nat.le_of_ble_eq_true rfl, Nat.le_of_ble_eq_true rfl⟩) hw hA (fun v_3  H locs hp_v_3 hw => ?_)
    obtain ⟨hfn, hp_v_3⟩ := hp_v_3
    have q_v_3 : (f_X3_numberOf__5 vu_2 p2 s1) = v_3 := hfn.1
    have r_v_3 : RI v_3 (-1) 5 := hp_v_3.1
    refine lv_istore_n (lv' := [(3, .int v_3), (0, .ref p0), (1, .ref p1), (2, .int p2)]) hx hb dX7_nameAhead_24 rfl hl (by decide) rfl (fun ls hl => ?_)
    refine lv_iload_n hx hb dX7_nameAhead_25 rfl (lv_at hl 0 rfl) ?_
    refine lv_iconst (v := (-1)) hx hb dX7_nameAhead_26 (by decide) ?_
    refine lv_icmp_ne (tgt := 35) hx hb dX7_nameAhead_27 (by decide) (fun c_27 => ?_) (fun c_27 => ?_)
    · have r_v_3 : RI v_3 0 5 := rc_neL r_v_3 rl_m1 (ti_ne c_27) (by decide)
      refine lv_aload_n hx hb dX7_nameAhead_35 rfl (lv_at hl 1 rfl) ?_
      refine tg_get (ci := 7) (ts := ty_TAPE) (C := RX7) (T := TX7) (N := 12) hx hb hts inX7 hown hK hw h_p0 rfl rfl 10 (by decide) (hts _ tw_104) (fun _ h9 => h9) (ft := vI 0 4) rfl dX7_nameAhead_36 (fun u_4 hv_u_4 m_u_4 => ?_)
      obtain ⟨vu_4, rfl, r_vu_4⟩ := hv_u_4
      have q_vu_4 : s0.1 10 = vu_4 := OV.eqI (V := vw_TAPE) hw.2.2.1 o_p0 m_u_4 (by decide)
      refine lv_if_ne (tgt := 46) hx hb dX7_nameAhead_39 (by decide) (fun c_39 => ?_) (fun c_39 => ?_)
      · have r_vu_4 : RI vu_4 1 4 := rc_neL r_vu_4 rl_0 (ti_ne c_39) (by decide)
        refine lv_iconst (v := (-1)) hx hb dX7_nameAhead_46 (by decide) ?_
        simp only [f_X7_nameAhead__13, ↓reduceIte, q_vu_1, eq_true c_5, q_vu_2, q_v_3, eq_false c_27, q_vu_4, eq_false c_39] at hE
        subst hQ
        have x_FLT_p0 : FLTp w0 p0 := ⟨_, m_u_4, r_vu_4.to (by decide)⟩
        exact W.iret (v := (-1)) hx hb hr (fun t ht hW => ⟨⟨(-1), w0, rfl, ⟨⟨⟨(by rw [hR, ← hE]; exact o_p0), (by rw [hR, ← hE]; exact o_p1), (by rw [hR, ← hE]), trivial⟩, rl_m1.to (by decide), (fun _ => trivial), (fun h0 => trivial), trivial, (fun h0 => ⟨x_FLT_p0, trivial⟩), (fun _ => trivial)⟩, hw.1, hw.2.2.2.2.1⟩, by rw [ht]; exact hw.2.1, va_K.moved hW.alike hK, hw.2.2.1⟩, hw.2.2.2.1.F ht⟩) hw.2.2.2.1.2.2 dX7_nameAhead_47
      · have r_vu_4 : RI vu_4 0 0 := rc_eq1 r_vu_4 rl_0 (ti_eq c_39) (by decide)
        refine lv_iload_n hx hb dX7_nameAhead_42 rfl (lv_at hl 0 rfl) ?_
        refine lv_goto (tgt := 47) hx hb dX7_nameAhead_43 (by decide) ?_
        simp only [f_X7_nameAhead__13, ↓reduceIte, q_vu_1, eq_true c_5, q_vu_2, q_v_3, eq_false c_27, q_vu_4, eq_true c_39] at hE
        subst hQ
        exact W.iret (v := v_3) hx hb hr (fun t ht hW => ⟨⟨v_3, w0, rfl, ⟨⟨⟨(by rw [hR, ← hE]; exact o_p0), (by rw [hR, ← hE]; exact o_p1), (by rw [hR, ← hE]), trivial⟩, r_v_3.to (by decide), (fun h0 => trivial), (fun h0 => trivial), trivial, (fun h0 => absurd h0 (by have h8 := r_v_3; unfold RI at h8; omega)), (fun _ => trivial)⟩, hw.1, hw.2.2.2.2.1⟩, by rw [ht]; exact hw.2.1, va_K.moved hW.alike hK, hw.2.2.1⟩, hw.2.2.2.1.F ht⟩) hw.2.2.2.1.2.2 dX7_nameAhead_47
    · have r_v_3 : RI v_3 (-1) (-1) := rc_eq1 r_v_3 rl_m1 (ti_eq c_27) (by decide)
      refine lv_aload_n hx hb dX7_nameAhead_30 rfl (lv_at hl 1 rfl) ?_
      refine lv_iconst (v := 3) hx hb dX7_nameAhead_31 (by decide) ?_
      refine tk_v (va_runV (As := [.int 3]) (rest := []) ⟨hx, hb, hml, hown, hts⟩ (c_X7_refuse__4 l D cy z H.size Ps w0 hw.1 p0 3 s0 h_p0 (rl_3.to (by decide)) o_p0) (cwV 1 hts (gV tw_442 tw_443 tw_444 tw_2 tw_445) rfl rfl rfl (by decide +kernel) ⟨Nat.le_of_ble_eq_true rfl, Nat.le_of_ble_eq_true rfl⟩) (tg_preV hw hK hSD hA (ci := 7) (q := (RX7, TX7, 12)) rfl h_p0 rfl) rfl rfl hl.1 rfl (lv_room (Nat.le_of_ble_eq_true rfl)) dX7_nameAhead_32 ⟨Nat.le_of_ble_eq_true rfl, Nat.le_of_ble_eq_true rfl⟩) hw hA ⟨by decide, by decide⟩ (fun ws H locs hp_v_5 hw hF9 => ?_)
      have m_u_1 := FLD.over hF9 m_u_1 (by decide)
      have m_u_2 := FLD.over hF9 m_u_2 (by decide)
      obtain ⟨hfn, hp_v_5⟩ := hp_v_5
      have o_p1 := OV.over (V := vw_POST) hF9 o_p1 (by decide)
      obtain ⟨sg_6, q_sg_6⟩ : ∃ q9 : OS, (f_X7_refuse__4 (3 : Int32) s0) = q9 := ⟨_, rfl⟩
      have o_p0 : OV vw_TAPE Ps ws p0 sg_6 := by rw [← q_sg_6]; exact hfn.1
      obtain ⟨v_7, m_v_7, r_v_7⟩ := (hp_v_5.1)
      refine lv_aload_n hx hb dX7_nameAhead_35 rfl (lv_at hl 1 rfl) ?_
      refine tg_mem (ci := 7) (C := RX7) (T := TX7) (N := 12) hx hb hts inX7 hown hK hw 10 m_v_7 rfl (by decide) (hts _ tw_104) (fun _ h9 => h9) dX7_nameAhead_36 ?_
      have q_v_7 : sg_6.1 10 = v_7 := OV.eqI (V := vw_TAPE) hw.2.2.1 o_p0 m_v_7 (by decide)
      refine lv_if_ne (tgt := 46) hx hb dX7_nameAhead_39 (by decide) (fun c_39 => ?_) (fun c_39 => ?_)
      · refine lv_iconst (v := (-1)) hx hb dX7_nameAhead_46 (by decide) ?_
        simp only [f_X7_nameAhead__13, ↓reduceIte, q_vu_1, eq_true c_5, q_vu_2, q_v_3, eq_true c_27, q_sg_6, q_v_7, eq_false c_39] at hE
        subst hQ
        have x_FLT_p0 : FLTp ws p0 := ⟨_, m_v_7, r_v_7.to (by decide)⟩
        exact W.iret (v := (-1)) hx hb hr (fun t ht hW => ⟨⟨(-1), ws, rfl, ⟨⟨⟨(by rw [hR, ← hE]; exact o_p0), (by rw [hR, ← hE]; exact o_p1), (by rw [hR, ← hE]), trivial⟩, rl_m1.to (by decide), (fun _ => trivial), (fun h0 => trivial), trivial, (fun h0 => ⟨x_FLT_p0, trivial⟩), (fun _ => trivial)⟩, hw.1, hw.2.2.2.2.1⟩, by rw [ht]; exact hw.2.1, va_K.moved hW.alike hK, hw.2.2.1⟩, hw.2.2.2.1.F ht⟩) hw.2.2.2.1.2.2 dX7_nameAhead_47
      · have r_v_7 : RI v_7 1 0 := rc_eq1 r_v_7 rl_0 (ti_eq c_39) (by decide)
        exact (r_v_7.no (by decide)).elim
  · refine lv_aload_n hx hb dX7_nameAhead_8 rfl (lv_at hl 0 rfl) ?_
    refine lv_iconst (v := 1) hx hb dX7_nameAhead_9 (by decide) ?_
    refine tk_v (va_runV (As := [.int 1]) (rest := []) ⟨hx, hb, hml, hown, hts⟩ (c_X7_refuse__4 l D cy z s.heap.size Ps w0 hw.1 p0 1 s0 h_p0 (rl_1.to (by decide)) o_p0) (cwV 1 hts (gV tw_442 tw_443 tw_444 tw_2 tw_445) rfl rfl rfl (by decide +kernel) ⟨Nat.le_of_ble_eq_true rfl, Nat.le_of_ble_eq_true rfl⟩) (tg_preV hw hK hSD hA (ci := 7) (q := (RX7, TX7, 12)) rfl h_p0 rfl) rfl rfl hl.1 rfl (lv_room (Nat.le_of_ble_eq_true rfl)) dX7_nameAhead_10 ⟨Nat.le_of_ble_eq_true rfl, Nat.le_of_ble_eq_true rfl⟩) hw hA ⟨by decide, by decide⟩ (fun ws H locs hp_v_8 hw hF9 => ?_)
    have m_u_1 := FLD.over hF9 m_u_1 (by decide)
    obtain ⟨hfn, hp_v_8⟩ := hp_v_8
    have o_p1 := OV.over (V := vw_POST) hF9 o_p1 (by decide)
    obtain ⟨sg_9, q_sg_9⟩ : ∃ q9 : OS, (f_X7_refuse__4 (1 : Int32) s0) = q9 := ⟨_, rfl⟩
    have o_p0 : OV vw_TAPE Ps ws p0 sg_9 := by rw [← q_sg_9]; exact hfn.1
    obtain ⟨v_10, m_v_10, r_v_10⟩ := (hp_v_8.1)
    refine lv_iconst (v := (-1)) hx hb dX7_nameAhead_13 (by decide) ?_
    simp only [f_X7_nameAhead__13, ↓reduceIte, q_vu_1, eq_false c_5, q_sg_9] at hE
    subst hQ
    have x_FLT_p0 : FLTp ws p0 := ⟨_, m_v_10, r_v_10.to (by decide)⟩
    exact W.iret (v := (-1)) hx hb hr (fun t ht hW => ⟨⟨(-1), ws, rfl, ⟨⟨⟨(by rw [hR, ← hE]; exact o_p0), (by rw [hR, ← hE]; exact o_p1), (by rw [hR, ← hE]), trivial⟩, rl_m1.to (by decide), (fun _ => trivial), (fun h0 => trivial), trivial, (fun h0 => ⟨x_FLT_p0, trivial⟩), (fun _ => trivial)⟩, hw.1, hw.2.2.2.2.1⟩, by rw [ht]; exact hw.2.1, va_K.moved hW.alike hK, hw.2.2.1⟩, hw.2.2.2.1.F ht⟩) hw.2.2.2.1.2.2 dX7_nameAhead_14
abbrev wr_X7_takeName__14 : List (Nat × Nat) := [(7, 5), (7, 6), (7, 7), (7, 8), (7, 9), (7, 10), (7, 11)]
abbrev wa_X7_takeName__14 : List Nat := []
set_option maxHeartbeats 4000000 in
set_option maxRecDepth 100000 in
theorem c_X7_takeName__14 (l : Launch) (D : va_G) (cy : Nat → ClassId) (z : Nat → Nat) (sz : Nat) (Ps : PSI) (w0 : va_W) (hT : HT cy GG Ps w0) (p0 : Nat) (p1 : Nat) (p2 : Int32) (s0 : OS) (s1 : OS) (h_p0 : (p0, 26) ∈ Ps) (h_p1 : (p1, 25) ∈ Ps) (r_p2 : RI p2 0 0) (o_p0 : OV vw_TAPE Ps w0 p0 s0) (o_p1 : OV vw_POST Ps w0 p1 s1) : Met l yX7_takeName (Cond.code yX7_takeName cX7_takeName 4 (some .int) :: gT) ({ frames := 3, cells := 0, slots := 0, locals := 600 } : Room) (va_Pc [.ref p0, .ref p1, .int p2] (PRE D cy z w0 sz)) (va_Qi (fun (r : Int32) (u : va_W) => ((OV vw_TAPE Ps u p0 ((f_X7_takeName__12 p2 s0 s1).1) ∧ OV vw_POST Ps u p1 ((f_X7_takeName__12 p2 s0 s1).2.1) ∧ (f_X7_takeName__12 p2 s0 s1).2.2 = r ∧ True) ∧ (RI r (-1) 5 ∧ (r = 0 → True) ∧ (¬ r = 0 → True) ∧ (True) ∧ (r.toInt < 0 → FLTp u p0 ∧ True) ∧ (0 ≤ r.toInt → True))) ∧ HT cy GG Ps u ∧ FR wr_X7_takeName__14 wa_X7_takeName__14 Ps w0 u) (BB D cy (va_A w0 sz) (fun (u : va_W) => u)) (va_A w0 sz)) 0 0 (va_A w0 sz) := by
  refine Met.ofW (cc := cX7_takeName) (maxL := 4) (ret := (some .int)) (by decide) rfl ?_
  intro p e s m args below meth c s₁ B hml hv
  obtain ⟨rfl, hsz, hP, hK, hD0, hSD⟩ := hv
  have hx := B.exec
  have hb := B.bytes
  have hr := B.returns
  have hlocks := B.notSynchronized
  have hts : ∀ w ∈ gT, w.before _ s = true := fun w h => atoms_spec (ws := Cond.code yX7_takeName cX7_takeName 4 (some .int) :: gT) B.pre w (List.mem_cons_of_mem _ h)
  have hown : s.vm.findClass RX7 = some m.cls := findClass_of_methodNamed B.named
  subst hsz
  have hD := hD0.self (sz := s.heap.size)
  generalize hAe : va_A w0 s.heap.size = A at hD hSD ⊢
  have hA : ∀ q : Nat, s.heap.size ≤ q → A q := fun q h => by rw [← hAe]; exact Or.inr h
  have hl := lv_entry ([.ref p0, .ref p1, .int p2]) (n := 4) (Nat.le_of_ble_eq_true rfl)
  rw [lg_entry_eq]
  generalize (lg_sl ([.ref p0, .ref p1, .int p2]) ++ List.replicate (4 - (lg_sl ([.ref p0, .ref p1, .int p2])).length) Slot.unset).toArray = ls at hl ⊢
  have hl : lv_has ls 4 [(0, .ref p0), (1, .ref p1), (2, .int p2)] := hl
  refine nameQ (fun Q hQ => ?_)
  have hw : WD D cy GG A s wr_X7_takeName__14 wa_X7_takeName__14 Ps w0 Ps w0 s.heap [] := ⟨hT, hP, hD, va_S.rf, FR.rf, hT.1, [], (List.append_nil _).symm⟩
  obtain ⟨R9, hR⟩ : ∃ q9 : OS × OS × Int32, f_X7_takeName__12 p2 s0 s1 = q9 := ⟨_, rfl⟩
  have hE := hR
  refine lv_aload_n hx hb dX7_takeName_0 rfl (lv_at hl 0 rfl) ?_
  refine lv_aload_n hx hb dX7_takeName_1 rfl (lv_at hl 1 rfl) ?_
  refine lv_iload_n hx hb dX7_takeName_2 rfl (lv_at hl 2 rfl) ?_
  refine tk_i (va_runV (As := [.ref p1, .int p2]) (rest := []) ⟨hx, hb, hml, hown, hts⟩ (c_X7_nameAhead__15 l D cy z s.heap.size Ps w0 hw.1 p0 p1 p2 s0 s1 h_p0 h_p1 r_p2 o_p0 o_p1) (cwV 2 hts (gV tw_468 tw_457 tw_458 tw_2 tw_459) rfl rfl rfl (by decide +kernel) ⟨Nat.le_of_ble_eq_true rfl, Nat.le_of_ble_eq_true rfl⟩) (tg_preV hw hK hSD hA (ci := 7) (q := (RX7, TX7, 12)) rfl h_p0 rfl) rfl rfl hl.1 rfl (lv_room (Nat.le_of_ble_eq_true rfl)) dX7_takeName_3 ⟨Nat.le_of_ble_eq_true rfl, Nat.le_of_ble_eq_true rfl⟩) hw hA ⟨by decide, by decide⟩ (fun v_1 ws H locs hp_v_1 hw hF9 => ?_)
  obtain ⟨hfn, hp_v_1⟩ := hp_v_1
  obtain ⟨sg_2, q_sg_2⟩ : ∃ q9 : OS, (f_X7_nameAhead__13 p2 s0 s1).1 = q9 := ⟨_, rfl⟩
  have o_p0 : OV vw_TAPE Ps ws p0 sg_2 := by rw [← q_sg_2]; exact hfn.1
  obtain ⟨sg_3, q_sg_3⟩ : ∃ q9 : OS, (f_X7_nameAhead__13 p2 s0 s1).2.1 = q9 := ⟨_, rfl⟩
  have o_p1 : OV vw_POST Ps ws p1 sg_3 := by rw [← q_sg_3]; exact hfn.2.1
  have q_v_1 : (f_X7_nameAhead__13 p2 s0 s1).2.2 = v_1 := hfn.2.2.1
  have r_v_1 : RI v_1 (-1) 5 := hp_v_1.1
  by_cases c9_v_1 : v_1.toInt < 0
  · have r_v_1 : RI v_1 (-1) (-1) := by unfold RI at r_v_1 ⊢; omega
    have x_FLT_p0 := (hp_v_1.2.2.2.2.1 (by omega)).1
    obtain ⟨v_4, m_v_4, r_v_4⟩ := id x_FLT_p0
    refine lv_istore_n (lv' := [(3, .int v_1), (0, .ref p0), (1, .ref p1), (2, .int p2)]) hx hb dX7_takeName_6 rfl hl (by decide) rfl (fun ls hl => ?_)
    refine lv_aload_n hx hb dX7_takeName_7 rfl (lv_at hl 1 rfl) ?_
    refine tk_vr (va_runV (As := []) (rest := []) ⟨hx, hb, hml, hown, hts⟩ (c_X7_pass__4 l D cy z H.size Ps ws hw.1 p0 v_4 sg_2 h_p0 r_v_4 m_v_4 o_p0) (cwV 0 hts (gV tw_424 tw_425 tw_426 tw_2 tw_427) rfl rfl rfl (by decide +kernel) ⟨Nat.le_of_ble_eq_true rfl, Nat.le_of_ble_eq_true rfl⟩) (tg_preV hw hK hSD hA (ci := 7) (q := (RX7, TX7, 12)) rfl h_p0 rfl) rfl rfl hl.1 rfl (lv_room (Nat.le_of_ble_eq_true rfl)) dX7_takeName_8 ⟨Nat.le_of_ble_eq_true rfl, Nat.le_of_ble_eq_true rfl⟩) hw hA (fun  H locs hp_v_5 hw => ?_)
    obtain ⟨hfn, hp_v_5⟩ := hp_v_5
    refine lv_iload_n hx hb dX7_takeName_11 rfl (lv_at hl 0 rfl) ?_
    simp only [f_X7_takeName__12, ↓reduceIte, q_sg_2, q_sg_3, q_v_1, eq_true c9_v_1] at hE
    subst hQ
    exact W.iret (v := v_1) hx hb hr (fun t ht hW => ⟨⟨v_1, ws, rfl, ⟨⟨⟨(by rw [hR, ← hE]; exact o_p0), (by rw [hR, ← hE]; exact o_p1), (by rw [hR, ← hE]), trivial⟩, r_v_1.to (by decide), (fun _ => trivial), (fun h0 => trivial), trivial, (fun h0 => ⟨x_FLT_p0, trivial⟩), (fun _ => trivial)⟩, hw.1, hw.2.2.2.2.1⟩, by rw [ht]; exact hw.2.1, va_K.moved hW.alike hK, hw.2.2.1⟩, hw.2.2.2.1.F ht⟩) hw.2.2.2.1.2.2 dX7_takeName_12
  · have r_v_1 : RI v_1 0 5 := by unfold RI at r_v_1 ⊢; omega
    refine lv_istore_n (lv' := [(3, .int v_1), (0, .ref p0), (1, .ref p1), (2, .int p2)]) hx hb dX7_takeName_6 rfl hl (by decide) rfl (fun ls hl => ?_)
    refine lv_aload_n hx hb dX7_takeName_7 rfl (lv_at hl 1 rfl) ?_
    refine tk_v (va_runV (As := []) (rest := []) ⟨hx, hb, hml, hown, hts⟩ (c_X7_pass__6 l D cy z H.size Ps ws hw.1 p0 sg_2 h_p0 o_p0) (cwV 0 hts (gV tw_424 tw_425 tw_426 tw_2 tw_427) rfl rfl rfl (by decide +kernel) ⟨Nat.le_of_ble_eq_true rfl, Nat.le_of_ble_eq_true rfl⟩) (tg_preV hw hK hSD hA (ci := 7) (q := (RX7, TX7, 12)) rfl h_p0 rfl) rfl rfl hl.1 rfl (lv_room (Nat.le_of_ble_eq_true rfl)) dX7_takeName_8 ⟨Nat.le_of_ble_eq_true rfl, Nat.le_of_ble_eq_true rfl⟩) hw hA ⟨by decide, by decide⟩ (fun ws H locs hp_v_6 hw hF9 => ?_)
    obtain ⟨hfn, hp_v_6⟩ := hp_v_6
    have o_p1 := OV.over (V := vw_POST) hF9 o_p1 (by decide)
    obtain ⟨sg_7, q_sg_7⟩ : ∃ q9 : OS, (f_X7_pass__6 sg_2) = q9 := ⟨_, rfl⟩
    have o_p0 : OV vw_TAPE Ps ws p0 sg_7 := by rw [← q_sg_7]; exact hfn.1
    refine lv_iload_n hx hb dX7_takeName_11 rfl (lv_at hl 0 rfl) ?_
    simp only [f_X7_takeName__12, ↓reduceIte, q_sg_2, q_sg_3, q_v_1, eq_false c9_v_1, q_sg_7] at hE
    subst hQ
    exact W.iret (v := v_1) hx hb hr (fun t ht hW => ⟨⟨v_1, ws, rfl, ⟨⟨⟨(by rw [hR, ← hE]; exact o_p0), (by rw [hR, ← hE]; exact o_p1), (by rw [hR, ← hE]), trivial⟩, r_v_1.to (by decide), (fun h0 => trivial), (fun h0 => trivial), trivial, (fun h0 => absurd h0 (by have h8 := r_v_1; unfold RI at h8; omega)), (fun _ => trivial)⟩, hw.1, hw.2.2.2.2.1⟩, by rw [ht]; exact hw.2.1, va_K.moved hW.alike hK, hw.2.2.1⟩, hw.2.2.2.1.F ht⟩) hw.2.2.2.1.2.2 dX7_takeName_12
abbrev wr_X3_readNamed__7 : List (Nat × Nat) := [(7, 5), (7, 6), (7, 7), (7, 8), (7, 9), (7, 10), (7, 11)]
abbrev wa_X3_readNamed__7 : List Nat := [1, 4, 7, 11]
set_option maxHeartbeats 4000000 in
set_option maxRecDepth 100000 in
theorem c_X3_readNamed__7 (l : Launch) (D : va_G) (cy : Nat → ClassId) (z : Nat → Nat) (sz : Nat) (Ps : PSI) (w0 : va_W) (hT : HT cy GG Ps w0) (p0 : Nat) (p1 : Nat) (p2 : Nat) (p3 : Int32) (s0 : OS) (s1 : OS) (s2 : OS) (h_p0 : (p0, 25) ∈ Ps) (h_p1 : (p1, 26) ∈ Ps) (h_p2 : (p2, 24) ∈ Ps) (r_p3 : RI p3 3 3) (x_MLT_p0_3 : AXC 3 1 4 (fun f => (f 3).toInt < 8) Ps w0 p0) (o_p0 : OV vw_POST Ps w0 p0 s0) (o_p1 : OV vw_TAPE Ps w0 p1 s1) (o_p2 : OV vw_WORLD Ps w0 p2 s2) : Met l yX3_readNamed (Cond.code yX3_readNamed cX3_readNamed 5 none :: gT) ({ frames := 4, cells := 0, slots := 0, locals := 800 } : Room) (va_Pc [.ref p0, .ref p1, .ref p2, .int p3] (PRE D cy z w0 sz)) (va_Qv (fun (u : va_W) => ((OV vw_POST Ps u p0 ((f_X3_readNamed__7 p3 s0 s1 s2).1) ∧ OV vw_TAPE Ps u p1 ((f_X3_readNamed__7 p3 s0 s1 s2).2.1) ∧ OV vw_WORLD Ps u p2 ((f_X3_readNamed__7 p3 s0 s1 s2).2.2) ∧ True) ∧ (True)) ∧ HT cy GG Ps u ∧ FR wr_X3_readNamed__7 wa_X3_readNamed__7 Ps w0 u) (BB D cy (va_A w0 sz) (fun (u : va_W) => u)) (va_A w0 sz)) 0 0 (va_A w0 sz) := by
  refine Met.ofW (cc := cX3_readNamed) (maxL := 5) (ret := none) (by decide) rfl ?_
  intro p e s m args below meth c s₁ B hml hv
  obtain ⟨rfl, hsz, hP, hK, hD0, hSD⟩ := hv
  have hx := B.exec
  have hb := B.bytes
  have hr := B.returns
  have hlocks := B.notSynchronized
  have hts : ∀ w ∈ gT, w.before _ s = true := fun w h => atoms_spec (ws := Cond.code yX3_readNamed cX3_readNamed 5 none :: gT) B.pre w (List.mem_cons_of_mem _ h)
  have hown : s.vm.findClass RX3 = some m.cls := findClass_of_methodNamed B.named
  subst hsz
  have hD := hD0.self (sz := s.heap.size)
  generalize hAe : va_A w0 s.heap.size = A at hD hSD ⊢
  have hA : ∀ q : Nat, s.heap.size ≤ q → A q := fun q h => by rw [← hAe]; exact Or.inr h
  have hl := lv_entry ([.ref p0, .ref p1, .ref p2, .int p3]) (n := 5) (Nat.le_of_ble_eq_true rfl)
  rw [lg_entry_eq]
  generalize (lg_sl ([.ref p0, .ref p1, .ref p2, .int p3]) ++ List.replicate (5 - (lg_sl ([.ref p0, .ref p1, .ref p2, .int p3])).length) Slot.unset).toArray = ls at hl ⊢
  have hl : lv_has ls 5 [(0, .ref p0), (1, .ref p1), (2, .ref p2), (3, .int p3)] := hl
  refine nameQ (fun Q hQ => ?_)
  have hw : WD D cy GG A s wr_X3_readNamed__7 wa_X3_readNamed__7 Ps w0 Ps w0 s.heap [] := ⟨hT, hP, hD, va_S.rf, FR.rf, hT.1, [], (List.append_nil _).symm⟩
  obtain ⟨R9, hR⟩ : ∃ q9 : OS × OS × OS, f_X3_readNamed__7 p3 s0 s1 s2 = q9 := ⟨_, rfl⟩
  have hE := hR
  refine lv_aload_n hx hb dX3_readNamed_0 rfl (lv_at hl 0 rfl) ?_
  refine lv_aload_n hx hb dX3_readNamed_1 rfl (lv_at hl 1 rfl) ?_
  refine lv_iload_n hx hb dX3_readNamed_2 rfl (lv_at hl 3 rfl) ?_
  refine tk_i (va_runV (As := [.ref p1, .int p3]) (rest := []) ⟨hx, hb, hml, hown, hts⟩ (c_X3_tellName__7 l D cy z s.heap.size Ps w0 hw.1 p0 p1 p3 s0 s1 h_p0 h_p1 r_p3 x_MLT_p0_3 o_p0 o_p1) (cwV 2 hts (gV tw_503 tw_505 ts_7 tw_11 tw_506) rfl rfl rfl (by decide +kernel) ⟨Nat.le_of_ble_eq_true rfl, Nat.le_of_ble_eq_true rfl⟩) (tg_preV hw hK hSD hA (ci := 3) (q := (RX3, TX3, 9)) rfl h_p0 rfl) rfl rfl hl.1 rfl (lv_room (Nat.le_of_ble_eq_true rfl)) dX3_readNamed_3 ⟨Nat.le_of_ble_eq_true rfl, Nat.le_of_ble_eq_true rfl⟩) hw hA ⟨by decide, by decide⟩ (fun v_1 ws H locs hp_v_1 hw hF9 => ?_)
  obtain ⟨hfn, hp_v_1⟩ := hp_v_1
  have o_p2 := OV.over (V := vw_WORLD) hF9 o_p2 (by decide)
  obtain ⟨sg_2, q_sg_2⟩ : ∃ q9 : OS, (f_X3_tellName__4 p3 s0 s1).1 = q9 := ⟨_, rfl⟩
  have o_p0 : OV vw_POST Ps ws p0 sg_2 := by rw [← q_sg_2]; exact hfn.1
  obtain ⟨sg_3, q_sg_3⟩ : ∃ q9 : OS, (f_X3_tellName__4 p3 s0 s1).2.1 = q9 := ⟨_, rfl⟩
  have o_p1 : OV vw_TAPE Ps ws p1 sg_3 := by rw [← q_sg_3]; exact hfn.2.1
  have q_v_1 : (f_X3_tellName__4 p3 s0 s1).2.2 = v_1 := hfn.2.2.1
  have r_v_1 : RI v_1 (-1) 7 := hp_v_1.1
  by_cases c9_v_1 : v_1 = 0
  · have r_v_1 : RI v_1 0 0 := by rw [c9_v_1]; exact rl_0
    obtain ⟨v_4, m_v_4, r_v_4⟩ := ((hp_v_1.2.1 c9_v_1).1)
    refine lv_istore (lv' := [(4, .int v_1), (0, .ref p0), (1, .ref p1), (2, .ref p2), (3, .int p3)]) hx hb dX3_readNamed_6 hl (by decide) rfl (fun ls hl => ?_)
    refine lv_iload hx hb dX3_readNamed_8 (lv_at hl 0 rfl) ?_
    refine lv_iconst (v := (-1)) hx hb dX3_readNamed_10 (by decide) ?_
    refine lv_icmp_ne (tgt := 15) hx hb dX3_readNamed_11 (by decide) (fun c_11 => ?_) (fun c_11 => ?_)
    · refine lv_iload_n hx hb dX3_readNamed_15 rfl (lv_at hl 4 rfl) ?_
      refine lv_if_ne (tgt := 36) hx hb dX3_readNamed_16 (by decide) (fun c_16 => ?_) (fun c_16 => ?_)
      · refine lv_iload_n hx hb dX3_readNamed_36 rfl (lv_at hl 4 rfl) ?_
        refine lv_iconst (v := 2) hx hb dX3_readNamed_37 (by decide) ?_
        refine lv_icmp_ne (tgt := 61) hx hb dX3_readNamed_38 (by decide) (fun c_38 => ?_) (fun c_38 => ?_)
        · refine lv_iload_n hx hb dX3_readNamed_61 rfl (lv_at hl 4 rfl) ?_
          refine lv_iconst (v := 3) hx hb dX3_readNamed_62 (by decide) ?_
          refine lv_icmp_ne (tgt := 97) hx hb dX3_readNamed_63 (by decide) (fun c_63 => ?_) (fun c_63 => ?_)
          · exact absurd (r_p3.eq.trans rl_3.eq.symm) ((ti_ne c_63))
          · refine lv_aload_n hx hb dX3_readNamed_66 rfl (lv_at hl 3 rfl) ?_
            refine tg_getN (ci := 8) (ts := ty_WORLD) (C := RX8) (T := TX8) (N := 13) hx hb hts inX8 hown hK hw h_p2 rfl rfl 7 (by decide) (hSD.nest tn_266) (fun _ h9 => h9) (ft := vR 11) rfl dX3_readNamed_67 (fun u_5 hv_u_5 m_u_5 => ?_)
            obtain ⟨vu_5, rfl, h_vu_5⟩ := hv_u_5
            refine lv_iload hx hb dX3_readNamed_70 (lv_at hl 0 rfl) ?_
            refine lv_iconst (v := 0) hx hb dX3_readNamed_72 (by decide) ?_
            refine lv_aload_n hx hb dX3_readNamed_73 rfl (lv_at hl 2 rfl) ?_
            refine lv_aload_n hx hb dX3_readNamed_74 rfl (lv_at hl 1 rfl) ?_
            refine lv_iconst (v := 0) hx hb dX3_readNamed_75 (by decide) ?_
            refine tk_i (va_runV (As := [.ref p0, .int 0]) (rest := [.int 0, .int v_1, .ref vu_5]) ⟨hx, hb, hml, hown, hts⟩ (c_X7_takeName__13 l D cy z H.size Ps ws hw.1 p1 p0 0 v_4 sg_3 sg_2 h_p1 h_p0 rl_0 r_v_4 m_v_4 o_p1 o_p0) (cwV 2 hts (gV tw_464 tw_465 tw_466 tw_2 tw_467) rfl rfl rfl (by decide +kernel) ⟨Nat.le_of_ble_eq_true rfl, Nat.le_of_ble_eq_true rfl⟩) (tg_preV hw hK hSD hA (ci := 7) (q := (RX7, TX7, 12)) rfl h_p1 rfl) rfl rfl hl.1 rfl (lv_room (Nat.le_of_ble_eq_true rfl)) dX3_readNamed_76 ⟨Nat.le_of_ble_eq_true rfl, Nat.le_of_ble_eq_true rfl⟩) hw hA ⟨by decide, by decide⟩ (fun v_6 ws H locs hp_v_6 hw hF9 => ?_)
            have m_u_5 := FLD.over hF9 m_u_5 (by decide)
            obtain ⟨hfn, hp_v_6⟩ := hp_v_6
            have o_p2 := OV.over (V := vw_WORLD) hF9 o_p2 (by decide)
            obtain ⟨sg_7, q_sg_7⟩ : ∃ q9 : OS, (f_X7_takeName__11 (0 : Int32) sg_3 sg_2).1 = q9 := ⟨_, rfl⟩
            have o_p1 : OV vw_TAPE Ps ws p1 sg_7 := by rw [← q_sg_7]; exact hfn.1
            obtain ⟨sg_8, q_sg_8⟩ : ∃ q9 : OS, (f_X7_takeName__11 (0 : Int32) sg_3 sg_2).2.1 = q9 := ⟨_, rfl⟩
            have o_p0 : OV vw_POST Ps ws p0 sg_8 := by rw [← q_sg_8]; exact hfn.2.1
            have q_v_6 : (f_X7_takeName__11 (0 : Int32) sg_3 sg_2).2.2 = v_6 := hfn.2.2.1
            have r_v_6 : RI v_6 (-1) 5 := hp_v_6.1
            by_cases c9_v_6 : v_6.toInt < 0
            · have r_v_6 : RI v_6 (-1) (-1) := by unfold RI at r_v_6 ⊢; omega
              have x_FLT_p1 := (hp_v_6.2.2.2.2.1 (by omega)).1
              obtain ⟨v_9, m_v_9, r_v_9⟩ := id x_FLT_p1
              refine va_mmax hx hb (hml.trans hl.1.symm) hown (hts _ tw_512) (hts _ tw_489) (hts _ tw_16) (hts _ tw_490) (Nat.le_of_ble_eq_true rfl) (Nat.le_of_ble_eq_true rfl) (Nat.le_of_ble_eq_true rfl) (Nat.le_of_ble_eq_true rfl) dX3_readNamed_79 (lv_topi (fun v_10 e_v_10 => ?_))
              have r_v_10 : RI v_10 0 0 := by rw [e_v_10]; exact ri_max rl_0 r_v_6 (by decide)
              have q_v_10 : mjmax (0 : Int32) v_6 = v_10 := by rw [e_v_10]; rfl
              have mo9 := m_u_5
              refine tg_iast hx hb hK hw h_vu_5 rfl 0 0 r_v_1 (by decide) r_v_10 (by exact fun _ _ _ => by decide) (fun _ _ _ _ _ => trivial) (by decide) dX3_readNamed_82 (fun ws H locs hw hF9 hU9 => ?_)
              have x_FLT_p1 := FLTp.over hF9 x_FLT_p1 (by decide)
              have m_u_5 := FLD.over hF9 m_u_5 (by decide)
              have m_v_9 := FLD.over hF9 m_v_9 (by decide)
              have o_p0 := OV.over (V := vw_POST) hF9 o_p0 (by decide)
              have o_p1 := OV.over (V := vw_TAPE) hF9 o_p1 (by decide)
              obtain ⟨sg_11, q_sg_11⟩ : ∃ q9 : OS, sA s2 7 (Int32.toNatClampNeg v_1) v_10 = q9 := ⟨_, rfl⟩
              have o_p2 : OV vw_WORLD Ps ws p2 sg_11 := by rw [← q_sg_11]; exact OV.putA (V := vw_WORLD) (t := 11) hF9 hU9 o_p2 mo9 (by decide) (by decide)
              refine lv_aload_n hx hb dX3_readNamed_83 rfl (lv_at hl 1 rfl) ?_
              refine tg_get (ci := 3) (ts := ty_POST) (C := RX3) (T := TX3) (N := 9) hx hb hts inX3 hown hK hw h_p0 rfl rfl 4 (by decide) (hts _ tw_210) (fun _ h9 => h9) (ft := vR 7) rfl dX3_readNamed_84 (fun u_12 hv_u_12 m_u_12 => ?_)
              obtain ⟨vu_12, rfl, h_vu_12⟩ := hv_u_12
              refine lv_iload hx hb dX3_readNamed_87 (lv_at hl 0 rfl) ?_
              refine lv_aload_n hx hb dX3_readNamed_89 rfl (lv_at hl 2 rfl) ?_
              refine lv_iconst (v := 1) hx hb dX3_readNamed_90 (by decide) ?_
              refine lv_bipush (v := 9) hx hb dX3_readNamed_91 (by decide) ?_
              refine tk_ir (va_runV (As := [.int 1, .int 9]) (rest := [.int v_1, .ref vu_12]) ⟨hx, hb, hml, hown, hts⟩ (c_X7_takeNumber__6 l D cy z H.size Ps ws hw.1 p1 1 9 v_9 sg_7 h_p1 (rl_1.to (by decide)) (rl_9.to (by decide)) r_v_9 m_v_9 o_p1) (cwV 2 hts (gV tw_477 tw_478 tw_479 tw_2 tw_480) rfl rfl rfl (by decide +kernel) ⟨Nat.le_of_ble_eq_true rfl, Nat.le_of_ble_eq_true rfl⟩) (tg_preV hw hK hSD hA (ci := 7) (q := (RX7, TX7, 12)) rfl h_p1 rfl) rfl rfl hl.1 rfl (lv_room (Nat.le_of_ble_eq_true rfl)) dX3_readNamed_93 ⟨Nat.le_of_ble_eq_true rfl, Nat.le_of_ble_eq_true rfl⟩) hw hA (fun v_13  H locs hp_v_13 hw => ?_)
              obtain ⟨hfn, hp_v_13⟩ := hp_v_13
              have q_v_13 : (f_X7_takeNumber__6 (1 : Int32) (9 : Int32) sg_7) = v_13 := hfn.1
              have r_v_13 : RI v_13 (-2147483648) 2147483647 := hp_v_13.1
              have mo9 := m_u_12
              refine tg_iast hx hb hK hw h_vu_12 rfl 0 0 r_v_1 (by decide) r_v_13 (by exact fun _ _ _ => by decide) (fun _ _ _ _ _ => trivial) (by decide) dX3_readNamed_96 (fun ws H locs hw hF9 hU9 => ?_)
              have x_FLT_p1 := FLTp.over hF9 x_FLT_p1 (by decide)
              have m_u_5 := FLD.over hF9 m_u_5 (by decide)
              have m_v_9 := FLD.over hF9 m_v_9 (by decide)
              have m_u_12 := FLD.over hF9 m_u_12 (by decide)
              have o_p1 := OV.over (V := vw_TAPE) hF9 o_p1 (by decide)
              have o_p2 := OV.over (V := vw_WORLD) hF9 o_p2 (by decide)
              obtain ⟨sg_14, q_sg_14⟩ : ∃ q9 : OS, sA sg_8 4 (Int32.toNatClampNeg v_1) v_13 = q9 := ⟨_, rfl⟩
              have o_p0 : OV vw_POST Ps ws p0 sg_14 := by rw [← q_sg_14]; exact OV.putA (V := vw_POST) (t := 7) hF9 hU9 o_p0 mo9 (by decide) (by decide)
              simp only [f_X3_readNamed__7, ↓reduceIte, q_sg_2, q_sg_3, q_v_1, eq_true c9_v_1, eq_false c_11, eq_false c_16, eq_false c_38, eq_true c_63, q_sg_7, q_sg_8, q_v_6, eq_true c9_v_6, q_v_10, q_sg_11, q_v_13, q_sg_14] at hE
              subst hQ
              exact W.vret hx hb hr (fun t ht hW => ⟨⟨ws, rfl, ⟨⟨⟨(by rw [hR, ← hE]; exact o_p0), (by rw [hR, ← hE]; exact o_p1), (by rw [hR, ← hE]; exact o_p2), trivial⟩, trivial⟩, hw.1, hw.2.2.2.2.1⟩, by rw [ht]; exact hw.2.1, va_K.moved hW.alike hK, hw.2.2.1⟩, hw.2.2.2.1.F ht⟩) hw.2.2.2.1.2.2 dX3_readNamed_97
            · have r_v_6 : RI v_6 0 5 := by unfold RI at r_v_6 ⊢; omega
              refine va_mmax hx hb (hml.trans hl.1.symm) hown (hts _ tw_512) (hts _ tw_489) (hts _ tw_16) (hts _ tw_490) (Nat.le_of_ble_eq_true rfl) (Nat.le_of_ble_eq_true rfl) (Nat.le_of_ble_eq_true rfl) (Nat.le_of_ble_eq_true rfl) dX3_readNamed_79 (lv_topi (fun v_15 e_v_15 => ?_))
              have r_v_15 : RI v_15 0 5 := by rw [e_v_15]; exact ri_max rl_0 r_v_6 (by decide)
              have q_v_15 : mjmax (0 : Int32) v_6 = v_15 := by rw [e_v_15]; rfl
              have mo9 := m_u_5
              refine tg_iast hx hb hK hw h_vu_5 rfl 0 0 r_v_1 (by decide) r_v_15 (by exact fun _ _ _ => by decide) (fun _ _ _ _ _ => trivial) (by decide) dX3_readNamed_82 (fun ws H locs hw hF9 hU9 => ?_)
              have m_u_5 := FLD.over hF9 m_u_5 (by decide)
              have o_p0 := OV.over (V := vw_POST) hF9 o_p0 (by decide)
              have o_p1 := OV.over (V := vw_TAPE) hF9 o_p1 (by decide)
              obtain ⟨sg_16, q_sg_16⟩ : ∃ q9 : OS, sA s2 7 (Int32.toNatClampNeg v_1) v_15 = q9 := ⟨_, rfl⟩
              have o_p2 : OV vw_WORLD Ps ws p2 sg_16 := by rw [← q_sg_16]; exact OV.putA (V := vw_WORLD) (t := 11) hF9 hU9 o_p2 mo9 (by decide) (by decide)
              refine lv_aload_n hx hb dX3_readNamed_83 rfl (lv_at hl 1 rfl) ?_
              refine tg_get (ci := 3) (ts := ty_POST) (C := RX3) (T := TX3) (N := 9) hx hb hts inX3 hown hK hw h_p0 rfl rfl 4 (by decide) (hts _ tw_210) (fun _ h9 => h9) (ft := vR 7) rfl dX3_readNamed_84 (fun u_17 hv_u_17 m_u_17 => ?_)
              obtain ⟨vu_17, rfl, h_vu_17⟩ := hv_u_17
              refine lv_iload hx hb dX3_readNamed_87 (lv_at hl 0 rfl) ?_
              refine lv_aload_n hx hb dX3_readNamed_89 rfl (lv_at hl 2 rfl) ?_
              refine lv_iconst (v := 1) hx hb dX3_readNamed_90 (by decide) ?_
              refine lv_bipush (v := 9) hx hb dX3_readNamed_91 (by decide) ?_
              refine tk_i (va_runV (As := [.int 1, .int 9]) (rest := [.int v_1, .ref vu_17]) ⟨hx, hb, hml, hown, hts⟩ (c_X7_takeNumber__5 l D cy z H.size Ps ws hw.1 p1 1 9 sg_7 h_p1 (rl_1.to (by decide)) (rl_9.to (by decide)) o_p1) (cwV 2 hts (gV tw_477 tw_478 tw_479 tw_2 tw_480) rfl rfl rfl (by decide +kernel) ⟨Nat.le_of_ble_eq_true rfl, Nat.le_of_ble_eq_true rfl⟩) (tg_preV hw hK hSD hA (ci := 7) (q := (RX7, TX7, 12)) rfl h_p1 rfl) rfl rfl hl.1 rfl (lv_room (Nat.le_of_ble_eq_true rfl)) dX3_readNamed_93 ⟨Nat.le_of_ble_eq_true rfl, Nat.le_of_ble_eq_true rfl⟩) hw hA ⟨by decide, by decide⟩ (fun v_18 ws H locs hp_v_18 hw hF9 => ?_)
              have m_u_5 := FLD.over hF9 m_u_5 (by decide)
              have m_u_17 := FLD.over hF9 m_u_17 (by decide)
              obtain ⟨hfn, hp_v_18⟩ := hp_v_18
              have o_p0 := OV.over (V := vw_POST) hF9 o_p0 (by decide)
              have o_p2 := OV.over (V := vw_WORLD) hF9 o_p2 (by decide)
              obtain ⟨sg_19, q_sg_19⟩ : ∃ q9 : OS, (f_X7_takeNumber__5 (1 : Int32) (9 : Int32) sg_7).1 = q9 := ⟨_, rfl⟩
              have o_p1 : OV vw_TAPE Ps ws p1 sg_19 := by rw [← q_sg_19]; exact hfn.1
              have q_v_18 : (f_X7_takeNumber__5 (1 : Int32) (9 : Int32) sg_7).2 = v_18 := hfn.2.1
              have r_v_18 : RI v_18 (-2147483648) 2147483647 := hp_v_18.1
              have mo9 := m_u_17
              refine tg_iast hx hb hK hw h_vu_17 rfl 0 0 r_v_1 (by decide) r_v_18 (by exact fun _ _ _ => by decide) (fun _ _ _ _ _ => trivial) (by decide) dX3_readNamed_96 (fun ws H locs hw hF9 hU9 => ?_)
              have m_u_5 := FLD.over hF9 m_u_5 (by decide)
              have m_u_17 := FLD.over hF9 m_u_17 (by decide)
              have o_p1 := OV.over (V := vw_TAPE) hF9 o_p1 (by decide)
              have o_p2 := OV.over (V := vw_WORLD) hF9 o_p2 (by decide)
              obtain ⟨sg_20, q_sg_20⟩ : ∃ q9 : OS, sA sg_8 4 (Int32.toNatClampNeg v_1) v_18 = q9 := ⟨_, rfl⟩
              have o_p0 : OV vw_POST Ps ws p0 sg_20 := by rw [← q_sg_20]; exact OV.putA (V := vw_POST) (t := 7) hF9 hU9 o_p0 mo9 (by decide) (by decide)
              simp only [f_X3_readNamed__7, ↓reduceIte, q_sg_2, q_sg_3, q_v_1, eq_true c9_v_1, eq_false c_11, eq_false c_16, eq_false c_38, eq_true c_63, q_sg_7, q_sg_8, q_v_6, eq_false c9_v_6, q_v_15, q_sg_16, q_sg_19, q_v_18, q_sg_20] at hE
              subst hQ
              exact W.vret hx hb hr (fun t ht hW => ⟨⟨ws, rfl, ⟨⟨⟨(by rw [hR, ← hE]; exact o_p0), (by rw [hR, ← hE]; exact o_p1), (by rw [hR, ← hE]; exact o_p2), trivial⟩, trivial⟩, hw.1, hw.2.2.2.2.1⟩, by rw [ht]; exact hw.2.1, va_K.moved hW.alike hK, hw.2.2.1⟩, hw.2.2.2.1.F ht⟩) hw.2.2.2.1.2.2 dX3_readNamed_97
        · have r_p3 : RI p3 3 2 := rc_eq1 r_p3 rl_2 (ti_eq c_38) (by decide)
          exact (r_p3.no (by decide)).elim
      · have r_p3 : RI p3 3 0 := rc_eq1 r_p3 rl_0 (ti_eq c_16) (by decide)
        exact (r_p3.no (by decide)).elim
    · have r_v_1 : RI v_1 0 (-1) := rc_eq1 r_v_1 rl_m1 (ti_eq c_11) (by decide)
      exact (r_v_1.no (by decide)).elim
  · refine lv_istore (lv' := [(4, .int v_1), (0, .ref p0), (1, .ref p1), (2, .ref p2), (3, .int p3)]) hx hb dX3_readNamed_6 hl (by decide) rfl (fun ls hl => ?_)
    refine lv_iload hx hb dX3_readNamed_8 (lv_at hl 0 rfl) ?_
    refine lv_iconst (v := (-1)) hx hb dX3_readNamed_10 (by decide) ?_
    refine lv_icmp_ne (tgt := 15) hx hb dX3_readNamed_11 (by decide) (fun c_11 => ?_) (fun c_11 => ?_)
    · have r_v_1 : RI v_1 0 7 := rc_neL r_v_1 rl_m1 (ti_ne c_11) (by decide)
      refine lv_iload_n hx hb dX3_readNamed_15 rfl (lv_at hl 4 rfl) ?_
      refine lv_if_ne (tgt := 36) hx hb dX3_readNamed_16 (by decide) (fun c_16 => ?_) (fun c_16 => ?_)
      · refine lv_iload_n hx hb dX3_readNamed_36 rfl (lv_at hl 4 rfl) ?_
        refine lv_iconst (v := 2) hx hb dX3_readNamed_37 (by decide) ?_
        refine lv_icmp_ne (tgt := 61) hx hb dX3_readNamed_38 (by decide) (fun c_38 => ?_) (fun c_38 => ?_)
        · refine lv_iload_n hx hb dX3_readNamed_61 rfl (lv_at hl 4 rfl) ?_
          refine lv_iconst (v := 3) hx hb dX3_readNamed_62 (by decide) ?_
          refine lv_icmp_ne (tgt := 97) hx hb dX3_readNamed_63 (by decide) (fun c_63 => ?_) (fun c_63 => ?_)
          · exact absurd (r_p3.eq.trans rl_3.eq.symm) ((ti_ne c_63))
          · refine lv_aload_n hx hb dX3_readNamed_66 rfl (lv_at hl 3 rfl) ?_
            refine tg_getN (ci := 8) (ts := ty_WORLD) (C := RX8) (T := TX8) (N := 13) hx hb hts inX8 hown hK hw h_p2 rfl rfl 7 (by decide) (hSD.nest tn_266) (fun _ h9 => h9) (ft := vR 11) rfl dX3_readNamed_67 (fun u_21 hv_u_21 m_u_21 => ?_)
            obtain ⟨vu_21, rfl, h_vu_21⟩ := hv_u_21
            refine lv_iload hx hb dX3_readNamed_70 (lv_at hl 0 rfl) ?_
            refine lv_iconst (v := 0) hx hb dX3_readNamed_72 (by decide) ?_
            refine lv_aload_n hx hb dX3_readNamed_73 rfl (lv_at hl 2 rfl) ?_
            refine lv_aload_n hx hb dX3_readNamed_74 rfl (lv_at hl 1 rfl) ?_
            refine lv_iconst (v := 0) hx hb dX3_readNamed_75 (by decide) ?_
            refine tk_i (va_runV (As := [.ref p0, .int 0]) (rest := [.int 0, .int v_1, .ref vu_21]) ⟨hx, hb, hml, hown, hts⟩ (c_X7_takeName__14 l D cy z H.size Ps ws hw.1 p1 p0 0 sg_3 sg_2 h_p1 h_p0 rl_0 o_p1 o_p0) (cwV 2 hts (gV tw_464 tw_465 tw_466 tw_2 tw_467) rfl rfl rfl (by decide +kernel) ⟨Nat.le_of_ble_eq_true rfl, Nat.le_of_ble_eq_true rfl⟩) (tg_preV hw hK hSD hA (ci := 7) (q := (RX7, TX7, 12)) rfl h_p1 rfl) rfl rfl hl.1 rfl (lv_room (Nat.le_of_ble_eq_true rfl)) dX3_readNamed_76 ⟨Nat.le_of_ble_eq_true rfl, Nat.le_of_ble_eq_true rfl⟩) hw hA ⟨by decide, by decide⟩ (fun v_22 ws H locs hp_v_22 hw hF9 => ?_)
            have m_u_21 := FLD.over hF9 m_u_21 (by decide)
            obtain ⟨hfn, hp_v_22⟩ := hp_v_22
            have o_p2 := OV.over (V := vw_WORLD) hF9 o_p2 (by decide)
            obtain ⟨sg_23, q_sg_23⟩ : ∃ q9 : OS, (f_X7_takeName__12 (0 : Int32) sg_3 sg_2).1 = q9 := ⟨_, rfl⟩
            have o_p1 : OV vw_TAPE Ps ws p1 sg_23 := by rw [← q_sg_23]; exact hfn.1
            obtain ⟨sg_24, q_sg_24⟩ : ∃ q9 : OS, (f_X7_takeName__12 (0 : Int32) sg_3 sg_2).2.1 = q9 := ⟨_, rfl⟩
            have o_p0 : OV vw_POST Ps ws p0 sg_24 := by rw [← q_sg_24]; exact hfn.2.1
            have q_v_22 : (f_X7_takeName__12 (0 : Int32) sg_3 sg_2).2.2 = v_22 := hfn.2.2.1
            have r_v_22 : RI v_22 (-1) 5 := hp_v_22.1
            by_cases c9_v_22 : v_22.toInt < 0
            · have r_v_22 : RI v_22 (-1) (-1) := by unfold RI at r_v_22 ⊢; omega
              have x_FLT_p1 := (hp_v_22.2.2.2.2.1 (by omega)).1
              obtain ⟨v_25, m_v_25, r_v_25⟩ := id x_FLT_p1
              refine va_mmax hx hb (hml.trans hl.1.symm) hown (hts _ tw_512) (hts _ tw_489) (hts _ tw_16) (hts _ tw_490) (Nat.le_of_ble_eq_true rfl) (Nat.le_of_ble_eq_true rfl) (Nat.le_of_ble_eq_true rfl) (Nat.le_of_ble_eq_true rfl) dX3_readNamed_79 (lv_topi (fun v_26 e_v_26 => ?_))
              have r_v_26 : RI v_26 0 0 := by rw [e_v_26]; exact ri_max rl_0 r_v_22 (by decide)
              have q_v_26 : mjmax (0 : Int32) v_22 = v_26 := by rw [e_v_26]; rfl
              have mo9 := m_u_21
              refine tg_iast hx hb hK hw h_vu_21 rfl 0 7 r_v_1 (by decide) r_v_26 (by exact fun _ _ _ => by decide) (fun _ _ _ _ _ => trivial) (by decide) dX3_readNamed_82 (fun ws H locs hw hF9 hU9 => ?_)
              have x_FLT_p1 := FLTp.over hF9 x_FLT_p1 (by decide)
              have m_u_21 := FLD.over hF9 m_u_21 (by decide)
              have m_v_25 := FLD.over hF9 m_v_25 (by decide)
              have o_p0 := OV.over (V := vw_POST) hF9 o_p0 (by decide)
              have o_p1 := OV.over (V := vw_TAPE) hF9 o_p1 (by decide)
              obtain ⟨sg_27, q_sg_27⟩ : ∃ q9 : OS, sA s2 7 (Int32.toNatClampNeg v_1) v_26 = q9 := ⟨_, rfl⟩
              have o_p2 : OV vw_WORLD Ps ws p2 sg_27 := by rw [← q_sg_27]; exact OV.putA (V := vw_WORLD) (t := 11) hF9 hU9 o_p2 mo9 (by decide) (by decide)
              refine lv_aload_n hx hb dX3_readNamed_83 rfl (lv_at hl 1 rfl) ?_
              refine tg_get (ci := 3) (ts := ty_POST) (C := RX3) (T := TX3) (N := 9) hx hb hts inX3 hown hK hw h_p0 rfl rfl 4 (by decide) (hts _ tw_210) (fun _ h9 => h9) (ft := vR 7) rfl dX3_readNamed_84 (fun u_28 hv_u_28 m_u_28 => ?_)
              obtain ⟨vu_28, rfl, h_vu_28⟩ := hv_u_28
              refine lv_iload hx hb dX3_readNamed_87 (lv_at hl 0 rfl) ?_
              refine lv_aload_n hx hb dX3_readNamed_89 rfl (lv_at hl 2 rfl) ?_
              refine lv_iconst (v := 1) hx hb dX3_readNamed_90 (by decide) ?_
              refine lv_bipush (v := 9) hx hb dX3_readNamed_91 (by decide) ?_
              refine tk_ir (va_runV (As := [.int 1, .int 9]) (rest := [.int v_1, .ref vu_28]) ⟨hx, hb, hml, hown, hts⟩ (c_X7_takeNumber__6 l D cy z H.size Ps ws hw.1 p1 1 9 v_25 sg_23 h_p1 (rl_1.to (by decide)) (rl_9.to (by decide)) r_v_25 m_v_25 o_p1) (cwV 2 hts (gV tw_477 tw_478 tw_479 tw_2 tw_480) rfl rfl rfl (by decide +kernel) ⟨Nat.le_of_ble_eq_true rfl, Nat.le_of_ble_eq_true rfl⟩) (tg_preV hw hK hSD hA (ci := 7) (q := (RX7, TX7, 12)) rfl h_p1 rfl) rfl rfl hl.1 rfl (lv_room (Nat.le_of_ble_eq_true rfl)) dX3_readNamed_93 ⟨Nat.le_of_ble_eq_true rfl, Nat.le_of_ble_eq_true rfl⟩) hw hA (fun v_29  H locs hp_v_29 hw => ?_)
              obtain ⟨hfn, hp_v_29⟩ := hp_v_29
              have q_v_29 : (f_X7_takeNumber__6 (1 : Int32) (9 : Int32) sg_23) = v_29 := hfn.1
              have r_v_29 : RI v_29 (-2147483648) 2147483647 := hp_v_29.1
              have mo9 := m_u_28
              refine tg_iast hx hb hK hw h_vu_28 rfl 0 7 r_v_1 (by decide) r_v_29 (by exact fun _ _ _ => by decide) (fun _ _ _ _ _ => trivial) (by decide) dX3_readNamed_96 (fun ws H locs hw hF9 hU9 => ?_)
              have x_FLT_p1 := FLTp.over hF9 x_FLT_p1 (by decide)
              have m_u_21 := FLD.over hF9 m_u_21 (by decide)
              have m_v_25 := FLD.over hF9 m_v_25 (by decide)
              have m_u_28 := FLD.over hF9 m_u_28 (by decide)
              have o_p1 := OV.over (V := vw_TAPE) hF9 o_p1 (by decide)
              have o_p2 := OV.over (V := vw_WORLD) hF9 o_p2 (by decide)
              obtain ⟨sg_30, q_sg_30⟩ : ∃ q9 : OS, sA sg_24 4 (Int32.toNatClampNeg v_1) v_29 = q9 := ⟨_, rfl⟩
              have o_p0 : OV vw_POST Ps ws p0 sg_30 := by rw [← q_sg_30]; exact OV.putA (V := vw_POST) (t := 7) hF9 hU9 o_p0 mo9 (by decide) (by decide)
              simp only [f_X3_readNamed__7, ↓reduceIte, q_sg_2, q_sg_3, q_v_1, eq_false c9_v_1, eq_false c_11, eq_false c_16, eq_false c_38, eq_true c_63, q_sg_23, q_sg_24, q_v_22, eq_true c9_v_22, q_v_26, q_sg_27, q_v_29, q_sg_30] at hE
              subst hQ
              exact W.vret hx hb hr (fun t ht hW => ⟨⟨ws, rfl, ⟨⟨⟨(by rw [hR, ← hE]; exact o_p0), (by rw [hR, ← hE]; exact o_p1), (by rw [hR, ← hE]; exact o_p2), trivial⟩, trivial⟩, hw.1, hw.2.2.2.2.1⟩, by rw [ht]; exact hw.2.1, va_K.moved hW.alike hK, hw.2.2.1⟩, hw.2.2.2.1.F ht⟩) hw.2.2.2.1.2.2 dX3_readNamed_97
            · have r_v_22 : RI v_22 0 5 := by unfold RI at r_v_22 ⊢; omega
              refine va_mmax hx hb (hml.trans hl.1.symm) hown (hts _ tw_512) (hts _ tw_489) (hts _ tw_16) (hts _ tw_490) (Nat.le_of_ble_eq_true rfl) (Nat.le_of_ble_eq_true rfl) (Nat.le_of_ble_eq_true rfl) (Nat.le_of_ble_eq_true rfl) dX3_readNamed_79 (lv_topi (fun v_31 e_v_31 => ?_))
              have r_v_31 : RI v_31 0 5 := by rw [e_v_31]; exact ri_max rl_0 r_v_22 (by decide)
              have q_v_31 : mjmax (0 : Int32) v_22 = v_31 := by rw [e_v_31]; rfl
              have mo9 := m_u_21
              refine tg_iast hx hb hK hw h_vu_21 rfl 0 7 r_v_1 (by decide) r_v_31 (by exact fun _ _ _ => by decide) (fun _ _ _ _ _ => trivial) (by decide) dX3_readNamed_82 (fun ws H locs hw hF9 hU9 => ?_)
              have m_u_21 := FLD.over hF9 m_u_21 (by decide)
              have o_p0 := OV.over (V := vw_POST) hF9 o_p0 (by decide)
              have o_p1 := OV.over (V := vw_TAPE) hF9 o_p1 (by decide)
              obtain ⟨sg_32, q_sg_32⟩ : ∃ q9 : OS, sA s2 7 (Int32.toNatClampNeg v_1) v_31 = q9 := ⟨_, rfl⟩
              have o_p2 : OV vw_WORLD Ps ws p2 sg_32 := by rw [← q_sg_32]; exact OV.putA (V := vw_WORLD) (t := 11) hF9 hU9 o_p2 mo9 (by decide) (by decide)
              refine lv_aload_n hx hb dX3_readNamed_83 rfl (lv_at hl 1 rfl) ?_
              refine tg_get (ci := 3) (ts := ty_POST) (C := RX3) (T := TX3) (N := 9) hx hb hts inX3 hown hK hw h_p0 rfl rfl 4 (by decide) (hts _ tw_210) (fun _ h9 => h9) (ft := vR 7) rfl dX3_readNamed_84 (fun u_33 hv_u_33 m_u_33 => ?_)
              obtain ⟨vu_33, rfl, h_vu_33⟩ := hv_u_33
              refine lv_iload hx hb dX3_readNamed_87 (lv_at hl 0 rfl) ?_
              refine lv_aload_n hx hb dX3_readNamed_89 rfl (lv_at hl 2 rfl) ?_
              refine lv_iconst (v := 1) hx hb dX3_readNamed_90 (by decide) ?_
              refine lv_bipush (v := 9) hx hb dX3_readNamed_91 (by decide) ?_
              refine tk_i (va_runV (As := [.int 1, .int 9]) (rest := [.int v_1, .ref vu_33]) ⟨hx, hb, hml, hown, hts⟩ (c_X7_takeNumber__5 l D cy z H.size Ps ws hw.1 p1 1 9 sg_23 h_p1 (rl_1.to (by decide)) (rl_9.to (by decide)) o_p1) (cwV 2 hts (gV tw_477 tw_478 tw_479 tw_2 tw_480) rfl rfl rfl (by decide +kernel) ⟨Nat.le_of_ble_eq_true rfl, Nat.le_of_ble_eq_true rfl⟩) (tg_preV hw hK hSD hA (ci := 7) (q := (RX7, TX7, 12)) rfl h_p1 rfl) rfl rfl hl.1 rfl (lv_room (Nat.le_of_ble_eq_true rfl)) dX3_readNamed_93 ⟨Nat.le_of_ble_eq_true rfl, Nat.le_of_ble_eq_true rfl⟩) hw hA ⟨by decide, by decide⟩ (fun v_34 ws H locs hp_v_34 hw hF9 => ?_)
              have m_u_21 := FLD.over hF9 m_u_21 (by decide)
              have m_u_33 := FLD.over hF9 m_u_33 (by decide)
              obtain ⟨hfn, hp_v_34⟩ := hp_v_34
              have o_p0 := OV.over (V := vw_POST) hF9 o_p0 (by decide)
              have o_p2 := OV.over (V := vw_WORLD) hF9 o_p2 (by decide)
              obtain ⟨sg_35, q_sg_35⟩ : ∃ q9 : OS, (f_X7_takeNumber__5 (1 : Int32) (9 : Int32) sg_23).1 = q9 := ⟨_, rfl⟩
              have o_p1 : OV vw_TAPE Ps ws p1 sg_35 := by rw [← q_sg_35]; exact hfn.1
              have q_v_34 : (f_X7_takeNumber__5 (1 : Int32) (9 : Int32) sg_23).2 = v_34 := hfn.2.1
              have r_v_34 : RI v_34 (-2147483648) 2147483647 := hp_v_34.1
              have mo9 := m_u_33
              refine tg_iast hx hb hK hw h_vu_33 rfl 0 7 r_v_1 (by decide) r_v_34 (by exact fun _ _ _ => by decide) (fun _ _ _ _ _ => trivial) (by decide) dX3_readNamed_96 (fun ws H locs hw hF9 hU9 => ?_)
              have m_u_21 := FLD.over hF9 m_u_21 (by decide)
              have m_u_33 := FLD.over hF9 m_u_33 (by decide)
              have o_p1 := OV.over (V := vw_TAPE) hF9 o_p1 (by decide)
              have o_p2 := OV.over (V := vw_WORLD) hF9 o_p2 (by decide)
              obtain ⟨sg_36, q_sg_36⟩ : ∃ q9 : OS, sA sg_24 4 (Int32.toNatClampNeg v_1) v_34 = q9 := ⟨_, rfl⟩
              have o_p0 : OV vw_POST Ps ws p0 sg_36 := by rw [← q_sg_36]; exact OV.putA (V := vw_POST) (t := 7) hF9 hU9 o_p0 mo9 (by decide) (by decide)
              simp only [f_X3_readNamed__7, ↓reduceIte, q_sg_2, q_sg_3, q_v_1, eq_false c9_v_1, eq_false c_11, eq_false c_16, eq_false c_38, eq_true c_63, q_sg_23, q_sg_24, q_v_22, eq_false c9_v_22, q_v_31, q_sg_32, q_sg_35, q_v_34, q_sg_36] at hE
              subst hQ
              exact W.vret hx hb hr (fun t ht hW => ⟨⟨ws, rfl, ⟨⟨⟨(by rw [hR, ← hE]; exact o_p0), (by rw [hR, ← hE]; exact o_p1), (by rw [hR, ← hE]; exact o_p2), trivial⟩, trivial⟩, hw.1, hw.2.2.2.2.1⟩, by rw [ht]; exact hw.2.1, va_K.moved hW.alike hK, hw.2.2.1⟩, hw.2.2.2.1.F ht⟩) hw.2.2.2.1.2.2 dX3_readNamed_97
        · have r_p3 : RI p3 3 2 := rc_eq1 r_p3 rl_2 (ti_eq c_38) (by decide)
          exact (r_p3.no (by decide)).elim
      · have r_p3 : RI p3 3 0 := rc_eq1 r_p3 rl_0 (ti_eq c_16) (by decide)
        exact (r_p3.no (by decide)).elim
    · have r_v_1 : RI v_1 (-1) (-1) := rc_eq1 r_v_1 rl_m1 (ti_eq c_11) (by decide)
      simp only [f_X3_readNamed__7, ↓reduceIte, q_sg_2, q_sg_3, q_v_1, eq_false c9_v_1, eq_true c_11] at hE
      subst hQ
      exact W.vret hx hb hr (fun t ht hW => ⟨⟨ws, rfl, ⟨⟨⟨(by rw [hR, ← hE]; exact o_p0), (by rw [hR, ← hE]; exact o_p1), (by rw [hR, ← hE]; exact o_p2), trivial⟩, trivial⟩, hw.1, hw.2.2.2.2.1⟩, by rw [ht]; exact hw.2.1, va_K.moved hW.alike hK, hw.2.2.1⟩, hw.2.2.2.1.F ht⟩) hw.2.2.2.1.2.2 dX3_readNamed_14
abbrev wr_X3_beginsLine__17 : List (Nat × Nat) := [(7, 5), (7, 6), (7, 7), (7, 8), (7, 9)]
abbrev wa_X3_beginsLine__17 : List Nat := []
set_option maxHeartbeats 4000000 in
set_option maxRecDepth 100000 in
theorem c_X3_beginsLine__17 (l : Launch) (D : va_G) (cy : Nat → ClassId) (z : Nat → Nat) (sz : Nat) (Ps : PSI) (w0 : va_W) (hT : HT cy GG Ps w0) (p0 : Nat) (p1 : Nat) (p2 : Int32) (f1_10 : Int32) (s0 : OS) (s1 : OS) (h_p0 : (p0, 25) ∈ Ps) (h_p1 : (p1, 26) ∈ Ps) (r_p2 : RI p2 132 132) (r_f1_10 : RI f1_10 0 0) (m_f1_10 : FLD w0 p1 7 10 (.int f1_10)) (o_p0 : OV vw_POST Ps w0 p0 s0) (o_p1 : OV vw_TAPE Ps w0 p1 s1) : Met l yX3_beginsLine (Cond.code yX3_beginsLine cX3_beginsLine 3 (some .boolean) :: gT) ({ frames := 3, cells := 0, slots := 0, locals := 600 } : Room) (va_Pc [.ref p0, .ref p1, .int p2] (PRE D cy z w0 sz)) (va_Qi (fun (r : Int32) (u : va_W) => ((OV vw_POST Ps u p0 ((f_X3_beginsLine__17 p2 s0 s1).1) ∧ OV vw_TAPE Ps u p1 ((f_X3_beginsLine__17 p2 s0 s1).2.1) ∧ (f_X3_beginsLine__17 p2 s0 s1).2.2 = r ∧ True) ∧ (RI r 1 1 ∧ (r = 0 → True) ∧ (¬ r = 0 → (∃ v9 : Int32, FLD u p1 7 10 (.int v9) ∧ RI v9 0 0) ∧ True))) ∧ HT cy GG Ps u ∧ FR wr_X3_beginsLine__17 wa_X3_beginsLine__17 Ps w0 u) (BB D cy (va_A w0 sz) (fun (u : va_W) => u)) (va_A w0 sz)) 0 0 (va_A w0 sz) := by
  refine Met.ofW (cc := cX3_beginsLine) (maxL := 3) (ret := (some .boolean)) (by decide) rfl ?_
  intro p e s m args below meth c s₁ B hml hv
  obtain ⟨rfl, hsz, hP, hK, hD0, hSD⟩ := hv
  have hx := B.exec
  have hb := B.bytes
  have hr := B.returns
  have hlocks := B.notSynchronized
  have hts : ∀ w ∈ gT, w.before _ s = true := fun w h => atoms_spec (ws := Cond.code yX3_beginsLine cX3_beginsLine 3 (some .boolean) :: gT) B.pre w (List.mem_cons_of_mem _ h)
  have hown : s.vm.findClass RX3 = some m.cls := findClass_of_methodNamed B.named
  subst hsz
  have hD := hD0.self (sz := s.heap.size)
  generalize hAe : va_A w0 s.heap.size = A at hD hSD ⊢
  have hA : ∀ q : Nat, s.heap.size ≤ q → A q := fun q h => by rw [← hAe]; exact Or.inr h
  have hl := lv_entry ([.ref p0, .ref p1, .int p2]) (n := 3) (Nat.le_of_ble_eq_true rfl)
  rw [lg_entry_eq]
  generalize (lg_sl ([.ref p0, .ref p1, .int p2]) ++ List.replicate (3 - (lg_sl ([.ref p0, .ref p1, .int p2])).length) Slot.unset).toArray = ls at hl ⊢
  have hl : lv_has ls 3 [(0, .ref p0), (1, .ref p1), (2, .int p2)] := hl
  refine nameQ (fun Q hQ => ?_)
  have hw : WD D cy GG A s wr_X3_beginsLine__17 wa_X3_beginsLine__17 Ps w0 Ps w0 s.heap [] := ⟨hT, hP, hD, va_S.rf, FR.rf, hT.1, [], (List.append_nil _).symm⟩
  obtain ⟨R9, hR⟩ : ∃ q9 : OS × OS × Int32, f_X3_beginsLine__17 p2 s0 s1 = q9 := ⟨_, rfl⟩
  have hE := hR
  refine lv_iload_n hx hb dX3_beginsLine_0 rfl (lv_at hl 2 rfl) ?_
  refine lv_sipush (v := 128) hx hb dX3_beginsLine_1 (by decide) ?_
  refine lv_icmp_lt (tgt := 14) hx hb dX3_beginsLine_4 (by decide) (fun c_4 => ?_) (fun c_4 => ?_)
  · have r_p2 : RI p2 132 127 := rc_lt1 r_p2 rl_128 (ti_lt c_4) (by decide)
    exact (r_p2.no (by decide)).elim
  · refine lv_iload_n hx hb dX3_beginsLine_7 rfl (lv_at hl 2 rfl) ?_
    refine lv_sipush (v := 136) hx hb dX3_beginsLine_8 (by decide) ?_
    refine lv_icmp_le (tgt := 22) hx hb dX3_beginsLine_11 (by decide) (fun c_11 => ?_) (fun c_11 => ?_)
    · refine lv_iload_n hx hb dX3_beginsLine_22 rfl (lv_at hl 2 rfl) ?_
      refine lv_sipush (v := 131) hx hb dX3_beginsLine_23 (by decide) ?_
      refine lv_icmp_gt (tgt := 59) hx hb dX3_beginsLine_26 (by decide) (fun c_26 => ?_) (fun c_26 => ?_)
      · refine lv_iload_n hx hb dX3_beginsLine_59 rfl (lv_at hl 2 rfl) ?_
        refine lv_sipush (v := 135) hx hb dX3_beginsLine_60 (by decide) ?_
        refine lv_icmp_ne (tgt := 73) hx hb dX3_beginsLine_63 (by decide) (fun c_63 => ?_) (fun c_63 => ?_)
        · refine lv_iload_n hx hb dX3_beginsLine_73 rfl (lv_at hl 2 rfl) ?_
          refine lv_sipush (v := 136) hx hb dX3_beginsLine_74 (by decide) ?_
          refine lv_icmp_ne (tgt := 92) hx hb dX3_beginsLine_77 (by decide) (fun c_77 => ?_) (fun c_77 => ?_)
          · refine lv_aload_n hx hb dX3_beginsLine_92 rfl (lv_at hl 1 rfl) ?_
            refine tk_v (va_runV (As := []) (rest := []) ⟨hx, hb, hml, hown, hts⟩ (c_X7_pass__5 l D cy z s.heap.size Ps w0 hw.1 p1 f1_10 s1 h_p1 r_f1_10 m_f1_10 o_p1) (cwV 0 hts (gV tw_451 tw_425 tw_426 tw_2 tw_427) rfl rfl rfl (by decide +kernel) ⟨Nat.le_of_ble_eq_true rfl, Nat.le_of_ble_eq_true rfl⟩) (tg_preV hw hK hSD hA (ci := 7) (q := (RX7, TX7, 12)) rfl h_p1 rfl) rfl rfl hl.1 rfl (lv_room (Nat.le_of_ble_eq_true rfl)) dX3_beginsLine_93 ⟨Nat.le_of_ble_eq_true rfl, Nat.le_of_ble_eq_true rfl⟩) hw hA ⟨by decide, by decide⟩ (fun ws H locs hp_v_1 hw hF9 => ?_)
            have m_f1_10 := FLD.over hF9 m_f1_10 (by decide)
            obtain ⟨hfn, hp_v_1⟩ := hp_v_1
            have o_p0 := OV.over (V := vw_POST) hF9 o_p0 (by decide)
            obtain ⟨sg_2, q_sg_2⟩ : ∃ q9 : OS, (f_X7_pass__5 s1) = q9 := ⟨_, rfl⟩
            have o_p1 : OV vw_TAPE Ps ws p1 sg_2 := by rw [← q_sg_2]; exact hfn.1
            obtain ⟨v_3, m_v_3, r_v_3⟩ := (hp_v_1.1)
            refine lv_aload_n hx hb dX3_beginsLine_96 rfl (lv_at hl 1 rfl) ?_
            refine tg_memN (ci := 7) (C := RX7) (T := TX7) (N := 12) hx hb hts inX7 hown hK hw 10 m_v_3 rfl (by decide) (hSD.nest tn_105) (fun _ h9 => h9) dX3_beginsLine_97 ?_
            have q_v_3 : sg_2.1 10 = v_3 := OV.eqI (V := vw_TAPE) hw.2.2.1 o_p1 m_v_3 (by decide)
            refine lv_if_ne (tgt := 107) hx hb dX3_beginsLine_100 (by decide) (fun c_100 => ?_) (fun c_100 => ?_)
            · exact absurd (r_v_3.eq.trans rl_0.eq.symm) ((ti_ne c_100))
            · refine lv_iconst (v := 1) hx hb dX3_beginsLine_103 (by decide) ?_
              refine lv_goto (tgt := 108) hx hb dX3_beginsLine_104 (by decide) ?_
              simp only [f_X3_beginsLine__17, ↓reduceIte, eq_false c_4, eq_true c_11, eq_true c_26, eq_false c_63, eq_false c_77, q_sg_2, q_v_3, eq_true c_100] at hE
              subst hQ
              exact W.zret (v := 1) hx hb hr (rfl) (fun t ht hW => ⟨⟨1, ws, rfl, ⟨⟨⟨(by rw [hR, ← hE]; exact o_p0), (by rw [hR, ← hE]; exact o_p1), (by rw [hR, ← hE]), trivial⟩, rl_1.to (by decide), (fun _ => trivial), (fun h0 => ⟨⟨_, m_v_3, r_v_3⟩, trivial⟩)⟩, hw.1, hw.2.2.2.2.1⟩, by rw [ht]; exact hw.2.1, va_K.moved hW.alike hK, hw.2.2.1⟩, hw.2.2.2.1.F ht⟩) hw.2.2.2.1.2.2 dX3_beginsLine_108
          · have r_p2 : RI p2 136 132 := rc_eq1 r_p2 rl_136 (ti_eq c_77) (by decide)
            exact (r_p2.no (by decide)).elim
        · have r_p2 : RI p2 135 132 := rc_eq1 r_p2 rl_135 (ti_eq c_63) (by decide)
          exact (r_p2.no (by decide)).elim
      · have r_p2 : RI p2 132 131 := rc_le1 r_p2 rl_131 (ti_nlt c_26) (by decide)
        exact (r_p2.no (by decide)).elim
    · have r_p2 : RI p2 137 132 := rc_lt2 rl_136 r_p2 (ti_nle c_11) (by decide)
      exact (r_p2.no (by decide)).elim
abbrev wr_X3_numberOf__8 : List (Nat × Nat) := []
abbrev wa_X3_numberOf__8 : List Nat := []
set_option maxHeartbeats 4000000 in
set_option maxRecDepth 100000 in
theorem c_X3_numberOf__8 (l : Launch) (D : va_G) (cy : Nat → ClassId) (z : Nat → Nat) (sz : Nat) (Ps : PSI) (w0 : va_W) (hT : HT cy GG Ps w0) (p0 : Nat) (p1 : Int64) (p2 : Int32) (s0 : OS) (h_p0 : (p0, 25) ∈ Ps) (r_p1 : RJ p1 (-9223372036854775808) 9223372036854775807) (r_p2 : RI p2 2 2) (o_p0 : OV vw_POST Ps w0 p0 s0) : Met l yX3_numberOf (Cond.code yX3_numberOf cX3_numberOf 5 (some .int) :: gT) ({ frames := 0, cells := 0, slots := 0, locals := 200 } : Room) (va_Pc [.ref p0, .long p1, .int p2] (PRE D cy z w0 sz)) (va_Qi (fun (r : Int32) (u : Unit) => ((f_X3_numberOf__5 p1 p2 s0) = r ∧ True) ∧ (RI r (-1) 5 ∧ (r = 0 → True) ∧ (¬ r = 0 → True))) (BB D cy (va_A w0 sz) (fun (u : Unit) => w0)) (va_A w0 sz)) 0 0 (va_A w0 sz) := by
  refine Met.ofW (cc := cX3_numberOf) (maxL := 5) (ret := (some .int)) (by decide) rfl ?_
  intro p e s m args below meth c s₁ B hml hv
  obtain ⟨rfl, hsz, hP, hK, hD0, hSD⟩ := hv
  have hx := B.exec
  have hb := B.bytes
  have hr := B.returns
  have hlocks := B.notSynchronized
  have hts : ∀ w ∈ gT, w.before _ s = true := fun w h => atoms_spec (ws := Cond.code yX3_numberOf cX3_numberOf 5 (some .int) :: gT) B.pre w (List.mem_cons_of_mem _ h)
  have hown : s.vm.findClass RX3 = some m.cls := findClass_of_methodNamed B.named
  subst hsz
  have hD := hD0.self (sz := s.heap.size)
  generalize hAe : va_A w0 s.heap.size = A at hD hSD ⊢
  have hA : ∀ q : Nat, s.heap.size ≤ q → A q := fun q h => by rw [← hAe]; exact Or.inr h
  have hl := lv_entry ([.ref p0, .long p1, .int p2]) (n := 5) (Nat.le_of_ble_eq_true rfl)
  rw [lg_entry_eq]
  generalize (lg_sl ([.ref p0, .long p1, .int p2]) ++ List.replicate (5 - (lg_sl ([.ref p0, .long p1, .int p2])).length) Slot.unset).toArray = ls at hl ⊢
  have hl : lv_has ls 5 [(0, .ref p0), (1, .long p1), (3, .int p2)] := hl
  refine nameQ (fun Q hQ => ?_)
  have hw : WD D cy GG A s wr_X3_numberOf__8 wa_X3_numberOf__8 Ps w0 Ps w0 s.heap [] := ⟨hT, hP, hD, va_S.rf, FR.rf, hT.1, [], (List.append_nil _).symm⟩
  obtain ⟨R9, hR⟩ : ∃ q9 : Int32, f_X3_numberOf__5 p1 p2 s0 = q9 := ⟨_, rfl⟩
  have hE := hR
  have B3 : ∀ (nf : Nat) (x4 : Int32) (s0 : OS) (H : Heap) (locs : List Loc) (ls : Array Slot), 6 - x4.toInt < (nf : Int) → RJ p1 (-9223372036854775808) 9223372036854775807 → RI p2 2 2 → RI x4 0 6 → OV vw_POST Ps w0 p0 s0 → f_X3_numberOf__5_3 p1 p2 nf x4 s0 = R9 → WD D cy GG A s wr_X3_numberOf__8 wa_X3_numberOf__8 Ps w0 Ps w0 H locs → lv_has ls 5 [(0, .ref p0), (1, .long p1), (3, .int p2), (4, .int x4)] → W p l e (headSpec (Cond.code yX3_numberOf cX3_numberOf 5 (some .int) :: gT) ({ frames := 0, cells := 0, slots := 0, locals := 200 } : Room)).room s m ([.ref p0, .long p1, .int p2] : List Value).toArray below meth c H locs 0 0 Q (F0 m 3 ls []) := by
    intro nf3
    induction nf3 with
    | zero =>
      intro x4 s0 H locs ls hn3 r_p1 r_p2 r_x4 o_p0 hE hw hl
      exact absurd hn3 (by have q0 := r_x4.1; have u0 := r_x4.2; omega)
    | succ nf3 ih3 =>
      intro x4 s0 H locs ls hn3 r_p1 r_p2 r_x4 o_p0 hE hw hl
      refine lv_iload hx hb dX3_numberOf_3 (lv_at hl 3 rfl) ?_
      refine lv_aload_n hx hb dX3_numberOf_5 rfl (lv_at hl 0 rfl) ?_
      refine tg_get (ci := 3) (ts := ty_POST) (C := RX3) (T := TX3) (N := 9) hx hb hts inX3 hown hK hw h_p0 rfl rfl 1 (by decide) (hts _ tw_201) (fun _ h9 => h9) (ft := vR 4) rfl dX3_numberOf_6 (fun u_1 hv_u_1 m_u_1 => ?_)
      obtain ⟨vu_1, rfl, h_vu_1⟩ := hv_u_1
      refine lv_iload_n hx hb dX3_numberOf_9 rfl (lv_at hl 2 rfl) ?_
      refine tg_iald (lo := 0) (hi := 6) hx hb hK hw h_vu_1 rfl 2 2 r_p2 (by decide) (by decide +kernel) dX3_numberOf_10 (fun v_2 r_v_2 m_v_2 o_v_2 => ?_)
      have q_v_2 : s0.2.2.1 1 (Int32.toNatClampNeg p2) = v_2 := OV.eqA (V := vw_POST) (t := 4) hw.2.2.1 o_p0 m_u_1 m_v_2 (by decide)
      refine lv_icmp_ge (tgt := 40) hx hb dX3_numberOf_11 (by decide) (fun c_11 => ?_) (fun c_11 => ?_)
      · refine lv_iconst (v := (-1)) hx hb dX3_numberOf_40 (by decide) ?_
        simp only [f_X3_numberOf__5_3, ↓reduceIte, q_v_2, eq_true c_11] at hE
        subst hQ
        exact W.iret (v := (-1)) hx hb hr (fun t ht hW => ⟨⟨(-1), (), rfl, ⟨⟨(by rw [hR, ← hE]), trivial⟩, rl_m1.to (by decide), (fun _ => trivial), (fun h0 => trivial)⟩, by rw [ht]; exact hw.2.1, va_K.moved hW.alike hK, hw.2.2.1⟩, hw.2.2.2.1.F ht⟩) hw.2.2.2.1.2.2 dX3_numberOf_41
      · have r_x4 : RI x4 0 5 := rc_lt1 r_x4 r_v_2 (ti_nle c_11) (by decide)
        have r_v_2 : RI v_2 1 6 := rc_lt2 r_x4 r_v_2 (ti_nle c_11) (by decide)
        refine lv_aload_n hx hb dX3_numberOf_14 rfl (lv_at hl 0 rfl) ?_
        refine tg_get (ci := 3) (ts := ty_POST) (C := RX3) (T := TX3) (N := 9) hx hb hts inX3 hown hK hw h_p0 rfl rfl 0 (by decide) (hts _ tw_200) (fun _ h9 => h9) (ft := vR 1) rfl dX3_numberOf_15 (fun u_3 hv_u_3 m_u_3 => ?_)
        obtain ⟨vu_3, rfl, h_vu_3⟩ := hv_u_3
        refine lv_iload_n hx hb dX3_numberOf_18 rfl (lv_at hl 2 rfl) ?_
        refine lv_bipush (v := 8) hx hb dX3_numberOf_19 (by decide) ?_
        refine lv_imul hx hb dX3_numberOf_21 (lv_topi (fun v_4 e_v_4 => ?_))
        obtain ⟨t_v_4, r_v_4⟩ := tq_mul (lo := 16) (hi := 16) r_p2 rl_8 (by decide +kernel) e_v_4
        have t_v_4 : v_4.toInt = p2.toInt * 8 := t_v_4
        have q_v_4 : p2 * (8 : Int32) = v_4 := e_v_4.symm
        refine lv_iload hx hb dX3_numberOf_22 (lv_at hl 3 rfl) ?_
        refine lv_iadd hx hb dX3_numberOf_24 (lv_topi (fun v_5 e_v_5 => ?_))
        obtain ⟨t_v_5, r_v_5⟩ := tq_add (lo := 16) (hi := 21) r_v_4 r_x4 (by decide +kernel) e_v_5
        have q_v_5 : v_4 + x4 = v_5 := e_v_5.symm
        refine tg_laldE hx hb hK hw h_vu_3 rfl r_v_5 (by decide) dX3_numberOf_25 (fun w_6 r_w_6 l_w_6 => ?_)
        have q_w_6 : s0.2.2.2 0 (Int32.toNatClampNeg v_5) = w_6 := OV.eqB (V := vw_POST) (t := 1) hw.2.2.1 o_p0 m_u_3 l_w_6 (by decide)
        refine lv_lload_n hx hb dX3_numberOf_26 rfl (lv_at hl 1 rfl) ?_
        refine W.lcmp hx hb dX3_numberOf_27 (lv_topi (fun v_7 e_v_7 => ?_))
        have r_v_7 := ri_any v_7
        have q_v_7 : lg_cmp w_6 p1 = v_7 := e_v_7.symm
        refine lv_if_ne (tgt := 34) hx hb dX3_numberOf_28 (by decide) (fun c_28 => ?_) (fun c_28 => ?_)
        · obtain ⟨v_8, e_v_8⟩ : ∃ q9 : Int32, q9 = x4 + Int32.ofInt 1 := ⟨_, rfl⟩
          obtain ⟨t_v_8, r_v_8⟩ := tq_add (lo := 1) (hi := 6) r_x4 (show RI (Int32.ofInt 1) 1 1 by unfold RI; decide +kernel) (by decide +kernel) e_v_8
          have t_v_8 : v_8.toInt = x4.toInt + 1 := t_v_8
          refine lv_iinc (v := v_8) (lv' := [(4, .int v_8), (0, .ref p0), (1, .long p1), (3, .int p2)]) hx hb dX3_numberOf_34 hl (k := 3) rfl e_v_8.symm (by decide) rfl (fun ls hl => ?_)
          have q_v_8 : x4 + (1 : Int32) = v_8 := by rw [e_v_8, show Int32.ofInt 1 = (1 : Int32) by decide]
          refine lv_goto (tgt := 3) hx hb dX3_numberOf_37 (by decide) ?_
          simp only [f_X3_numberOf__5_3, ↓reduceIte, q_v_2, eq_false c_11, q_v_4, q_v_5, q_w_6, q_v_7, eq_false c_28, q_v_8] at hE
          exact ih3 v_8 s0 _ _ ls (by have q0 := r_v_8.1; have u0 := r_v_8.2; have o0 := r_x4.1; have p0 := r_x4.2; omega) r_p1 r_p2 (r_v_8.to (by decide)) o_p0 hE hw (lv_sub hl [1, 2, 3, 0] rfl)
        · have r_v_7 : RI v_7 0 0 := rc_eq1 r_v_7 rl_0 (ti_eq c_28) (by decide)
          refine lv_iload hx hb dX3_numberOf_31 (lv_at hl 3 rfl) ?_
          simp only [f_X3_numberOf__5_3, ↓reduceIte, q_v_2, eq_false c_11, q_v_4, q_v_5, q_w_6, q_v_7, eq_true c_28] at hE
          subst hQ
          exact W.iret (v := x4) hx hb hr (fun t ht hW => ⟨⟨x4, (), rfl, ⟨⟨(by rw [hR, ← hE]), trivial⟩, r_x4.to (by decide), (fun h0 => trivial), (fun h0 => trivial)⟩, by rw [ht]; exact hw.2.1, va_K.moved hW.alike hK, hw.2.2.1⟩, hw.2.2.2.1.F ht⟩) hw.2.2.2.1.2.2 dX3_numberOf_33
  refine lv_iconst (v := 0) hx hb dX3_numberOf_0 (by decide) ?_
  refine lv_istore (lv' := [(4, .int 0), (0, .ref p0), (1, .long p1), (3, .int p2)]) hx hb dX3_numberOf_1 hl (by decide) rfl (fun ls hl => ?_)
  simp only [f_X3_numberOf__5, ↓reduceIte] at hE
  exact B3 4294967298 0 s0 _ _ ls (by have q0 := rl_0.1; have u0 := rl_0.2; omega) r_p1 r_p2 (rl_0.to (by decide)) o_p0 hE hw (lv_sub hl [1, 2, 3, 0] rfl)
abbrev wr_X7_nameAhead__16 : List (Nat × Nat) := [(7, 10), (7, 11)]
abbrev wa_X7_nameAhead__16 : List Nat := []
set_option maxHeartbeats 4000000 in
set_option maxRecDepth 100000 in
theorem c_X7_nameAhead__16 (l : Launch) (D : va_G) (cy : Nat → ClassId) (z : Nat → Nat) (sz : Nat) (Ps : PSI) (w0 : va_W) (hT : HT cy GG Ps w0) (p0 : Nat) (p1 : Nat) (p2 : Int32) (s0 : OS) (s1 : OS) (h_p0 : (p0, 26) ∈ Ps) (h_p1 : (p1, 25) ∈ Ps) (r_p2 : RI p2 2 2) (o_p0 : OV vw_TAPE Ps w0 p0 s0) (o_p1 : OV vw_POST Ps w0 p1 s1) : Met l yX7_nameAhead (Cond.code yX7_nameAhead cX7_nameAhead 4 (some .int) :: gT) ({ frames := 2, cells := 0, slots := 0, locals := 400 } : Room) (va_Pc [.ref p0, .ref p1, .int p2] (PRE D cy z w0 sz)) (va_Qi (fun (r : Int32) (u : va_W) => ((OV vw_TAPE Ps u p0 ((f_X7_nameAhead__13 p2 s0 s1).1) ∧ OV vw_POST Ps u p1 ((f_X7_nameAhead__13 p2 s0 s1).2.1) ∧ (f_X7_nameAhead__13 p2 s0 s1).2.2 = r ∧ True) ∧ (RI r (-1) 5 ∧ (r = 0 → True) ∧ (¬ r = 0 → True) ∧ (True) ∧ (r.toInt < 0 → FLTp u p0 ∧ True) ∧ (0 ≤ r.toInt → True))) ∧ HT cy GG Ps u ∧ FR wr_X7_nameAhead__16 wa_X7_nameAhead__16 Ps w0 u) (BB D cy (va_A w0 sz) (fun (u : va_W) => u)) (va_A w0 sz)) 0 0 (va_A w0 sz) := by
  refine Met.ofW (cc := cX7_nameAhead) (maxL := 4) (ret := (some .int)) (by decide) rfl ?_
  intro p e s m args below meth c s₁ B hml hv
  obtain ⟨rfl, hsz, hP, hK, hD0, hSD⟩ := hv
  have hx := B.exec
  have hb := B.bytes
  have hr := B.returns
  have hlocks := B.notSynchronized
  have hts : ∀ w ∈ gT, w.before _ s = true := fun w h => atoms_spec (ws := Cond.code yX7_nameAhead cX7_nameAhead 4 (some .int) :: gT) B.pre w (List.mem_cons_of_mem _ h)
  have hown : s.vm.findClass RX7 = some m.cls := findClass_of_methodNamed B.named
  subst hsz
  have hD := hD0.self (sz := s.heap.size)
  generalize hAe : va_A w0 s.heap.size = A at hD hSD ⊢
  have hA : ∀ q : Nat, s.heap.size ≤ q → A q := fun q h => by rw [← hAe]; exact Or.inr h
  have hl := lv_entry ([.ref p0, .ref p1, .int p2]) (n := 4) (Nat.le_of_ble_eq_true rfl)
  rw [lg_entry_eq]
  generalize (lg_sl ([.ref p0, .ref p1, .int p2]) ++ List.replicate (4 - (lg_sl ([.ref p0, .ref p1, .int p2])).length) Slot.unset).toArray = ls at hl ⊢
  have hl : lv_has ls 4 [(0, .ref p0), (1, .ref p1), (2, .int p2)] := hl
  refine nameQ (fun Q hQ => ?_)
  have hw : WD D cy GG A s wr_X7_nameAhead__16 wa_X7_nameAhead__16 Ps w0 Ps w0 s.heap [] := ⟨hT, hP, hD, va_S.rf, FR.rf, hT.1, [], (List.append_nil _).symm⟩
  obtain ⟨R9, hR⟩ : ∃ q9 : OS × OS × Int32, f_X7_nameAhead__13 p2 s0 s1 = q9 := ⟨_, rfl⟩
  have hE := hR
  refine lv_aload_n hx hb dX7_nameAhead_0 rfl (lv_at hl 0 rfl) ?_
  refine tg_get (ci := 7) (ts := ty_TAPE) (C := RX7) (T := TX7) (N := 12) hx hb hts inX7 hown hK hw h_p0 rfl rfl 7 (by decide) (hts _ tw_98) (fun _ h9 => h9) (ft := vI (-2147483648) 2147483647) rfl dX7_nameAhead_1 (fun u_1 hv_u_1 m_u_1 => ?_)
  obtain ⟨vu_1, rfl, r_vu_1⟩ := hv_u_1
  have q_vu_1 : s0.1 7 = vu_1 := OV.eqI (V := vw_TAPE) hw.2.2.1 o_p0 m_u_1 (by decide)
  refine lv_iconst (v := 2) hx hb dX7_nameAhead_4 (by decide) ?_
  refine lv_icmp_eq (tgt := 15) hx hb dX7_nameAhead_5 (by decide) (fun c_5 => ?_) (fun c_5 => ?_)
  · have r_vu_1 : RI vu_1 2 2 := rc_eq1 r_vu_1 rl_2 (ti_eq c_5) (by decide)
    refine lv_aload_n hx hb dX7_nameAhead_15 rfl (lv_at hl 1 rfl) ?_
    refine lv_aload_n hx hb dX7_nameAhead_16 rfl (lv_at hl 0 rfl) ?_
    refine tg_get (ci := 7) (ts := ty_TAPE) (C := RX7) (T := TX7) (N := 12) hx hb hts inX7 hown hK hw h_p0 rfl rfl 8 (by decide) (hts _ tw_100) (fun _ h9 => h9) (ft := vJ (-9223372036854775808) 9223372036854775807) rfl dX7_nameAhead_17 (fun u_2 hv_u_2 m_u_2 => ?_)
    obtain ⟨vu_2, rfl, r_vu_2⟩ := hv_u_2
    have q_vu_2 : s0.2.1 8 = vu_2 := OV.eqL (V := vw_TAPE) hw.2.2.1 o_p0 m_u_2 (by decide)
    refine lv_iload_n hx hb dX7_nameAhead_20 rfl (lv_at hl 2 rfl) ?_
    refine tk_ir (va_runV (As := [.long vu_2, .int p2]) (rest := []) ⟨hx, hb, hml, hown, hts⟩ (c_X3_numberOf__8 l D cy z s.heap.size Ps w0 hw.1 p1 vu_2 p2 s1 h_p1 r_vu_2 r_p2 o_p1) (cwV 2 hts (gV tw_460 tw_461 tw_462 tw_11 tw_463) rfl rfl rfl (by decide +kernel) ⟨Nat.le_of_ble_eq_true rfl, Nat.le_of_ble_eq_true rfl⟩) (tg_preV hw hK hSD hA (ci := 3) (q := (RX3, TX3, 9)) rfl h_p1 rfl) rfl rfl hl.1 rfl (lv_room (Nat.le_of_ble_eq_true rfl)) dX7_nameAhead_21 ⟨Nat.le_of_ble_eq_true rfl, Nat.le_of_ble_eq_true rfl⟩) hw hA (fun v_3  H locs hp_v_3 hw => ?_)
    obtain ⟨hfn, hp_v_3⟩ := hp_v_3
    have q_v_3 : (f_X3_numberOf__5 vu_2 p2 s1) = v_3 := hfn.1
    have r_v_3 : RI v_3 (-1) 5 := hp_v_3.1
    refine lv_istore_n (lv' := [(3, .int v_3), (0, .ref p0), (1, .ref p1), (2, .int p2)]) hx hb dX7_nameAhead_24 rfl hl (by decide) rfl (fun ls hl => ?_)
    refine lv_iload_n hx hb dX7_nameAhead_25 rfl (lv_at hl 0 rfl) ?_
    refine lv_iconst (v := (-1)) hx hb dX7_nameAhead_26 (by decide) ?_
    refine lv_icmp_ne (tgt := 35) hx hb dX7_nameAhead_27 (by decide) (fun c_27 => ?_) (fun c_27 => ?_)
    · have r_v_3 : RI v_3 0 5 := rc_neL r_v_3 rl_m1 (ti_ne c_27) (by decide)
      refine lv_aload_n hx hb dX7_nameAhead_35 rfl (lv_at hl 1 rfl) ?_
      refine tg_get (ci := 7) (ts := ty_TAPE) (C := RX7) (T := TX7) (N := 12) hx hb hts inX7 hown hK hw h_p0 rfl rfl 10 (by decide) (hts _ tw_104) (fun _ h9 => h9) (ft := vI 0 4) rfl dX7_nameAhead_36 (fun u_4 hv_u_4 m_u_4 => ?_)
      obtain ⟨vu_4, rfl, r_vu_4⟩ := hv_u_4
      have q_vu_4 : s0.1 10 = vu_4 := OV.eqI (V := vw_TAPE) hw.2.2.1 o_p0 m_u_4 (by decide)
      refine lv_if_ne (tgt := 46) hx hb dX7_nameAhead_39 (by decide) (fun c_39 => ?_) (fun c_39 => ?_)
      · have r_vu_4 : RI vu_4 1 4 := rc_neL r_vu_4 rl_0 (ti_ne c_39) (by decide)
        refine lv_iconst (v := (-1)) hx hb dX7_nameAhead_46 (by decide) ?_
        simp only [f_X7_nameAhead__13, ↓reduceIte, q_vu_1, eq_true c_5, q_vu_2, q_v_3, eq_false c_27, q_vu_4, eq_false c_39] at hE
        subst hQ
        have x_FLT_p0 : FLTp w0 p0 := ⟨_, m_u_4, r_vu_4.to (by decide)⟩
        exact W.iret (v := (-1)) hx hb hr (fun t ht hW => ⟨⟨(-1), w0, rfl, ⟨⟨⟨(by rw [hR, ← hE]; exact o_p0), (by rw [hR, ← hE]; exact o_p1), (by rw [hR, ← hE]), trivial⟩, rl_m1.to (by decide), (fun _ => trivial), (fun h0 => trivial), trivial, (fun h0 => ⟨x_FLT_p0, trivial⟩), (fun _ => trivial)⟩, hw.1, hw.2.2.2.2.1⟩, by rw [ht]; exact hw.2.1, va_K.moved hW.alike hK, hw.2.2.1⟩, hw.2.2.2.1.F ht⟩) hw.2.2.2.1.2.2 dX7_nameAhead_47
      · have r_vu_4 : RI vu_4 0 0 := rc_eq1 r_vu_4 rl_0 (ti_eq c_39) (by decide)
        refine lv_iload_n hx hb dX7_nameAhead_42 rfl (lv_at hl 0 rfl) ?_
        refine lv_goto (tgt := 47) hx hb dX7_nameAhead_43 (by decide) ?_
        simp only [f_X7_nameAhead__13, ↓reduceIte, q_vu_1, eq_true c_5, q_vu_2, q_v_3, eq_false c_27, q_vu_4, eq_true c_39] at hE
        subst hQ
        exact W.iret (v := v_3) hx hb hr (fun t ht hW => ⟨⟨v_3, w0, rfl, ⟨⟨⟨(by rw [hR, ← hE]; exact o_p0), (by rw [hR, ← hE]; exact o_p1), (by rw [hR, ← hE]), trivial⟩, r_v_3.to (by decide), (fun h0 => trivial), (fun h0 => trivial), trivial, (fun h0 => absurd h0 (by have h8 := r_v_3; unfold RI at h8; omega)), (fun _ => trivial)⟩, hw.1, hw.2.2.2.2.1⟩, by rw [ht]; exact hw.2.1, va_K.moved hW.alike hK, hw.2.2.1⟩, hw.2.2.2.1.F ht⟩) hw.2.2.2.1.2.2 dX7_nameAhead_47
    · have r_v_3 : RI v_3 (-1) (-1) := rc_eq1 r_v_3 rl_m1 (ti_eq c_27) (by decide)
      refine lv_aload_n hx hb dX7_nameAhead_30 rfl (lv_at hl 1 rfl) ?_
      refine lv_iconst (v := 3) hx hb dX7_nameAhead_31 (by decide) ?_
      refine tk_v (va_runV (As := [.int 3]) (rest := []) ⟨hx, hb, hml, hown, hts⟩ (c_X7_refuse__4 l D cy z H.size Ps w0 hw.1 p0 3 s0 h_p0 (rl_3.to (by decide)) o_p0) (cwV 1 hts (gV tw_442 tw_443 tw_444 tw_2 tw_445) rfl rfl rfl (by decide +kernel) ⟨Nat.le_of_ble_eq_true rfl, Nat.le_of_ble_eq_true rfl⟩) (tg_preV hw hK hSD hA (ci := 7) (q := (RX7, TX7, 12)) rfl h_p0 rfl) rfl rfl hl.1 rfl (lv_room (Nat.le_of_ble_eq_true rfl)) dX7_nameAhead_32 ⟨Nat.le_of_ble_eq_true rfl, Nat.le_of_ble_eq_true rfl⟩) hw hA ⟨by decide, by decide⟩ (fun ws H locs hp_v_5 hw hF9 => ?_)
      have m_u_1 := FLD.over hF9 m_u_1 (by decide)
      have m_u_2 := FLD.over hF9 m_u_2 (by decide)
      obtain ⟨hfn, hp_v_5⟩ := hp_v_5
      have o_p1 := OV.over (V := vw_POST) hF9 o_p1 (by decide)
      obtain ⟨sg_6, q_sg_6⟩ : ∃ q9 : OS, (f_X7_refuse__4 (3 : Int32) s0) = q9 := ⟨_, rfl⟩
      have o_p0 : OV vw_TAPE Ps ws p0 sg_6 := by rw [← q_sg_6]; exact hfn.1
      obtain ⟨v_7, m_v_7, r_v_7⟩ := (hp_v_5.1)
      refine lv_aload_n hx hb dX7_nameAhead_35 rfl (lv_at hl 1 rfl) ?_
      refine tg_mem (ci := 7) (C := RX7) (T := TX7) (N := 12) hx hb hts inX7 hown hK hw 10 m_v_7 rfl (by decide) (hts _ tw_104) (fun _ h9 => h9) dX7_nameAhead_36 ?_
      have q_v_7 : sg_6.1 10 = v_7 := OV.eqI (V := vw_TAPE) hw.2.2.1 o_p0 m_v_7 (by decide)
      refine lv_if_ne (tgt := 46) hx hb dX7_nameAhead_39 (by decide) (fun c_39 => ?_) (fun c_39 => ?_)
      · refine lv_iconst (v := (-1)) hx hb dX7_nameAhead_46 (by decide) ?_
        simp only [f_X7_nameAhead__13, ↓reduceIte, q_vu_1, eq_true c_5, q_vu_2, q_v_3, eq_true c_27, q_sg_6, q_v_7, eq_false c_39] at hE
        subst hQ
        have x_FLT_p0 : FLTp ws p0 := ⟨_, m_v_7, r_v_7.to (by decide)⟩
        exact W.iret (v := (-1)) hx hb hr (fun t ht hW => ⟨⟨(-1), ws, rfl, ⟨⟨⟨(by rw [hR, ← hE]; exact o_p0), (by rw [hR, ← hE]; exact o_p1), (by rw [hR, ← hE]), trivial⟩, rl_m1.to (by decide), (fun _ => trivial), (fun h0 => trivial), trivial, (fun h0 => ⟨x_FLT_p0, trivial⟩), (fun _ => trivial)⟩, hw.1, hw.2.2.2.2.1⟩, by rw [ht]; exact hw.2.1, va_K.moved hW.alike hK, hw.2.2.1⟩, hw.2.2.2.1.F ht⟩) hw.2.2.2.1.2.2 dX7_nameAhead_47
      · have r_v_7 : RI v_7 1 0 := rc_eq1 r_v_7 rl_0 (ti_eq c_39) (by decide)
        exact (r_v_7.no (by decide)).elim
  · refine lv_aload_n hx hb dX7_nameAhead_8 rfl (lv_at hl 0 rfl) ?_
    refine lv_iconst (v := 1) hx hb dX7_nameAhead_9 (by decide) ?_
    refine tk_v (va_runV (As := [.int 1]) (rest := []) ⟨hx, hb, hml, hown, hts⟩ (c_X7_refuse__4 l D cy z s.heap.size Ps w0 hw.1 p0 1 s0 h_p0 (rl_1.to (by decide)) o_p0) (cwV 1 hts (gV tw_442 tw_443 tw_444 tw_2 tw_445) rfl rfl rfl (by decide +kernel) ⟨Nat.le_of_ble_eq_true rfl, Nat.le_of_ble_eq_true rfl⟩) (tg_preV hw hK hSD hA (ci := 7) (q := (RX7, TX7, 12)) rfl h_p0 rfl) rfl rfl hl.1 rfl (lv_room (Nat.le_of_ble_eq_true rfl)) dX7_nameAhead_10 ⟨Nat.le_of_ble_eq_true rfl, Nat.le_of_ble_eq_true rfl⟩) hw hA ⟨by decide, by decide⟩ (fun ws H locs hp_v_8 hw hF9 => ?_)
    have m_u_1 := FLD.over hF9 m_u_1 (by decide)
    obtain ⟨hfn, hp_v_8⟩ := hp_v_8
    have o_p1 := OV.over (V := vw_POST) hF9 o_p1 (by decide)
    obtain ⟨sg_9, q_sg_9⟩ : ∃ q9 : OS, (f_X7_refuse__4 (1 : Int32) s0) = q9 := ⟨_, rfl⟩
    have o_p0 : OV vw_TAPE Ps ws p0 sg_9 := by rw [← q_sg_9]; exact hfn.1
    obtain ⟨v_10, m_v_10, r_v_10⟩ := (hp_v_8.1)
    refine lv_iconst (v := (-1)) hx hb dX7_nameAhead_13 (by decide) ?_
    simp only [f_X7_nameAhead__13, ↓reduceIte, q_vu_1, eq_false c_5, q_sg_9] at hE
    subst hQ
    have x_FLT_p0 : FLTp ws p0 := ⟨_, m_v_10, r_v_10.to (by decide)⟩
    exact W.iret (v := (-1)) hx hb hr (fun t ht hW => ⟨⟨(-1), ws, rfl, ⟨⟨⟨(by rw [hR, ← hE]; exact o_p0), (by rw [hR, ← hE]; exact o_p1), (by rw [hR, ← hE]), trivial⟩, rl_m1.to (by decide), (fun _ => trivial), (fun h0 => trivial), trivial, (fun h0 => ⟨x_FLT_p0, trivial⟩), (fun _ => trivial)⟩, hw.1, hw.2.2.2.2.1⟩, by rw [ht]; exact hw.2.1, va_K.moved hW.alike hK, hw.2.2.1⟩, hw.2.2.2.1.F ht⟩) hw.2.2.2.1.2.2 dX7_nameAhead_14
abbrev wr_X7_takeName__15 : List (Nat × Nat) := [(7, 5), (7, 6), (7, 7), (7, 8), (7, 9), (7, 10), (7, 11)]
abbrev wa_X7_takeName__15 : List Nat := []
set_option maxHeartbeats 4000000 in
set_option maxRecDepth 100000 in
theorem c_X7_takeName__15 (l : Launch) (D : va_G) (cy : Nat → ClassId) (z : Nat → Nat) (sz : Nat) (Ps : PSI) (w0 : va_W) (hT : HT cy GG Ps w0) (p0 : Nat) (p1 : Nat) (p2 : Int32) (s0 : OS) (s1 : OS) (h_p0 : (p0, 26) ∈ Ps) (h_p1 : (p1, 25) ∈ Ps) (r_p2 : RI p2 2 2) (o_p0 : OV vw_TAPE Ps w0 p0 s0) (o_p1 : OV vw_POST Ps w0 p1 s1) : Met l yX7_takeName (Cond.code yX7_takeName cX7_takeName 4 (some .int) :: gT) ({ frames := 3, cells := 0, slots := 0, locals := 600 } : Room) (va_Pc [.ref p0, .ref p1, .int p2] (PRE D cy z w0 sz)) (va_Qi (fun (r : Int32) (u : va_W) => ((OV vw_TAPE Ps u p0 ((f_X7_takeName__12 p2 s0 s1).1) ∧ OV vw_POST Ps u p1 ((f_X7_takeName__12 p2 s0 s1).2.1) ∧ (f_X7_takeName__12 p2 s0 s1).2.2 = r ∧ True) ∧ (RI r (-1) 5 ∧ (r = 0 → True) ∧ (¬ r = 0 → True) ∧ (True) ∧ (r.toInt < 0 → FLTp u p0 ∧ True) ∧ (0 ≤ r.toInt → True))) ∧ HT cy GG Ps u ∧ FR wr_X7_takeName__15 wa_X7_takeName__15 Ps w0 u) (BB D cy (va_A w0 sz) (fun (u : va_W) => u)) (va_A w0 sz)) 0 0 (va_A w0 sz) := by
  refine Met.ofW (cc := cX7_takeName) (maxL := 4) (ret := (some .int)) (by decide) rfl ?_
  intro p e s m args below meth c s₁ B hml hv
  obtain ⟨rfl, hsz, hP, hK, hD0, hSD⟩ := hv
  have hx := B.exec
  have hb := B.bytes
  have hr := B.returns
  have hlocks := B.notSynchronized
  have hts : ∀ w ∈ gT, w.before _ s = true := fun w h => atoms_spec (ws := Cond.code yX7_takeName cX7_takeName 4 (some .int) :: gT) B.pre w (List.mem_cons_of_mem _ h)
  have hown : s.vm.findClass RX7 = some m.cls := findClass_of_methodNamed B.named
  subst hsz
  have hD := hD0.self (sz := s.heap.size)
  generalize hAe : va_A w0 s.heap.size = A at hD hSD ⊢
  have hA : ∀ q : Nat, s.heap.size ≤ q → A q := fun q h => by rw [← hAe]; exact Or.inr h
  have hl := lv_entry ([.ref p0, .ref p1, .int p2]) (n := 4) (Nat.le_of_ble_eq_true rfl)
  rw [lg_entry_eq]
  generalize (lg_sl ([.ref p0, .ref p1, .int p2]) ++ List.replicate (4 - (lg_sl ([.ref p0, .ref p1, .int p2])).length) Slot.unset).toArray = ls at hl ⊢
  have hl : lv_has ls 4 [(0, .ref p0), (1, .ref p1), (2, .int p2)] := hl
  refine nameQ (fun Q hQ => ?_)
  have hw : WD D cy GG A s wr_X7_takeName__15 wa_X7_takeName__15 Ps w0 Ps w0 s.heap [] := ⟨hT, hP, hD, va_S.rf, FR.rf, hT.1, [], (List.append_nil _).symm⟩
  obtain ⟨R9, hR⟩ : ∃ q9 : OS × OS × Int32, f_X7_takeName__12 p2 s0 s1 = q9 := ⟨_, rfl⟩
  have hE := hR
  refine lv_aload_n hx hb dX7_takeName_0 rfl (lv_at hl 0 rfl) ?_
  refine lv_aload_n hx hb dX7_takeName_1 rfl (lv_at hl 1 rfl) ?_
  refine lv_iload_n hx hb dX7_takeName_2 rfl (lv_at hl 2 rfl) ?_
  refine tk_i (va_runV (As := [.ref p1, .int p2]) (rest := []) ⟨hx, hb, hml, hown, hts⟩ (c_X7_nameAhead__16 l D cy z s.heap.size Ps w0 hw.1 p0 p1 p2 s0 s1 h_p0 h_p1 r_p2 o_p0 o_p1) (cwV 2 hts (gV tw_468 tw_457 tw_458 tw_2 tw_459) rfl rfl rfl (by decide +kernel) ⟨Nat.le_of_ble_eq_true rfl, Nat.le_of_ble_eq_true rfl⟩) (tg_preV hw hK hSD hA (ci := 7) (q := (RX7, TX7, 12)) rfl h_p0 rfl) rfl rfl hl.1 rfl (lv_room (Nat.le_of_ble_eq_true rfl)) dX7_takeName_3 ⟨Nat.le_of_ble_eq_true rfl, Nat.le_of_ble_eq_true rfl⟩) hw hA ⟨by decide, by decide⟩ (fun v_1 ws H locs hp_v_1 hw hF9 => ?_)
  obtain ⟨hfn, hp_v_1⟩ := hp_v_1
  obtain ⟨sg_2, q_sg_2⟩ : ∃ q9 : OS, (f_X7_nameAhead__13 p2 s0 s1).1 = q9 := ⟨_, rfl⟩
  have o_p0 : OV vw_TAPE Ps ws p0 sg_2 := by rw [← q_sg_2]; exact hfn.1
  obtain ⟨sg_3, q_sg_3⟩ : ∃ q9 : OS, (f_X7_nameAhead__13 p2 s0 s1).2.1 = q9 := ⟨_, rfl⟩
  have o_p1 : OV vw_POST Ps ws p1 sg_3 := by rw [← q_sg_3]; exact hfn.2.1
  have q_v_1 : (f_X7_nameAhead__13 p2 s0 s1).2.2 = v_1 := hfn.2.2.1
  have r_v_1 : RI v_1 (-1) 5 := hp_v_1.1
  by_cases c9_v_1 : v_1.toInt < 0
  · have r_v_1 : RI v_1 (-1) (-1) := by unfold RI at r_v_1 ⊢; omega
    have x_FLT_p0 := (hp_v_1.2.2.2.2.1 (by omega)).1
    obtain ⟨v_4, m_v_4, r_v_4⟩ := id x_FLT_p0
    refine lv_istore_n (lv' := [(3, .int v_1), (0, .ref p0), (1, .ref p1), (2, .int p2)]) hx hb dX7_takeName_6 rfl hl (by decide) rfl (fun ls hl => ?_)
    refine lv_aload_n hx hb dX7_takeName_7 rfl (lv_at hl 1 rfl) ?_
    refine tk_vr (va_runV (As := []) (rest := []) ⟨hx, hb, hml, hown, hts⟩ (c_X7_pass__4 l D cy z H.size Ps ws hw.1 p0 v_4 sg_2 h_p0 r_v_4 m_v_4 o_p0) (cwV 0 hts (gV tw_424 tw_425 tw_426 tw_2 tw_427) rfl rfl rfl (by decide +kernel) ⟨Nat.le_of_ble_eq_true rfl, Nat.le_of_ble_eq_true rfl⟩) (tg_preV hw hK hSD hA (ci := 7) (q := (RX7, TX7, 12)) rfl h_p0 rfl) rfl rfl hl.1 rfl (lv_room (Nat.le_of_ble_eq_true rfl)) dX7_takeName_8 ⟨Nat.le_of_ble_eq_true rfl, Nat.le_of_ble_eq_true rfl⟩) hw hA (fun  H locs hp_v_5 hw => ?_)
    obtain ⟨hfn, hp_v_5⟩ := hp_v_5
    refine lv_iload_n hx hb dX7_takeName_11 rfl (lv_at hl 0 rfl) ?_
    simp only [f_X7_takeName__12, ↓reduceIte, q_sg_2, q_sg_3, q_v_1, eq_true c9_v_1] at hE
    subst hQ
    exact W.iret (v := v_1) hx hb hr (fun t ht hW => ⟨⟨v_1, ws, rfl, ⟨⟨⟨(by rw [hR, ← hE]; exact o_p0), (by rw [hR, ← hE]; exact o_p1), (by rw [hR, ← hE]), trivial⟩, r_v_1.to (by decide), (fun _ => trivial), (fun h0 => trivial), trivial, (fun h0 => ⟨x_FLT_p0, trivial⟩), (fun _ => trivial)⟩, hw.1, hw.2.2.2.2.1⟩, by rw [ht]; exact hw.2.1, va_K.moved hW.alike hK, hw.2.2.1⟩, hw.2.2.2.1.F ht⟩) hw.2.2.2.1.2.2 dX7_takeName_12
  · have r_v_1 : RI v_1 0 5 := by unfold RI at r_v_1 ⊢; omega
    refine lv_istore_n (lv' := [(3, .int v_1), (0, .ref p0), (1, .ref p1), (2, .int p2)]) hx hb dX7_takeName_6 rfl hl (by decide) rfl (fun ls hl => ?_)
    refine lv_aload_n hx hb dX7_takeName_7 rfl (lv_at hl 1 rfl) ?_
    refine tk_v (va_runV (As := []) (rest := []) ⟨hx, hb, hml, hown, hts⟩ (c_X7_pass__6 l D cy z H.size Ps ws hw.1 p0 sg_2 h_p0 o_p0) (cwV 0 hts (gV tw_424 tw_425 tw_426 tw_2 tw_427) rfl rfl rfl (by decide +kernel) ⟨Nat.le_of_ble_eq_true rfl, Nat.le_of_ble_eq_true rfl⟩) (tg_preV hw hK hSD hA (ci := 7) (q := (RX7, TX7, 12)) rfl h_p0 rfl) rfl rfl hl.1 rfl (lv_room (Nat.le_of_ble_eq_true rfl)) dX7_takeName_8 ⟨Nat.le_of_ble_eq_true rfl, Nat.le_of_ble_eq_true rfl⟩) hw hA ⟨by decide, by decide⟩ (fun ws H locs hp_v_6 hw hF9 => ?_)
    obtain ⟨hfn, hp_v_6⟩ := hp_v_6
    have o_p1 := OV.over (V := vw_POST) hF9 o_p1 (by decide)
    obtain ⟨sg_7, q_sg_7⟩ : ∃ q9 : OS, (f_X7_pass__6 sg_2) = q9 := ⟨_, rfl⟩
    have o_p0 : OV vw_TAPE Ps ws p0 sg_7 := by rw [← q_sg_7]; exact hfn.1
    refine lv_iload_n hx hb dX7_takeName_11 rfl (lv_at hl 0 rfl) ?_
    simp only [f_X7_takeName__12, ↓reduceIte, q_sg_2, q_sg_3, q_v_1, eq_false c9_v_1, q_sg_7] at hE
    subst hQ
    exact W.iret (v := v_1) hx hb hr (fun t ht hW => ⟨⟨v_1, ws, rfl, ⟨⟨⟨(by rw [hR, ← hE]; exact o_p0), (by rw [hR, ← hE]; exact o_p1), (by rw [hR, ← hE]), trivial⟩, r_v_1.to (by decide), (fun h0 => trivial), (fun h0 => trivial), trivial, (fun h0 => absurd h0 (by have h8 := r_v_1; unfold RI at h8; omega)), (fun _ => trivial)⟩, hw.1, hw.2.2.2.2.1⟩, by rw [ht]; exact hw.2.1, va_K.moved hW.alike hK, hw.2.2.1⟩, hw.2.2.2.1.F ht⟩) hw.2.2.2.1.2.2 dX7_takeName_12
abbrev wr_X3_numberOf__9 : List (Nat × Nat) := []
abbrev wa_X3_numberOf__9 : List Nat := []
set_option maxHeartbeats 4000000 in
set_option maxRecDepth 100000 in
theorem c_X3_numberOf__9 (l : Launch) (D : va_G) (cy : Nat → ClassId) (z : Nat → Nat) (sz : Nat) (Ps : PSI) (w0 : va_W) (hT : HT cy GG Ps w0) (p0 : Nat) (p1 : Int64) (p2 : Int32) (s0 : OS) (h_p0 : (p0, 25) ∈ Ps) (r_p1 : RJ p1 (-9223372036854775808) 9223372036854775807) (r_p2 : RI p2 3 3) (o_p0 : OV vw_POST Ps w0 p0 s0) : Met l yX3_numberOf (Cond.code yX3_numberOf cX3_numberOf 5 (some .int) :: gT) ({ frames := 0, cells := 0, slots := 0, locals := 200 } : Room) (va_Pc [.ref p0, .long p1, .int p2] (PRE D cy z w0 sz)) (va_Qi (fun (r : Int32) (u : Unit) => ((f_X3_numberOf__5 p1 p2 s0) = r ∧ True) ∧ (RI r (-1) 7 ∧ (r = 0 → True) ∧ (¬ r = 0 → True))) (BB D cy (va_A w0 sz) (fun (u : Unit) => w0)) (va_A w0 sz)) 0 0 (va_A w0 sz) := by
  refine Met.ofW (cc := cX3_numberOf) (maxL := 5) (ret := (some .int)) (by decide) rfl ?_
  intro p e s m args below meth c s₁ B hml hv
  obtain ⟨rfl, hsz, hP, hK, hD0, hSD⟩ := hv
  have hx := B.exec
  have hb := B.bytes
  have hr := B.returns
  have hlocks := B.notSynchronized
  have hts : ∀ w ∈ gT, w.before _ s = true := fun w h => atoms_spec (ws := Cond.code yX3_numberOf cX3_numberOf 5 (some .int) :: gT) B.pre w (List.mem_cons_of_mem _ h)
  have hown : s.vm.findClass RX3 = some m.cls := findClass_of_methodNamed B.named
  subst hsz
  have hD := hD0.self (sz := s.heap.size)
  generalize hAe : va_A w0 s.heap.size = A at hD hSD ⊢
  have hA : ∀ q : Nat, s.heap.size ≤ q → A q := fun q h => by rw [← hAe]; exact Or.inr h
  have hl := lv_entry ([.ref p0, .long p1, .int p2]) (n := 5) (Nat.le_of_ble_eq_true rfl)
  rw [lg_entry_eq]
  generalize (lg_sl ([.ref p0, .long p1, .int p2]) ++ List.replicate (5 - (lg_sl ([.ref p0, .long p1, .int p2])).length) Slot.unset).toArray = ls at hl ⊢
  have hl : lv_has ls 5 [(0, .ref p0), (1, .long p1), (3, .int p2)] := hl
  refine nameQ (fun Q hQ => ?_)
  have hw : WD D cy GG A s wr_X3_numberOf__9 wa_X3_numberOf__9 Ps w0 Ps w0 s.heap [] := ⟨hT, hP, hD, va_S.rf, FR.rf, hT.1, [], (List.append_nil _).symm⟩
  obtain ⟨R9, hR⟩ : ∃ q9 : Int32, f_X3_numberOf__5 p1 p2 s0 = q9 := ⟨_, rfl⟩
  have hE := hR
  have B3 : ∀ (nf : Nat) (x4 : Int32) (s0 : OS) (H : Heap) (locs : List Loc) (ls : Array Slot), 8 - x4.toInt < (nf : Int) → RJ p1 (-9223372036854775808) 9223372036854775807 → RI p2 3 3 → RI x4 0 8 → OV vw_POST Ps w0 p0 s0 → f_X3_numberOf__5_3 p1 p2 nf x4 s0 = R9 → WD D cy GG A s wr_X3_numberOf__9 wa_X3_numberOf__9 Ps w0 Ps w0 H locs → lv_has ls 5 [(0, .ref p0), (1, .long p1), (3, .int p2), (4, .int x4)] → W p l e (headSpec (Cond.code yX3_numberOf cX3_numberOf 5 (some .int) :: gT) ({ frames := 0, cells := 0, slots := 0, locals := 200 } : Room)).room s m ([.ref p0, .long p1, .int p2] : List Value).toArray below meth c H locs 0 0 Q (F0 m 3 ls []) := by
    intro nf3
    induction nf3 with
    | zero =>
      intro x4 s0 H locs ls hn3 r_p1 r_p2 r_x4 o_p0 hE hw hl
      exact absurd hn3 (by have q0 := r_x4.1; have u0 := r_x4.2; omega)
    | succ nf3 ih3 =>
      intro x4 s0 H locs ls hn3 r_p1 r_p2 r_x4 o_p0 hE hw hl
      refine lv_iload hx hb dX3_numberOf_3 (lv_at hl 3 rfl) ?_
      refine lv_aload_n hx hb dX3_numberOf_5 rfl (lv_at hl 0 rfl) ?_
      refine tg_get (ci := 3) (ts := ty_POST) (C := RX3) (T := TX3) (N := 9) hx hb hts inX3 hown hK hw h_p0 rfl rfl 1 (by decide) (hts _ tw_201) (fun _ h9 => h9) (ft := vR 4) rfl dX3_numberOf_6 (fun u_1 hv_u_1 m_u_1 => ?_)
      obtain ⟨vu_1, rfl, h_vu_1⟩ := hv_u_1
      refine lv_iload_n hx hb dX3_numberOf_9 rfl (lv_at hl 2 rfl) ?_
      refine tg_iald (lo := 0) (hi := 8) hx hb hK hw h_vu_1 rfl 3 3 r_p2 (by decide) (by decide +kernel) dX3_numberOf_10 (fun v_2 r_v_2 m_v_2 o_v_2 => ?_)
      have q_v_2 : s0.2.2.1 1 (Int32.toNatClampNeg p2) = v_2 := OV.eqA (V := vw_POST) (t := 4) hw.2.2.1 o_p0 m_u_1 m_v_2 (by decide)
      refine lv_icmp_ge (tgt := 40) hx hb dX3_numberOf_11 (by decide) (fun c_11 => ?_) (fun c_11 => ?_)
      · refine lv_iconst (v := (-1)) hx hb dX3_numberOf_40 (by decide) ?_
        simp only [f_X3_numberOf__5_3, ↓reduceIte, q_v_2, eq_true c_11] at hE
        subst hQ
        exact W.iret (v := (-1)) hx hb hr (fun t ht hW => ⟨⟨(-1), (), rfl, ⟨⟨(by rw [hR, ← hE]), trivial⟩, rl_m1.to (by decide), (fun _ => trivial), (fun h0 => trivial)⟩, by rw [ht]; exact hw.2.1, va_K.moved hW.alike hK, hw.2.2.1⟩, hw.2.2.2.1.F ht⟩) hw.2.2.2.1.2.2 dX3_numberOf_41
      · have r_x4 : RI x4 0 7 := rc_lt1 r_x4 r_v_2 (ti_nle c_11) (by decide)
        have r_v_2 : RI v_2 1 8 := rc_lt2 r_x4 r_v_2 (ti_nle c_11) (by decide)
        refine lv_aload_n hx hb dX3_numberOf_14 rfl (lv_at hl 0 rfl) ?_
        refine tg_get (ci := 3) (ts := ty_POST) (C := RX3) (T := TX3) (N := 9) hx hb hts inX3 hown hK hw h_p0 rfl rfl 0 (by decide) (hts _ tw_200) (fun _ h9 => h9) (ft := vR 1) rfl dX3_numberOf_15 (fun u_3 hv_u_3 m_u_3 => ?_)
        obtain ⟨vu_3, rfl, h_vu_3⟩ := hv_u_3
        refine lv_iload_n hx hb dX3_numberOf_18 rfl (lv_at hl 2 rfl) ?_
        refine lv_bipush (v := 8) hx hb dX3_numberOf_19 (by decide) ?_
        refine lv_imul hx hb dX3_numberOf_21 (lv_topi (fun v_4 e_v_4 => ?_))
        obtain ⟨t_v_4, r_v_4⟩ := tq_mul (lo := 24) (hi := 24) r_p2 rl_8 (by decide +kernel) e_v_4
        have t_v_4 : v_4.toInt = p2.toInt * 8 := t_v_4
        have q_v_4 : p2 * (8 : Int32) = v_4 := e_v_4.symm
        refine lv_iload hx hb dX3_numberOf_22 (lv_at hl 3 rfl) ?_
        refine lv_iadd hx hb dX3_numberOf_24 (lv_topi (fun v_5 e_v_5 => ?_))
        obtain ⟨t_v_5, r_v_5⟩ := tq_add (lo := 24) (hi := 31) r_v_4 r_x4 (by decide +kernel) e_v_5
        have q_v_5 : v_4 + x4 = v_5 := e_v_5.symm
        refine tg_laldE hx hb hK hw h_vu_3 rfl r_v_5 (by decide) dX3_numberOf_25 (fun w_6 r_w_6 l_w_6 => ?_)
        have q_w_6 : s0.2.2.2 0 (Int32.toNatClampNeg v_5) = w_6 := OV.eqB (V := vw_POST) (t := 1) hw.2.2.1 o_p0 m_u_3 l_w_6 (by decide)
        refine lv_lload_n hx hb dX3_numberOf_26 rfl (lv_at hl 1 rfl) ?_
        refine W.lcmp hx hb dX3_numberOf_27 (lv_topi (fun v_7 e_v_7 => ?_))
        have r_v_7 := ri_any v_7
        have q_v_7 : lg_cmp w_6 p1 = v_7 := e_v_7.symm
        refine lv_if_ne (tgt := 34) hx hb dX3_numberOf_28 (by decide) (fun c_28 => ?_) (fun c_28 => ?_)
        · obtain ⟨v_8, e_v_8⟩ : ∃ q9 : Int32, q9 = x4 + Int32.ofInt 1 := ⟨_, rfl⟩
          obtain ⟨t_v_8, r_v_8⟩ := tq_add (lo := 1) (hi := 8) r_x4 (show RI (Int32.ofInt 1) 1 1 by unfold RI; decide +kernel) (by decide +kernel) e_v_8
          have t_v_8 : v_8.toInt = x4.toInt + 1 := t_v_8
          refine lv_iinc (v := v_8) (lv' := [(4, .int v_8), (0, .ref p0), (1, .long p1), (3, .int p2)]) hx hb dX3_numberOf_34 hl (k := 3) rfl e_v_8.symm (by decide) rfl (fun ls hl => ?_)
          have q_v_8 : x4 + (1 : Int32) = v_8 := by rw [e_v_8, show Int32.ofInt 1 = (1 : Int32) by decide]
          refine lv_goto (tgt := 3) hx hb dX3_numberOf_37 (by decide) ?_
          simp only [f_X3_numberOf__5_3, ↓reduceIte, q_v_2, eq_false c_11, q_v_4, q_v_5, q_w_6, q_v_7, eq_false c_28, q_v_8] at hE
          exact ih3 v_8 s0 _ _ ls (by have q0 := r_v_8.1; have u0 := r_v_8.2; have o0 := r_x4.1; have p0 := r_x4.2; omega) r_p1 r_p2 (r_v_8.to (by decide)) o_p0 hE hw (lv_sub hl [1, 2, 3, 0] rfl)
        · have r_v_7 : RI v_7 0 0 := rc_eq1 r_v_7 rl_0 (ti_eq c_28) (by decide)
          refine lv_iload hx hb dX3_numberOf_31 (lv_at hl 3 rfl) ?_
          simp only [f_X3_numberOf__5_3, ↓reduceIte, q_v_2, eq_false c_11, q_v_4, q_v_5, q_w_6, q_v_7, eq_true c_28] at hE
          subst hQ
          exact W.iret (v := x4) hx hb hr (fun t ht hW => ⟨⟨x4, (), rfl, ⟨⟨(by rw [hR, ← hE]), trivial⟩, r_x4.to (by decide), (fun h0 => trivial), (fun h0 => trivial)⟩, by rw [ht]; exact hw.2.1, va_K.moved hW.alike hK, hw.2.2.1⟩, hw.2.2.2.1.F ht⟩) hw.2.2.2.1.2.2 dX3_numberOf_33
  refine lv_iconst (v := 0) hx hb dX3_numberOf_0 (by decide) ?_
  refine lv_istore (lv' := [(4, .int 0), (0, .ref p0), (1, .long p1), (3, .int p2)]) hx hb dX3_numberOf_1 hl (by decide) rfl (fun ls hl => ?_)
  simp only [f_X3_numberOf__5, ↓reduceIte] at hE
  exact B3 4294967298 0 s0 _ _ ls (by have q0 := rl_0.1; have u0 := rl_0.2; omega) r_p1 r_p2 (rl_0.to (by decide)) o_p0 hE hw (lv_sub hl [1, 2, 3, 0] rfl)
abbrev wr_X7_nameAhead__17 : List (Nat × Nat) := [(7, 10), (7, 11)]
abbrev wa_X7_nameAhead__17 : List Nat := []
set_option maxHeartbeats 4000000 in
set_option maxRecDepth 100000 in
theorem c_X7_nameAhead__17 (l : Launch) (D : va_G) (cy : Nat → ClassId) (z : Nat → Nat) (sz : Nat) (Ps : PSI) (w0 : va_W) (hT : HT cy GG Ps w0) (p0 : Nat) (p1 : Nat) (p2 : Int32) (s0 : OS) (s1 : OS) (h_p0 : (p0, 26) ∈ Ps) (h_p1 : (p1, 25) ∈ Ps) (r_p2 : RI p2 3 3) (o_p0 : OV vw_TAPE Ps w0 p0 s0) (o_p1 : OV vw_POST Ps w0 p1 s1) : Met l yX7_nameAhead (Cond.code yX7_nameAhead cX7_nameAhead 4 (some .int) :: gT) ({ frames := 2, cells := 0, slots := 0, locals := 400 } : Room) (va_Pc [.ref p0, .ref p1, .int p2] (PRE D cy z w0 sz)) (va_Qi (fun (r : Int32) (u : va_W) => ((OV vw_TAPE Ps u p0 ((f_X7_nameAhead__13 p2 s0 s1).1) ∧ OV vw_POST Ps u p1 ((f_X7_nameAhead__13 p2 s0 s1).2.1) ∧ (f_X7_nameAhead__13 p2 s0 s1).2.2 = r ∧ True) ∧ (RI r (-1) 7 ∧ (r = 0 → True) ∧ (¬ r = 0 → True) ∧ (True) ∧ (r.toInt < 0 → FLTp u p0 ∧ True) ∧ (0 ≤ r.toInt → True))) ∧ HT cy GG Ps u ∧ FR wr_X7_nameAhead__17 wa_X7_nameAhead__17 Ps w0 u) (BB D cy (va_A w0 sz) (fun (u : va_W) => u)) (va_A w0 sz)) 0 0 (va_A w0 sz) := by
  refine Met.ofW (cc := cX7_nameAhead) (maxL := 4) (ret := (some .int)) (by decide) rfl ?_
  intro p e s m args below meth c s₁ B hml hv
  obtain ⟨rfl, hsz, hP, hK, hD0, hSD⟩ := hv
  have hx := B.exec
  have hb := B.bytes
  have hr := B.returns
  have hlocks := B.notSynchronized
  have hts : ∀ w ∈ gT, w.before _ s = true := fun w h => atoms_spec (ws := Cond.code yX7_nameAhead cX7_nameAhead 4 (some .int) :: gT) B.pre w (List.mem_cons_of_mem _ h)
  have hown : s.vm.findClass RX7 = some m.cls := findClass_of_methodNamed B.named
  subst hsz
  have hD := hD0.self (sz := s.heap.size)
  generalize hAe : va_A w0 s.heap.size = A at hD hSD ⊢
  have hA : ∀ q : Nat, s.heap.size ≤ q → A q := fun q h => by rw [← hAe]; exact Or.inr h
  have hl := lv_entry ([.ref p0, .ref p1, .int p2]) (n := 4) (Nat.le_of_ble_eq_true rfl)
  rw [lg_entry_eq]
  generalize (lg_sl ([.ref p0, .ref p1, .int p2]) ++ List.replicate (4 - (lg_sl ([.ref p0, .ref p1, .int p2])).length) Slot.unset).toArray = ls at hl ⊢
  have hl : lv_has ls 4 [(0, .ref p0), (1, .ref p1), (2, .int p2)] := hl
  refine nameQ (fun Q hQ => ?_)
  have hw : WD D cy GG A s wr_X7_nameAhead__17 wa_X7_nameAhead__17 Ps w0 Ps w0 s.heap [] := ⟨hT, hP, hD, va_S.rf, FR.rf, hT.1, [], (List.append_nil _).symm⟩
  obtain ⟨R9, hR⟩ : ∃ q9 : OS × OS × Int32, f_X7_nameAhead__13 p2 s0 s1 = q9 := ⟨_, rfl⟩
  have hE := hR
  refine lv_aload_n hx hb dX7_nameAhead_0 rfl (lv_at hl 0 rfl) ?_
  refine tg_get (ci := 7) (ts := ty_TAPE) (C := RX7) (T := TX7) (N := 12) hx hb hts inX7 hown hK hw h_p0 rfl rfl 7 (by decide) (hts _ tw_98) (fun _ h9 => h9) (ft := vI (-2147483648) 2147483647) rfl dX7_nameAhead_1 (fun u_1 hv_u_1 m_u_1 => ?_)
  obtain ⟨vu_1, rfl, r_vu_1⟩ := hv_u_1
  have q_vu_1 : s0.1 7 = vu_1 := OV.eqI (V := vw_TAPE) hw.2.2.1 o_p0 m_u_1 (by decide)
  refine lv_iconst (v := 2) hx hb dX7_nameAhead_4 (by decide) ?_
  refine lv_icmp_eq (tgt := 15) hx hb dX7_nameAhead_5 (by decide) (fun c_5 => ?_) (fun c_5 => ?_)
  · have r_vu_1 : RI vu_1 2 2 := rc_eq1 r_vu_1 rl_2 (ti_eq c_5) (by decide)
    refine lv_aload_n hx hb dX7_nameAhead_15 rfl (lv_at hl 1 rfl) ?_
    refine lv_aload_n hx hb dX7_nameAhead_16 rfl (lv_at hl 0 rfl) ?_
    refine tg_get (ci := 7) (ts := ty_TAPE) (C := RX7) (T := TX7) (N := 12) hx hb hts inX7 hown hK hw h_p0 rfl rfl 8 (by decide) (hts _ tw_100) (fun _ h9 => h9) (ft := vJ (-9223372036854775808) 9223372036854775807) rfl dX7_nameAhead_17 (fun u_2 hv_u_2 m_u_2 => ?_)
    obtain ⟨vu_2, rfl, r_vu_2⟩ := hv_u_2
    have q_vu_2 : s0.2.1 8 = vu_2 := OV.eqL (V := vw_TAPE) hw.2.2.1 o_p0 m_u_2 (by decide)
    refine lv_iload_n hx hb dX7_nameAhead_20 rfl (lv_at hl 2 rfl) ?_
    refine tk_ir (va_runV (As := [.long vu_2, .int p2]) (rest := []) ⟨hx, hb, hml, hown, hts⟩ (c_X3_numberOf__9 l D cy z s.heap.size Ps w0 hw.1 p1 vu_2 p2 s1 h_p1 r_vu_2 r_p2 o_p1) (cwV 2 hts (gV tw_460 tw_461 tw_462 tw_11 tw_463) rfl rfl rfl (by decide +kernel) ⟨Nat.le_of_ble_eq_true rfl, Nat.le_of_ble_eq_true rfl⟩) (tg_preV hw hK hSD hA (ci := 3) (q := (RX3, TX3, 9)) rfl h_p1 rfl) rfl rfl hl.1 rfl (lv_room (Nat.le_of_ble_eq_true rfl)) dX7_nameAhead_21 ⟨Nat.le_of_ble_eq_true rfl, Nat.le_of_ble_eq_true rfl⟩) hw hA (fun v_3  H locs hp_v_3 hw => ?_)
    obtain ⟨hfn, hp_v_3⟩ := hp_v_3
    have q_v_3 : (f_X3_numberOf__5 vu_2 p2 s1) = v_3 := hfn.1
    have r_v_3 : RI v_3 (-1) 7 := hp_v_3.1
    refine lv_istore_n (lv' := [(3, .int v_3), (0, .ref p0), (1, .ref p1), (2, .int p2)]) hx hb dX7_nameAhead_24 rfl hl (by decide) rfl (fun ls hl => ?_)
    refine lv_iload_n hx hb dX7_nameAhead_25 rfl (lv_at hl 0 rfl) ?_
    refine lv_iconst (v := (-1)) hx hb dX7_nameAhead_26 (by decide) ?_
    refine lv_icmp_ne (tgt := 35) hx hb dX7_nameAhead_27 (by decide) (fun c_27 => ?_) (fun c_27 => ?_)
    · have r_v_3 : RI v_3 0 7 := rc_neL r_v_3 rl_m1 (ti_ne c_27) (by decide)
      refine lv_aload_n hx hb dX7_nameAhead_35 rfl (lv_at hl 1 rfl) ?_
      refine tg_get (ci := 7) (ts := ty_TAPE) (C := RX7) (T := TX7) (N := 12) hx hb hts inX7 hown hK hw h_p0 rfl rfl 10 (by decide) (hts _ tw_104) (fun _ h9 => h9) (ft := vI 0 4) rfl dX7_nameAhead_36 (fun u_4 hv_u_4 m_u_4 => ?_)
      obtain ⟨vu_4, rfl, r_vu_4⟩ := hv_u_4
      have q_vu_4 : s0.1 10 = vu_4 := OV.eqI (V := vw_TAPE) hw.2.2.1 o_p0 m_u_4 (by decide)
      refine lv_if_ne (tgt := 46) hx hb dX7_nameAhead_39 (by decide) (fun c_39 => ?_) (fun c_39 => ?_)
      · have r_vu_4 : RI vu_4 1 4 := rc_neL r_vu_4 rl_0 (ti_ne c_39) (by decide)
        refine lv_iconst (v := (-1)) hx hb dX7_nameAhead_46 (by decide) ?_
        simp only [f_X7_nameAhead__13, ↓reduceIte, q_vu_1, eq_true c_5, q_vu_2, q_v_3, eq_false c_27, q_vu_4, eq_false c_39] at hE
        subst hQ
        have x_FLT_p0 : FLTp w0 p0 := ⟨_, m_u_4, r_vu_4.to (by decide)⟩
        exact W.iret (v := (-1)) hx hb hr (fun t ht hW => ⟨⟨(-1), w0, rfl, ⟨⟨⟨(by rw [hR, ← hE]; exact o_p0), (by rw [hR, ← hE]; exact o_p1), (by rw [hR, ← hE]), trivial⟩, rl_m1.to (by decide), (fun _ => trivial), (fun h0 => trivial), trivial, (fun h0 => ⟨x_FLT_p0, trivial⟩), (fun _ => trivial)⟩, hw.1, hw.2.2.2.2.1⟩, by rw [ht]; exact hw.2.1, va_K.moved hW.alike hK, hw.2.2.1⟩, hw.2.2.2.1.F ht⟩) hw.2.2.2.1.2.2 dX7_nameAhead_47
      · have r_vu_4 : RI vu_4 0 0 := rc_eq1 r_vu_4 rl_0 (ti_eq c_39) (by decide)
        refine lv_iload_n hx hb dX7_nameAhead_42 rfl (lv_at hl 0 rfl) ?_
        refine lv_goto (tgt := 47) hx hb dX7_nameAhead_43 (by decide) ?_
        simp only [f_X7_nameAhead__13, ↓reduceIte, q_vu_1, eq_true c_5, q_vu_2, q_v_3, eq_false c_27, q_vu_4, eq_true c_39] at hE
        subst hQ
        exact W.iret (v := v_3) hx hb hr (fun t ht hW => ⟨⟨v_3, w0, rfl, ⟨⟨⟨(by rw [hR, ← hE]; exact o_p0), (by rw [hR, ← hE]; exact o_p1), (by rw [hR, ← hE]), trivial⟩, r_v_3.to (by decide), (fun h0 => trivial), (fun h0 => trivial), trivial, (fun h0 => absurd h0 (by have h8 := r_v_3; unfold RI at h8; omega)), (fun _ => trivial)⟩, hw.1, hw.2.2.2.2.1⟩, by rw [ht]; exact hw.2.1, va_K.moved hW.alike hK, hw.2.2.1⟩, hw.2.2.2.1.F ht⟩) hw.2.2.2.1.2.2 dX7_nameAhead_47
    · have r_v_3 : RI v_3 (-1) (-1) := rc_eq1 r_v_3 rl_m1 (ti_eq c_27) (by decide)
      refine lv_aload_n hx hb dX7_nameAhead_30 rfl (lv_at hl 1 rfl) ?_
      refine lv_iconst (v := 3) hx hb dX7_nameAhead_31 (by decide) ?_
      refine tk_v (va_runV (As := [.int 3]) (rest := []) ⟨hx, hb, hml, hown, hts⟩ (c_X7_refuse__4 l D cy z H.size Ps w0 hw.1 p0 3 s0 h_p0 (rl_3.to (by decide)) o_p0) (cwV 1 hts (gV tw_442 tw_443 tw_444 tw_2 tw_445) rfl rfl rfl (by decide +kernel) ⟨Nat.le_of_ble_eq_true rfl, Nat.le_of_ble_eq_true rfl⟩) (tg_preV hw hK hSD hA (ci := 7) (q := (RX7, TX7, 12)) rfl h_p0 rfl) rfl rfl hl.1 rfl (lv_room (Nat.le_of_ble_eq_true rfl)) dX7_nameAhead_32 ⟨Nat.le_of_ble_eq_true rfl, Nat.le_of_ble_eq_true rfl⟩) hw hA ⟨by decide, by decide⟩ (fun ws H locs hp_v_5 hw hF9 => ?_)
      have m_u_1 := FLD.over hF9 m_u_1 (by decide)
      have m_u_2 := FLD.over hF9 m_u_2 (by decide)
      obtain ⟨hfn, hp_v_5⟩ := hp_v_5
      have o_p1 := OV.over (V := vw_POST) hF9 o_p1 (by decide)
      obtain ⟨sg_6, q_sg_6⟩ : ∃ q9 : OS, (f_X7_refuse__4 (3 : Int32) s0) = q9 := ⟨_, rfl⟩
      have o_p0 : OV vw_TAPE Ps ws p0 sg_6 := by rw [← q_sg_6]; exact hfn.1
      obtain ⟨v_7, m_v_7, r_v_7⟩ := (hp_v_5.1)
      refine lv_aload_n hx hb dX7_nameAhead_35 rfl (lv_at hl 1 rfl) ?_
      refine tg_mem (ci := 7) (C := RX7) (T := TX7) (N := 12) hx hb hts inX7 hown hK hw 10 m_v_7 rfl (by decide) (hts _ tw_104) (fun _ h9 => h9) dX7_nameAhead_36 ?_
      have q_v_7 : sg_6.1 10 = v_7 := OV.eqI (V := vw_TAPE) hw.2.2.1 o_p0 m_v_7 (by decide)
      refine lv_if_ne (tgt := 46) hx hb dX7_nameAhead_39 (by decide) (fun c_39 => ?_) (fun c_39 => ?_)
      · refine lv_iconst (v := (-1)) hx hb dX7_nameAhead_46 (by decide) ?_
        simp only [f_X7_nameAhead__13, ↓reduceIte, q_vu_1, eq_true c_5, q_vu_2, q_v_3, eq_true c_27, q_sg_6, q_v_7, eq_false c_39] at hE
        subst hQ
        have x_FLT_p0 : FLTp ws p0 := ⟨_, m_v_7, r_v_7.to (by decide)⟩
        exact W.iret (v := (-1)) hx hb hr (fun t ht hW => ⟨⟨(-1), ws, rfl, ⟨⟨⟨(by rw [hR, ← hE]; exact o_p0), (by rw [hR, ← hE]; exact o_p1), (by rw [hR, ← hE]), trivial⟩, rl_m1.to (by decide), (fun _ => trivial), (fun h0 => trivial), trivial, (fun h0 => ⟨x_FLT_p0, trivial⟩), (fun _ => trivial)⟩, hw.1, hw.2.2.2.2.1⟩, by rw [ht]; exact hw.2.1, va_K.moved hW.alike hK, hw.2.2.1⟩, hw.2.2.2.1.F ht⟩) hw.2.2.2.1.2.2 dX7_nameAhead_47
      · have r_v_7 : RI v_7 1 0 := rc_eq1 r_v_7 rl_0 (ti_eq c_39) (by decide)
        exact (r_v_7.no (by decide)).elim
  · refine lv_aload_n hx hb dX7_nameAhead_8 rfl (lv_at hl 0 rfl) ?_
    refine lv_iconst (v := 1) hx hb dX7_nameAhead_9 (by decide) ?_
    refine tk_v (va_runV (As := [.int 1]) (rest := []) ⟨hx, hb, hml, hown, hts⟩ (c_X7_refuse__4 l D cy z s.heap.size Ps w0 hw.1 p0 1 s0 h_p0 (rl_1.to (by decide)) o_p0) (cwV 1 hts (gV tw_442 tw_443 tw_444 tw_2 tw_445) rfl rfl rfl (by decide +kernel) ⟨Nat.le_of_ble_eq_true rfl, Nat.le_of_ble_eq_true rfl⟩) (tg_preV hw hK hSD hA (ci := 7) (q := (RX7, TX7, 12)) rfl h_p0 rfl) rfl rfl hl.1 rfl (lv_room (Nat.le_of_ble_eq_true rfl)) dX7_nameAhead_10 ⟨Nat.le_of_ble_eq_true rfl, Nat.le_of_ble_eq_true rfl⟩) hw hA ⟨by decide, by decide⟩ (fun ws H locs hp_v_8 hw hF9 => ?_)
    have m_u_1 := FLD.over hF9 m_u_1 (by decide)
    obtain ⟨hfn, hp_v_8⟩ := hp_v_8
    have o_p1 := OV.over (V := vw_POST) hF9 o_p1 (by decide)
    obtain ⟨sg_9, q_sg_9⟩ : ∃ q9 : OS, (f_X7_refuse__4 (1 : Int32) s0) = q9 := ⟨_, rfl⟩
    have o_p0 : OV vw_TAPE Ps ws p0 sg_9 := by rw [← q_sg_9]; exact hfn.1
    obtain ⟨v_10, m_v_10, r_v_10⟩ := (hp_v_8.1)
    refine lv_iconst (v := (-1)) hx hb dX7_nameAhead_13 (by decide) ?_
    simp only [f_X7_nameAhead__13, ↓reduceIte, q_vu_1, eq_false c_5, q_sg_9] at hE
    subst hQ
    have x_FLT_p0 : FLTp ws p0 := ⟨_, m_v_10, r_v_10.to (by decide)⟩
    exact W.iret (v := (-1)) hx hb hr (fun t ht hW => ⟨⟨(-1), ws, rfl, ⟨⟨⟨(by rw [hR, ← hE]; exact o_p0), (by rw [hR, ← hE]; exact o_p1), (by rw [hR, ← hE]), trivial⟩, rl_m1.to (by decide), (fun _ => trivial), (fun h0 => trivial), trivial, (fun h0 => ⟨x_FLT_p0, trivial⟩), (fun _ => trivial)⟩, hw.1, hw.2.2.2.2.1⟩, by rw [ht]; exact hw.2.1, va_K.moved hW.alike hK, hw.2.2.1⟩, hw.2.2.2.1.F ht⟩) hw.2.2.2.1.2.2 dX7_nameAhead_14
abbrev wr_X3_readSits__1 : List (Nat × Nat) := [(7, 5), (7, 6), (7, 7), (7, 8), (7, 9), (7, 10), (7, 11)]
abbrev wa_X3_readSits__1 : List Nat := [12]
set_option maxHeartbeats 4000000 in
set_option maxRecDepth 100000 in
theorem c_X3_readSits__1 (l : Launch) (D : va_G) (cy : Nat → ClassId) (z : Nat → Nat) (sz : Nat) (Ps : PSI) (w0 : va_W) (hT : HT cy GG Ps w0) (p0 : Nat) (p1 : Nat) (p2 : Nat) (s0 : OS) (s1 : OS) (s2 : OS) (h_p0 : (p0, 25) ∈ Ps) (h_p1 : (p1, 26) ∈ Ps) (h_p2 : (p2, 24) ∈ Ps) (o_p0 : OV vw_POST Ps w0 p0 s0) (o_p1 : OV vw_TAPE Ps w0 p1 s1) (o_p2 : OV vw_WORLD Ps w0 p2 s2) : Met l yX3_readSits (Cond.code yX3_readSits cX3_readSits 5 none :: gT) ({ frames := 4, cells := 0, slots := 0, locals := 800 } : Room) (va_Pc [.ref p0, .ref p1, .ref p2] (PRE D cy z w0 sz)) (va_Qv (fun (u : va_W) => ((OV vw_POST Ps u p0 ((f_X3_readSits__1 s0 s1 s2).1) ∧ OV vw_TAPE Ps u p1 ((f_X3_readSits__1 s0 s1 s2).2.1) ∧ OV vw_WORLD Ps u p2 ((f_X3_readSits__1 s0 s1 s2).2.2) ∧ True) ∧ (True)) ∧ HT cy GG Ps u ∧ FR wr_X3_readSits__1 wa_X3_readSits__1 Ps w0 u) (BB D cy (va_A w0 sz) (fun (u : va_W) => u)) (va_A w0 sz)) 0 0 (va_A w0 sz) := by
  refine Met.ofW (cc := cX3_readSits) (maxL := 5) (ret := none) (by decide) rfl ?_
  intro p e s m args below meth c s₁ B hml hv
  obtain ⟨rfl, hsz, hP, hK, hD0, hSD⟩ := hv
  have hx := B.exec
  have hb := B.bytes
  have hr := B.returns
  have hlocks := B.notSynchronized
  have hts : ∀ w ∈ gT, w.before _ s = true := fun w h => atoms_spec (ws := Cond.code yX3_readSits cX3_readSits 5 none :: gT) B.pre w (List.mem_cons_of_mem _ h)
  have hown : s.vm.findClass RX3 = some m.cls := findClass_of_methodNamed B.named
  subst hsz
  have hD := hD0.self (sz := s.heap.size)
  generalize hAe : va_A w0 s.heap.size = A at hD hSD ⊢
  have hA : ∀ q : Nat, s.heap.size ≤ q → A q := fun q h => by rw [← hAe]; exact Or.inr h
  have hl := lv_entry ([.ref p0, .ref p1, .ref p2]) (n := 5) (Nat.le_of_ble_eq_true rfl)
  rw [lg_entry_eq]
  generalize (lg_sl ([.ref p0, .ref p1, .ref p2]) ++ List.replicate (5 - (lg_sl ([.ref p0, .ref p1, .ref p2])).length) Slot.unset).toArray = ls at hl ⊢
  have hl : lv_has ls 5 [(0, .ref p0), (1, .ref p1), (2, .ref p2)] := hl
  refine nameQ (fun Q hQ => ?_)
  have hw : WD D cy GG A s wr_X3_readSits__1 wa_X3_readSits__1 Ps w0 Ps w0 s.heap [] := ⟨hT, hP, hD, va_S.rf, FR.rf, hT.1, [], (List.append_nil _).symm⟩
  obtain ⟨R9, hR⟩ : ∃ q9 : OS × OS × OS, f_X3_readSits__1 s0 s1 s2 = q9 := ⟨_, rfl⟩
  have hE := hR
  have B27 : ∀ (x3 : Int32) (s0 : OS) (s1 : OS) (s2 : OS) (ws : va_W) (H : Heap) (locs : List Loc) (ls : Array Slot), RI x3 (-1) 7 → OV vw_POST Ps ws p0 s0 → OV vw_TAPE Ps ws p1 s1 → OV vw_WORLD Ps ws p2 s2 → f_X3_readSits__1_27 x3 s0 s1 s2 = R9 → WD D cy GG A s wr_X3_readSits__1 wa_X3_readSits__1 Ps w0 Ps ws H locs → lv_has ls 5 [(0, .ref p0), (1, .ref p1), (2, .ref p2), (3, .int x3)] → W p l e (headSpec (Cond.code yX3_readSits cX3_readSits 5 none :: gT) ({ frames := 4, cells := 0, slots := 0, locals := 800 } : Room)).room s m ([.ref p0, .ref p1, .ref p2] : List Value).toArray below meth c H locs 0 0 Q (F0 m 27 ls []) := by
    intro x3 s0 s1 s2 ws H locs ls r_x3 o_p0 o_p1 o_p2 hE hw hl
    refine lv_aload_n hx hb dX3_readSits_27 rfl (lv_at hl 1 rfl) ?_
    refine tk_v (va_runV (As := []) (rest := []) ⟨hx, hb, hml, hown, hts⟩ (c_X7_pass__6 l D cy z H.size Ps ws hw.1 p1 s1 h_p1 o_p1) (cwV 0 hts (gV tw_451 tw_425 tw_426 tw_2 tw_427) rfl rfl rfl (by decide +kernel) ⟨Nat.le_of_ble_eq_true rfl, Nat.le_of_ble_eq_true rfl⟩) (tg_preV hw hK hSD hA (ci := 7) (q := (RX7, TX7, 12)) rfl h_p1 rfl) rfl rfl hl.1 rfl (lv_room (Nat.le_of_ble_eq_true rfl)) dX3_readSits_28 ⟨Nat.le_of_ble_eq_true rfl, Nat.le_of_ble_eq_true rfl⟩) hw hA ⟨by decide, by decide⟩ (fun ws H locs hp_v_1 hw hF9 => ?_)
    obtain ⟨hfn, hp_v_1⟩ := hp_v_1
    have o_p0 := OV.over (V := vw_POST) hF9 o_p0 (by decide)
    have o_p2 := OV.over (V := vw_WORLD) hF9 o_p2 (by decide)
    obtain ⟨sg_2, q_sg_2⟩ : ∃ q9 : OS, (f_X7_pass__6 s1) = q9 := ⟨_, rfl⟩
    have o_p1 : OV vw_TAPE Ps ws p1 sg_2 := by rw [← q_sg_2]; exact hfn.1
    refine lv_aload_n hx hb dX3_readSits_31 rfl (lv_at hl 1 rfl) ?_
    refine lv_aload_n hx hb dX3_readSits_32 rfl (lv_at hl 0 rfl) ?_
    refine lv_iconst (v := 2) hx hb dX3_readSits_33 (by decide) ?_
    refine tk_i (va_runV (As := [.ref p0, .int 2]) (rest := []) ⟨hx, hb, hml, hown, hts⟩ (c_X7_takeName__15 l D cy z H.size Ps ws hw.1 p1 p0 2 sg_2 s0 h_p1 h_p0 rl_2 o_p1 o_p0) (cwV 2 hts (gV tw_464 tw_465 tw_466 tw_2 tw_467) rfl rfl rfl (by decide +kernel) ⟨Nat.le_of_ble_eq_true rfl, Nat.le_of_ble_eq_true rfl⟩) (tg_preV hw hK hSD hA (ci := 7) (q := (RX7, TX7, 12)) rfl h_p1 rfl) rfl rfl hl.1 rfl (lv_room (Nat.le_of_ble_eq_true rfl)) dX3_readSits_34 ⟨Nat.le_of_ble_eq_true rfl, Nat.le_of_ble_eq_true rfl⟩) hw hA ⟨by decide, by decide⟩ (fun v_3 ws H locs hp_v_3 hw hF9 => ?_)
    obtain ⟨hfn, hp_v_3⟩ := hp_v_3
    have o_p2 := OV.over (V := vw_WORLD) hF9 o_p2 (by decide)
    obtain ⟨sg_4, q_sg_4⟩ : ∃ q9 : OS, (f_X7_takeName__12 (2 : Int32) sg_2 s0).1 = q9 := ⟨_, rfl⟩
    have o_p1 : OV vw_TAPE Ps ws p1 sg_4 := by rw [← q_sg_4]; exact hfn.1
    obtain ⟨sg_5, q_sg_5⟩ : ∃ q9 : OS, (f_X7_takeName__12 (2 : Int32) sg_2 s0).2.1 = q9 := ⟨_, rfl⟩
    have o_p0 : OV vw_POST Ps ws p0 sg_5 := by rw [← q_sg_5]; exact hfn.2.1
    have q_v_3 : (f_X7_takeName__12 (2 : Int32) sg_2 s0).2.2 = v_3 := hfn.2.2.1
    have r_v_3 : RI v_3 (-1) 5 := hp_v_3.1
    by_cases c9_v_3 : v_3.toInt < 0
    · have r_v_3 : RI v_3 (-1) (-1) := by unfold RI at r_v_3 ⊢; omega
      have x_FLT_p1 := (hp_v_3.2.2.2.2.1 (by omega)).1
      obtain ⟨v_6, m_v_6, r_v_6⟩ := id x_FLT_p1
      refine lv_istore (lv' := [(4, .int v_3), (0, .ref p0), (1, .ref p1), (2, .ref p2), (3, .int x3)]) hx hb dX3_readSits_37 hl (by decide) rfl (fun ls hl => ?_)
      refine lv_iload_n hx hb dX3_readSits_39 rfl (lv_at hl 4 rfl) ?_
      refine lv_iconst (v := (-1)) hx hb dX3_readSits_40 (by decide) ?_
      refine lv_icmp_eq (tgt := 52) hx hb dX3_readSits_41 (by decide) (fun c_41 => ?_) (fun c_41 => ?_)
      · have r_x3 : RI x3 (-1) (-1) := rc_eq1 r_x3 rl_m1 (ti_eq c_41) (by decide)
        simp only [f_X3_readSits__1_27, ↓reduceIte, q_sg_2, q_sg_4, q_sg_5, q_v_3, eq_true c9_v_3, eq_true c_41] at hE
        subst hQ
        exact W.vret hx hb hr (fun t ht hW => ⟨⟨ws, rfl, ⟨⟨⟨(by rw [hR, ← hE]; exact o_p0), (by rw [hR, ← hE]; exact o_p1), (by rw [hR, ← hE]; exact o_p2), trivial⟩, trivial⟩, hw.1, hw.2.2.2.2.1⟩, by rw [ht]; exact hw.2.1, va_K.moved hW.alike hK, hw.2.2.1⟩, hw.2.2.2.1.F ht⟩) hw.2.2.2.1.2.2 dX3_readSits_52
      · have r_x3 : RI x3 0 7 := rc_neL r_x3 rl_m1 (ti_ne c_41) (by decide)
        refine lv_aload_n hx hb dX3_readSits_44 rfl (lv_at hl 3 rfl) ?_
        refine tg_getN (ci := 8) (ts := ty_WORLD) (C := RX8) (T := TX8) (N := 13) hx hb hts inX8 hown hK hw h_p2 rfl rfl 8 (by decide) (hSD.nest tn_270) (fun _ h9 => h9) (ft := vR 12) rfl dX3_readSits_45 (fun u_7 hv_u_7 m_u_7 => ?_)
        obtain ⟨vu_7, rfl, h_vu_7⟩ := hv_u_7
        refine lv_iload_n hx hb dX3_readSits_48 rfl (lv_at hl 4 rfl) ?_
        refine lv_iload hx hb dX3_readSits_49 (lv_at hl 0 rfl) ?_
        have mo9 := m_u_7
        refine tg_iast hx hb hK hw h_vu_7 rfl 0 7 r_x3 (by decide) r_v_3 (by exact fun _ _ _ => by decide) (fun _ _ _ _ _ => trivial) (by decide) dX3_readSits_51 (fun ws H locs hw hF9 hU9 => ?_)
        have x_FLT_p1 := FLTp.over hF9 x_FLT_p1 (by decide)
        have m_v_6 := FLD.over hF9 m_v_6 (by decide)
        have m_u_7 := FLD.over hF9 m_u_7 (by decide)
        have o_p0 := OV.over (V := vw_POST) hF9 o_p0 (by decide)
        have o_p1 := OV.over (V := vw_TAPE) hF9 o_p1 (by decide)
        obtain ⟨sg_8, q_sg_8⟩ : ∃ q9 : OS, sA s2 8 (Int32.toNatClampNeg x3) v_3 = q9 := ⟨_, rfl⟩
        have o_p2 : OV vw_WORLD Ps ws p2 sg_8 := by rw [← q_sg_8]; exact OV.putA (V := vw_WORLD) (t := 12) hF9 hU9 o_p2 mo9 (by decide) (by decide)
        simp only [f_X3_readSits__1_27, ↓reduceIte, q_sg_2, q_sg_4, q_sg_5, q_v_3, eq_true c9_v_3, eq_false c_41, q_sg_8] at hE
        subst hQ
        exact W.vret hx hb hr (fun t ht hW => ⟨⟨ws, rfl, ⟨⟨⟨(by rw [hR, ← hE]; exact o_p0), (by rw [hR, ← hE]; exact o_p1), (by rw [hR, ← hE]; exact o_p2), trivial⟩, trivial⟩, hw.1, hw.2.2.2.2.1⟩, by rw [ht]; exact hw.2.1, va_K.moved hW.alike hK, hw.2.2.1⟩, hw.2.2.2.1.F ht⟩) hw.2.2.2.1.2.2 dX3_readSits_52
    · have r_v_3 : RI v_3 0 5 := by unfold RI at r_v_3 ⊢; omega
      refine lv_istore (lv' := [(4, .int v_3), (0, .ref p0), (1, .ref p1), (2, .ref p2), (3, .int x3)]) hx hb dX3_readSits_37 hl (by decide) rfl (fun ls hl => ?_)
      refine lv_iload_n hx hb dX3_readSits_39 rfl (lv_at hl 4 rfl) ?_
      refine lv_iconst (v := (-1)) hx hb dX3_readSits_40 (by decide) ?_
      refine lv_icmp_eq (tgt := 52) hx hb dX3_readSits_41 (by decide) (fun c_41 => ?_) (fun c_41 => ?_)
      · have r_x3 : RI x3 (-1) (-1) := rc_eq1 r_x3 rl_m1 (ti_eq c_41) (by decide)
        simp only [f_X3_readSits__1_27, ↓reduceIte, q_sg_2, q_sg_4, q_sg_5, q_v_3, eq_false c9_v_3, eq_true c_41] at hE
        subst hQ
        exact W.vret hx hb hr (fun t ht hW => ⟨⟨ws, rfl, ⟨⟨⟨(by rw [hR, ← hE]; exact o_p0), (by rw [hR, ← hE]; exact o_p1), (by rw [hR, ← hE]; exact o_p2), trivial⟩, trivial⟩, hw.1, hw.2.2.2.2.1⟩, by rw [ht]; exact hw.2.1, va_K.moved hW.alike hK, hw.2.2.1⟩, hw.2.2.2.1.F ht⟩) hw.2.2.2.1.2.2 dX3_readSits_52
      · have r_x3 : RI x3 0 7 := rc_neL r_x3 rl_m1 (ti_ne c_41) (by decide)
        refine lv_aload_n hx hb dX3_readSits_44 rfl (lv_at hl 3 rfl) ?_
        refine tg_getN (ci := 8) (ts := ty_WORLD) (C := RX8) (T := TX8) (N := 13) hx hb hts inX8 hown hK hw h_p2 rfl rfl 8 (by decide) (hSD.nest tn_270) (fun _ h9 => h9) (ft := vR 12) rfl dX3_readSits_45 (fun u_9 hv_u_9 m_u_9 => ?_)
        obtain ⟨vu_9, rfl, h_vu_9⟩ := hv_u_9
        refine lv_iload_n hx hb dX3_readSits_48 rfl (lv_at hl 4 rfl) ?_
        refine lv_iload hx hb dX3_readSits_49 (lv_at hl 0 rfl) ?_
        have mo9 := m_u_9
        refine tg_iast hx hb hK hw h_vu_9 rfl 0 7 r_x3 (by decide) r_v_3 (by exact fun _ _ _ => by decide) (fun _ _ _ _ _ => trivial) (by decide) dX3_readSits_51 (fun ws H locs hw hF9 hU9 => ?_)
        have m_u_9 := FLD.over hF9 m_u_9 (by decide)
        have o_p0 := OV.over (V := vw_POST) hF9 o_p0 (by decide)
        have o_p1 := OV.over (V := vw_TAPE) hF9 o_p1 (by decide)
        obtain ⟨sg_10, q_sg_10⟩ : ∃ q9 : OS, sA s2 8 (Int32.toNatClampNeg x3) v_3 = q9 := ⟨_, rfl⟩
        have o_p2 : OV vw_WORLD Ps ws p2 sg_10 := by rw [← q_sg_10]; exact OV.putA (V := vw_WORLD) (t := 12) hF9 hU9 o_p2 mo9 (by decide) (by decide)
        simp only [f_X3_readSits__1_27, ↓reduceIte, q_sg_2, q_sg_4, q_sg_5, q_v_3, eq_false c9_v_3, eq_false c_41, q_sg_10] at hE
        subst hQ
        exact W.vret hx hb hr (fun t ht hW => ⟨⟨ws, rfl, ⟨⟨⟨(by rw [hR, ← hE]; exact o_p0), (by rw [hR, ← hE]; exact o_p1), (by rw [hR, ← hE]; exact o_p2), trivial⟩, trivial⟩, hw.1, hw.2.2.2.2.1⟩, by rw [ht]; exact hw.2.1, va_K.moved hW.alike hK, hw.2.2.1⟩, hw.2.2.2.1.F ht⟩) hw.2.2.2.1.2.2 dX3_readSits_52
  refine lv_aload_n hx hb dX3_readSits_0 rfl (lv_at hl 1 rfl) ?_
  refine lv_aload_n hx hb dX3_readSits_1 rfl (lv_at hl 0 rfl) ?_
  refine lv_iconst (v := 3) hx hb dX3_readSits_2 (by decide) ?_
  refine tk_i (va_runV (As := [.ref p0, .int 3]) (rest := []) ⟨hx, hb, hml, hown, hts⟩ (c_X7_nameAhead__17 l D cy z s.heap.size Ps w0 hw.1 p1 p0 3 s1 s0 h_p1 h_p0 rl_3 o_p1 o_p0) (cwV 2 hts (gV tw_456 tw_457 tw_458 tw_2 tw_459) rfl rfl rfl (by decide +kernel) ⟨Nat.le_of_ble_eq_true rfl, Nat.le_of_ble_eq_true rfl⟩) (tg_preV hw hK hSD hA (ci := 7) (q := (RX7, TX7, 12)) rfl h_p1 rfl) rfl rfl hl.1 rfl (lv_room (Nat.le_of_ble_eq_true rfl)) dX3_readSits_3 ⟨Nat.le_of_ble_eq_true rfl, Nat.le_of_ble_eq_true rfl⟩) hw hA ⟨by decide, by decide⟩ (fun v_11 ws H locs hp_v_11 hw hF9 => ?_)
  obtain ⟨hfn, hp_v_11⟩ := hp_v_11
  have o_p2 := OV.over (V := vw_WORLD) hF9 o_p2 (by decide)
  obtain ⟨sg_12, q_sg_12⟩ : ∃ q9 : OS, (f_X7_nameAhead__13 (3 : Int32) s1 s0).1 = q9 := ⟨_, rfl⟩
  have o_p1 : OV vw_TAPE Ps ws p1 sg_12 := by rw [← q_sg_12]; exact hfn.1
  obtain ⟨sg_13, q_sg_13⟩ : ∃ q9 : OS, (f_X7_nameAhead__13 (3 : Int32) s1 s0).2.1 = q9 := ⟨_, rfl⟩
  have o_p0 : OV vw_POST Ps ws p0 sg_13 := by rw [← q_sg_13]; exact hfn.2.1
  have q_v_11 : (f_X7_nameAhead__13 (3 : Int32) s1 s0).2.2 = v_11 := hfn.2.2.1
  have r_v_11 : RI v_11 (-1) 7 := hp_v_11.1
  by_cases c9_v_11 : v_11.toInt < 0
  · have r_v_11 : RI v_11 (-1) (-1) := by unfold RI at r_v_11 ⊢; omega
    have x_FLT_p1 := (hp_v_11.2.2.2.2.1 (by omega)).1
    obtain ⟨v_14, m_v_14, r_v_14⟩ := id x_FLT_p1
    refine lv_istore_n (lv' := [(3, .int v_11), (0, .ref p0), (1, .ref p1), (2, .ref p2)]) hx hb dX3_readSits_6 rfl hl (by decide) rfl (fun ls hl => ?_)
    refine lv_iload_n hx hb dX3_readSits_7 rfl (lv_at hl 0 rfl) ?_
    refine lv_iconst (v := (-1)) hx hb dX3_readSits_8 (by decide) ?_
    refine lv_icmp_eq (tgt := 27) hx hb dX3_readSits_9 (by decide) (fun c_9 => ?_) (fun c_9 => ?_)
    · simp only [f_X3_readSits__1, ↓reduceIte, q_sg_12, q_sg_13, q_v_11, eq_true c9_v_11, eq_true c_9] at hE
      exact B27 v_11 sg_13 sg_12 s2 ws _ _ ls (r_v_11.to (by decide)) o_p0 o_p1 o_p2 hE hw (lv_sub hl [1, 2, 3, 0] rfl)
    · exact absurd (r_v_11.eq.trans rl_m1.eq.symm) ((ti_ne c_9))
  · have r_v_11 : RI v_11 0 7 := by unfold RI at r_v_11 ⊢; omega
    refine lv_istore_n (lv' := [(3, .int v_11), (0, .ref p0), (1, .ref p1), (2, .ref p2)]) hx hb dX3_readSits_6 rfl hl (by decide) rfl (fun ls hl => ?_)
    refine lv_iload_n hx hb dX3_readSits_7 rfl (lv_at hl 0 rfl) ?_
    refine lv_iconst (v := (-1)) hx hb dX3_readSits_8 (by decide) ?_
    refine lv_icmp_eq (tgt := 27) hx hb dX3_readSits_9 (by decide) (fun c_9 => ?_) (fun c_9 => ?_)
    · have r_v_11 : RI v_11 0 (-1) := rc_eq1 r_v_11 rl_m1 (ti_eq c_9) (by decide)
      exact (r_v_11.no (by decide)).elim
    · refine lv_aload_n hx hb dX3_readSits_12 rfl (lv_at hl 3 rfl) ?_
      refine tg_getN (ci := 8) (ts := ty_WORLD) (C := RX8) (T := TX8) (N := 13) hx hb hts inX8 hown hK hw h_p2 rfl rfl 8 (by decide) (hSD.nest tn_270) (fun _ h9 => h9) (ft := vR 12) rfl dX3_readSits_13 (fun u_15 hv_u_15 m_u_15 => ?_)
      obtain ⟨vu_15, rfl, h_vu_15⟩ := hv_u_15
      refine lv_iload_n hx hb dX3_readSits_16 rfl (lv_at hl 0 rfl) ?_
      refine tg_iald (lo := (-1)) (hi := 5) hx hb hK hw h_vu_15 rfl 0 7 r_v_11 (by decide) (by exact fun _ _ _ => ⟨Int.le_refl _, Int.le_refl _⟩) dX3_readSits_17 (fun v_16 r_v_16 m_v_16 o_v_16 => ?_)
      have q_v_16 : s2.2.2.1 8 (Int32.toNatClampNeg v_11) = v_16 := OV.eqA (V := vw_WORLD) (t := 12) hw.2.2.1 o_p2 m_u_15 m_v_16 (by decide)
      refine lv_iconst (v := (-1)) hx hb dX3_readSits_18 (by decide) ?_
      refine lv_icmp_eq (tgt := 27) hx hb dX3_readSits_19 (by decide) (fun c_19 => ?_) (fun c_19 => ?_)
      · have r_v_16 : RI v_16 (-1) (-1) := rc_eq1 r_v_16 rl_m1 (ti_eq c_19) (by decide)
        simp only [f_X3_readSits__1, ↓reduceIte, q_sg_12, q_sg_13, q_v_11, eq_false c9_v_11, eq_false c_9, q_v_16, eq_true c_19] at hE
        exact B27 v_11 sg_13 sg_12 s2 ws _ _ ls (r_v_11.to (by decide)) o_p0 o_p1 o_p2 hE hw (lv_sub hl [1, 2, 3, 0] rfl)
      · have r_v_16 : RI v_16 0 5 := rc_neL r_v_16 rl_m1 (ti_ne c_19) (by decide)
        refine lv_aload_n hx hb dX3_readSits_22 rfl (lv_at hl 2 rfl) ?_
        refine lv_iconst (v := 3) hx hb dX3_readSits_23 (by decide) ?_
        have hw8 := hw
        refine tk_v (va_runV (As := [.int 3]) (rest := []) ⟨hx, hb, hml, hown, hts⟩ (c_X7_refuse__4 l D cy z H.size Ps ws hw.1 p1 3 sg_12 h_p1 (rl_3.to (by decide)) o_p1) (cwV 1 hts (gV tw_450 tw_443 tw_444 tw_2 tw_445) rfl rfl rfl (by decide +kernel) ⟨Nat.le_of_ble_eq_true rfl, Nat.le_of_ble_eq_true rfl⟩) (tg_preV hw hK hSD hA (ci := 7) (q := (RX7, TX7, 12)) rfl h_p1 rfl) rfl rfl hl.1 rfl (lv_room (Nat.le_of_ble_eq_true rfl)) dX3_readSits_24 ⟨Nat.le_of_ble_eq_true rfl, Nat.le_of_ble_eq_true rfl⟩) hw hA ⟨by decide, by decide⟩ (fun ws H locs hp_v_17 hw hF9 => ?_)
        have m_v_16 := AEL.over hw8 hF9 h_vu_15 m_v_16 (by decide)
        have m_u_15 := FLD.over hF9 m_u_15 (by decide)
        obtain ⟨hfn, hp_v_17⟩ := hp_v_17
        have o_p0 := OV.over (V := vw_POST) hF9 o_p0 (by decide)
        have o_p2 := OV.over (V := vw_WORLD) hF9 o_p2 (by decide)
        obtain ⟨sg_18, q_sg_18⟩ : ∃ q9 : OS, (f_X7_refuse__4 (3 : Int32) sg_12) = q9 := ⟨_, rfl⟩
        have o_p1 : OV vw_TAPE Ps ws p1 sg_18 := by rw [← q_sg_18]; exact hfn.1
        obtain ⟨v_19, m_v_19, r_v_19⟩ := (hp_v_17.1)
        simp only [f_X3_readSits__1, ↓reduceIte, q_sg_12, q_sg_13, q_v_11, eq_false c9_v_11, eq_false c_9, q_v_16, eq_false c_19, q_sg_18] at hE
        exact B27 v_11 sg_13 sg_18 s2 ws _ _ ls (r_v_11.to (by decide)) o_p0 o_p1 o_p2 hE hw (lv_sub hl [1, 2, 3, 0] rfl)
abbrev wr_X3_beginsLine__18 : List (Nat × Nat) := [(7, 5), (7, 6), (7, 7), (7, 8), (7, 9)]
abbrev wa_X3_beginsLine__18 : List Nat := []
set_option maxHeartbeats 4000000 in
set_option maxRecDepth 100000 in
theorem c_X3_beginsLine__18 (l : Launch) (D : va_G) (cy : Nat → ClassId) (z : Nat → Nat) (sz : Nat) (Ps : PSI) (w0 : va_W) (hT : HT cy GG Ps w0) (p0 : Nat) (p1 : Nat) (p2 : Int32) (f1_10 : Int32) (s0 : OS) (s1 : OS) (h_p0 : (p0, 25) ∈ Ps) (h_p1 : (p1, 26) ∈ Ps) (r_p2 : RI p2 133 133) (r_f1_10 : RI f1_10 0 0) (m_f1_10 : FLD w0 p1 7 10 (.int f1_10)) (o_p0 : OV vw_POST Ps w0 p0 s0) (o_p1 : OV vw_TAPE Ps w0 p1 s1) : Met l yX3_beginsLine (Cond.code yX3_beginsLine cX3_beginsLine 3 (some .boolean) :: gT) ({ frames := 3, cells := 0, slots := 0, locals := 600 } : Room) (va_Pc [.ref p0, .ref p1, .int p2] (PRE D cy z w0 sz)) (va_Qi (fun (r : Int32) (u : va_W) => ((OV vw_POST Ps u p0 ((f_X3_beginsLine__17 p2 s0 s1).1) ∧ OV vw_TAPE Ps u p1 ((f_X3_beginsLine__17 p2 s0 s1).2.1) ∧ (f_X3_beginsLine__17 p2 s0 s1).2.2 = r ∧ True) ∧ (RI r 1 1 ∧ (r = 0 → True) ∧ (¬ r = 0 → (∃ v9 : Int32, FLD u p1 7 10 (.int v9) ∧ RI v9 0 0) ∧ True))) ∧ HT cy GG Ps u ∧ FR wr_X3_beginsLine__18 wa_X3_beginsLine__18 Ps w0 u) (BB D cy (va_A w0 sz) (fun (u : va_W) => u)) (va_A w0 sz)) 0 0 (va_A w0 sz) := by
  refine Met.ofW (cc := cX3_beginsLine) (maxL := 3) (ret := (some .boolean)) (by decide) rfl ?_
  intro p e s m args below meth c s₁ B hml hv
  obtain ⟨rfl, hsz, hP, hK, hD0, hSD⟩ := hv
  have hx := B.exec
  have hb := B.bytes
  have hr := B.returns
  have hlocks := B.notSynchronized
  have hts : ∀ w ∈ gT, w.before _ s = true := fun w h => atoms_spec (ws := Cond.code yX3_beginsLine cX3_beginsLine 3 (some .boolean) :: gT) B.pre w (List.mem_cons_of_mem _ h)
  have hown : s.vm.findClass RX3 = some m.cls := findClass_of_methodNamed B.named
  subst hsz
  have hD := hD0.self (sz := s.heap.size)
  generalize hAe : va_A w0 s.heap.size = A at hD hSD ⊢
  have hA : ∀ q : Nat, s.heap.size ≤ q → A q := fun q h => by rw [← hAe]; exact Or.inr h
  have hl := lv_entry ([.ref p0, .ref p1, .int p2]) (n := 3) (Nat.le_of_ble_eq_true rfl)
  rw [lg_entry_eq]
  generalize (lg_sl ([.ref p0, .ref p1, .int p2]) ++ List.replicate (3 - (lg_sl ([.ref p0, .ref p1, .int p2])).length) Slot.unset).toArray = ls at hl ⊢
  have hl : lv_has ls 3 [(0, .ref p0), (1, .ref p1), (2, .int p2)] := hl
  refine nameQ (fun Q hQ => ?_)
  have hw : WD D cy GG A s wr_X3_beginsLine__18 wa_X3_beginsLine__18 Ps w0 Ps w0 s.heap [] := ⟨hT, hP, hD, va_S.rf, FR.rf, hT.1, [], (List.append_nil _).symm⟩
  obtain ⟨R9, hR⟩ : ∃ q9 : OS × OS × Int32, f_X3_beginsLine__17 p2 s0 s1 = q9 := ⟨_, rfl⟩
  have hE := hR
  refine lv_iload_n hx hb dX3_beginsLine_0 rfl (lv_at hl 2 rfl) ?_
  refine lv_sipush (v := 128) hx hb dX3_beginsLine_1 (by decide) ?_
  refine lv_icmp_lt (tgt := 14) hx hb dX3_beginsLine_4 (by decide) (fun c_4 => ?_) (fun c_4 => ?_)
  · have r_p2 : RI p2 133 127 := rc_lt1 r_p2 rl_128 (ti_lt c_4) (by decide)
    exact (r_p2.no (by decide)).elim
  · refine lv_iload_n hx hb dX3_beginsLine_7 rfl (lv_at hl 2 rfl) ?_
    refine lv_sipush (v := 136) hx hb dX3_beginsLine_8 (by decide) ?_
    refine lv_icmp_le (tgt := 22) hx hb dX3_beginsLine_11 (by decide) (fun c_11 => ?_) (fun c_11 => ?_)
    · refine lv_iload_n hx hb dX3_beginsLine_22 rfl (lv_at hl 2 rfl) ?_
      refine lv_sipush (v := 131) hx hb dX3_beginsLine_23 (by decide) ?_
      refine lv_icmp_gt (tgt := 59) hx hb dX3_beginsLine_26 (by decide) (fun c_26 => ?_) (fun c_26 => ?_)
      · refine lv_iload_n hx hb dX3_beginsLine_59 rfl (lv_at hl 2 rfl) ?_
        refine lv_sipush (v := 135) hx hb dX3_beginsLine_60 (by decide) ?_
        refine lv_icmp_ne (tgt := 73) hx hb dX3_beginsLine_63 (by decide) (fun c_63 => ?_) (fun c_63 => ?_)
        · refine lv_iload_n hx hb dX3_beginsLine_73 rfl (lv_at hl 2 rfl) ?_
          refine lv_sipush (v := 136) hx hb dX3_beginsLine_74 (by decide) ?_
          refine lv_icmp_ne (tgt := 92) hx hb dX3_beginsLine_77 (by decide) (fun c_77 => ?_) (fun c_77 => ?_)
          · refine lv_aload_n hx hb dX3_beginsLine_92 rfl (lv_at hl 1 rfl) ?_
            refine tk_v (va_runV (As := []) (rest := []) ⟨hx, hb, hml, hown, hts⟩ (c_X7_pass__5 l D cy z s.heap.size Ps w0 hw.1 p1 f1_10 s1 h_p1 r_f1_10 m_f1_10 o_p1) (cwV 0 hts (gV tw_451 tw_425 tw_426 tw_2 tw_427) rfl rfl rfl (by decide +kernel) ⟨Nat.le_of_ble_eq_true rfl, Nat.le_of_ble_eq_true rfl⟩) (tg_preV hw hK hSD hA (ci := 7) (q := (RX7, TX7, 12)) rfl h_p1 rfl) rfl rfl hl.1 rfl (lv_room (Nat.le_of_ble_eq_true rfl)) dX3_beginsLine_93 ⟨Nat.le_of_ble_eq_true rfl, Nat.le_of_ble_eq_true rfl⟩) hw hA ⟨by decide, by decide⟩ (fun ws H locs hp_v_1 hw hF9 => ?_)
            have m_f1_10 := FLD.over hF9 m_f1_10 (by decide)
            obtain ⟨hfn, hp_v_1⟩ := hp_v_1
            have o_p0 := OV.over (V := vw_POST) hF9 o_p0 (by decide)
            obtain ⟨sg_2, q_sg_2⟩ : ∃ q9 : OS, (f_X7_pass__5 s1) = q9 := ⟨_, rfl⟩
            have o_p1 : OV vw_TAPE Ps ws p1 sg_2 := by rw [← q_sg_2]; exact hfn.1
            obtain ⟨v_3, m_v_3, r_v_3⟩ := (hp_v_1.1)
            refine lv_aload_n hx hb dX3_beginsLine_96 rfl (lv_at hl 1 rfl) ?_
            refine tg_memN (ci := 7) (C := RX7) (T := TX7) (N := 12) hx hb hts inX7 hown hK hw 10 m_v_3 rfl (by decide) (hSD.nest tn_105) (fun _ h9 => h9) dX3_beginsLine_97 ?_
            have q_v_3 : sg_2.1 10 = v_3 := OV.eqI (V := vw_TAPE) hw.2.2.1 o_p1 m_v_3 (by decide)
            refine lv_if_ne (tgt := 107) hx hb dX3_beginsLine_100 (by decide) (fun c_100 => ?_) (fun c_100 => ?_)
            · exact absurd (r_v_3.eq.trans rl_0.eq.symm) ((ti_ne c_100))
            · refine lv_iconst (v := 1) hx hb dX3_beginsLine_103 (by decide) ?_
              refine lv_goto (tgt := 108) hx hb dX3_beginsLine_104 (by decide) ?_
              simp only [f_X3_beginsLine__17, ↓reduceIte, eq_false c_4, eq_true c_11, eq_true c_26, eq_false c_63, eq_false c_77, q_sg_2, q_v_3, eq_true c_100] at hE
              subst hQ
              exact W.zret (v := 1) hx hb hr (rfl) (fun t ht hW => ⟨⟨1, ws, rfl, ⟨⟨⟨(by rw [hR, ← hE]; exact o_p0), (by rw [hR, ← hE]; exact o_p1), (by rw [hR, ← hE]), trivial⟩, rl_1.to (by decide), (fun _ => trivial), (fun h0 => ⟨⟨_, m_v_3, r_v_3⟩, trivial⟩)⟩, hw.1, hw.2.2.2.2.1⟩, by rw [ht]; exact hw.2.1, va_K.moved hW.alike hK, hw.2.2.1⟩, hw.2.2.2.1.F ht⟩) hw.2.2.2.1.2.2 dX3_beginsLine_108
          · have r_p2 : RI p2 136 133 := rc_eq1 r_p2 rl_136 (ti_eq c_77) (by decide)
            exact (r_p2.no (by decide)).elim
        · have r_p2 : RI p2 135 133 := rc_eq1 r_p2 rl_135 (ti_eq c_63) (by decide)
          exact (r_p2.no (by decide)).elim
      · have r_p2 : RI p2 133 131 := rc_le1 r_p2 rl_131 (ti_nlt c_26) (by decide)
        exact (r_p2.no (by decide)).elim
    · have r_p2 : RI p2 137 133 := rc_lt2 rl_136 r_p2 (ti_nle c_11) (by decide)
      exact (r_p2.no (by decide)).elim
abbrev wr_X7_nameAhead__18 : List (Nat × Nat) := []
abbrev wa_X7_nameAhead__18 : List Nat := []
set_option maxHeartbeats 4000000 in
set_option maxRecDepth 100000 in
theorem c_X7_nameAhead__18 (l : Launch) (D : va_G) (cy : Nat → ClassId) (z : Nat → Nat) (sz : Nat) (Ps : PSI) (w0 : va_W) (hT : HT cy GG Ps w0) (p0 : Nat) (p1 : Nat) (p2 : Int32) (f0_10 : Int32) (s0 : OS) (s1 : OS) (h_p0 : (p0, 26) ∈ Ps) (h_p1 : (p1, 25) ∈ Ps) (r_p2 : RI p2 0 0) (r_f0_10 : RI f0_10 1 4) (m_f0_10 : FLD w0 p0 7 10 (.int f0_10)) (o_p0 : OV vw_TAPE Ps w0 p0 s0) (o_p1 : OV vw_POST Ps w0 p1 s1) : Met l yX7_nameAhead (Cond.code yX7_nameAhead cX7_nameAhead 4 (some .int) :: gT) ({ frames := 2, cells := 0, slots := 0, locals := 400 } : Room) (va_Pc [.ref p0, .ref p1, .int p2] (PRE D cy z w0 sz)) (va_Qi (fun (r : Int32) (u : Unit) => ((f_X7_nameAhead__18 p2 s0 s1) = r ∧ True) ∧ (RI r (-1) (-1) ∧ (r = 0 → True) ∧ (¬ r = 0 → True) ∧ (True) ∧ (r.toInt < 0 → FLTp w0 p0 ∧ True) ∧ (0 ≤ r.toInt → True))) (BB D cy (va_A w0 sz) (fun (u : Unit) => w0)) (va_A w0 sz)) 0 0 (va_A w0 sz) := by
  refine Met.ofW (cc := cX7_nameAhead) (maxL := 4) (ret := (some .int)) (by decide) rfl ?_
  intro p e s m args below meth c s₁ B hml hv
  obtain ⟨rfl, hsz, hP, hK, hD0, hSD⟩ := hv
  have hx := B.exec
  have hb := B.bytes
  have hr := B.returns
  have hlocks := B.notSynchronized
  have hts : ∀ w ∈ gT, w.before _ s = true := fun w h => atoms_spec (ws := Cond.code yX7_nameAhead cX7_nameAhead 4 (some .int) :: gT) B.pre w (List.mem_cons_of_mem _ h)
  have hown : s.vm.findClass RX7 = some m.cls := findClass_of_methodNamed B.named
  subst hsz
  have hD := hD0.self (sz := s.heap.size)
  generalize hAe : va_A w0 s.heap.size = A at hD hSD ⊢
  have hA : ∀ q : Nat, s.heap.size ≤ q → A q := fun q h => by rw [← hAe]; exact Or.inr h
  have hl := lv_entry ([.ref p0, .ref p1, .int p2]) (n := 4) (Nat.le_of_ble_eq_true rfl)
  rw [lg_entry_eq]
  generalize (lg_sl ([.ref p0, .ref p1, .int p2]) ++ List.replicate (4 - (lg_sl ([.ref p0, .ref p1, .int p2])).length) Slot.unset).toArray = ls at hl ⊢
  have hl : lv_has ls 4 [(0, .ref p0), (1, .ref p1), (2, .int p2)] := hl
  refine nameQ (fun Q hQ => ?_)
  have hw : WD D cy GG A s wr_X7_nameAhead__18 wa_X7_nameAhead__18 Ps w0 Ps w0 s.heap [] := ⟨hT, hP, hD, va_S.rf, FR.rf, hT.1, [], (List.append_nil _).symm⟩
  obtain ⟨R9, hR⟩ : ∃ q9 : Int32, f_X7_nameAhead__18 p2 s0 s1 = q9 := ⟨_, rfl⟩
  have hE := hR
  refine lv_aload_n hx hb dX7_nameAhead_0 rfl (lv_at hl 0 rfl) ?_
  refine tg_get (ci := 7) (ts := ty_TAPE) (C := RX7) (T := TX7) (N := 12) hx hb hts inX7 hown hK hw h_p0 rfl rfl 7 (by decide) (hts _ tw_98) (fun _ h9 => h9) (ft := vI (-2147483648) 2147483647) rfl dX7_nameAhead_1 (fun u_1 hv_u_1 m_u_1 => ?_)
  obtain ⟨vu_1, rfl, r_vu_1⟩ := hv_u_1
  have q_vu_1 : s0.1 7 = vu_1 := OV.eqI (V := vw_TAPE) hw.2.2.1 o_p0 m_u_1 (by decide)
  refine lv_iconst (v := 2) hx hb dX7_nameAhead_4 (by decide) ?_
  refine lv_icmp_eq (tgt := 15) hx hb dX7_nameAhead_5 (by decide) (fun c_5 => ?_) (fun c_5 => ?_)
  · have r_vu_1 : RI vu_1 2 2 := rc_eq1 r_vu_1 rl_2 (ti_eq c_5) (by decide)
    refine lv_aload_n hx hb dX7_nameAhead_15 rfl (lv_at hl 1 rfl) ?_
    refine lv_aload_n hx hb dX7_nameAhead_16 rfl (lv_at hl 0 rfl) ?_
    refine tg_get (ci := 7) (ts := ty_TAPE) (C := RX7) (T := TX7) (N := 12) hx hb hts inX7 hown hK hw h_p0 rfl rfl 8 (by decide) (hts _ tw_100) (fun _ h9 => h9) (ft := vJ (-9223372036854775808) 9223372036854775807) rfl dX7_nameAhead_17 (fun u_2 hv_u_2 m_u_2 => ?_)
    obtain ⟨vu_2, rfl, r_vu_2⟩ := hv_u_2
    have q_vu_2 : s0.2.1 8 = vu_2 := OV.eqL (V := vw_TAPE) hw.2.2.1 o_p0 m_u_2 (by decide)
    refine lv_iload_n hx hb dX7_nameAhead_20 rfl (lv_at hl 2 rfl) ?_
    refine tk_ir (va_runV (As := [.long vu_2, .int p2]) (rest := []) ⟨hx, hb, hml, hown, hts⟩ (c_X3_numberOf__7 l D cy z s.heap.size Ps w0 hw.1 p1 vu_2 p2 s1 h_p1 r_vu_2 r_p2 o_p1) (cwV 2 hts (gV tw_460 tw_461 tw_462 tw_11 tw_463) rfl rfl rfl (by decide +kernel) ⟨Nat.le_of_ble_eq_true rfl, Nat.le_of_ble_eq_true rfl⟩) (tg_preV hw hK hSD hA (ci := 3) (q := (RX3, TX3, 9)) rfl h_p1 rfl) rfl rfl hl.1 rfl (lv_room (Nat.le_of_ble_eq_true rfl)) dX7_nameAhead_21 ⟨Nat.le_of_ble_eq_true rfl, Nat.le_of_ble_eq_true rfl⟩) hw hA (fun v_3  H locs hp_v_3 hw => ?_)
    obtain ⟨hfn, hp_v_3⟩ := hp_v_3
    have q_v_3 : (f_X3_numberOf__5 vu_2 p2 s1) = v_3 := hfn.1
    have r_v_3 : RI v_3 (-1) 5 := hp_v_3.1
    refine lv_istore_n (lv' := [(3, .int v_3), (0, .ref p0), (1, .ref p1), (2, .int p2)]) hx hb dX7_nameAhead_24 rfl hl (by decide) rfl (fun ls hl => ?_)
    refine lv_iload_n hx hb dX7_nameAhead_25 rfl (lv_at hl 0 rfl) ?_
    refine lv_iconst (v := (-1)) hx hb dX7_nameAhead_26 (by decide) ?_
    refine lv_icmp_ne (tgt := 35) hx hb dX7_nameAhead_27 (by decide) (fun c_27 => ?_) (fun c_27 => ?_)
    · have r_v_3 : RI v_3 0 5 := rc_neL r_v_3 rl_m1 (ti_ne c_27) (by decide)
      refine lv_aload_n hx hb dX7_nameAhead_35 rfl (lv_at hl 1 rfl) ?_
      refine tg_mem (ci := 7) (C := RX7) (T := TX7) (N := 12) hx hb hts inX7 hown hK hw 10 m_f0_10 rfl (by decide) (hts _ tw_104) (fun _ h9 => h9) dX7_nameAhead_36 ?_
      have q_f0_10 : s0.1 10 = f0_10 := OV.eqI (V := vw_TAPE) hw.2.2.1 o_p0 m_f0_10 (by decide)
      refine lv_if_ne (tgt := 46) hx hb dX7_nameAhead_39 (by decide) (fun c_39 => ?_) (fun c_39 => ?_)
      · refine lv_iconst (v := (-1)) hx hb dX7_nameAhead_46 (by decide) ?_
        simp only [f_X7_nameAhead__18, ↓reduceIte, q_vu_1, eq_true c_5, q_vu_2, q_v_3, eq_false c_27, q_f0_10, eq_false c_39] at hE
        subst hQ
        have x_FLT_p0 : FLTp w0 p0 := ⟨_, m_f0_10, r_f0_10.to (by decide)⟩
        exact W.iret (v := (-1)) hx hb hr (fun t ht hW => ⟨⟨(-1), (), rfl, ⟨⟨(by rw [hR, ← hE]), trivial⟩, rl_m1.to (by decide), (fun _ => trivial), (fun h0 => trivial), trivial, (fun h0 => ⟨x_FLT_p0, trivial⟩), (fun _ => trivial)⟩, by rw [ht]; exact hw.2.1, va_K.moved hW.alike hK, hw.2.2.1⟩, hw.2.2.2.1.F ht⟩) hw.2.2.2.1.2.2 dX7_nameAhead_47
      · have r_f0_10 : RI f0_10 1 0 := rc_eq1 r_f0_10 rl_0 (ti_eq c_39) (by decide)
        exact (r_f0_10.no (by decide)).elim
    · have r_v_3 : RI v_3 (-1) (-1) := rc_eq1 r_v_3 rl_m1 (ti_eq c_27) (by decide)
      refine lv_aload_n hx hb dX7_nameAhead_30 rfl (lv_at hl 1 rfl) ?_
      refine lv_iconst (v := 3) hx hb dX7_nameAhead_31 (by decide) ?_
      refine tk_vr (va_runV (As := [.int 3]) (rest := []) ⟨hx, hb, hml, hown, hts⟩ (c_X7_refuse__6 l D cy z H.size Ps w0 hw.1 p0 3 f0_10 s0 h_p0 (rl_3.to (by decide)) r_f0_10 m_f0_10 o_p0) (cwV 1 hts (gV tw_442 tw_443 tw_444 tw_2 tw_445) rfl rfl rfl (by decide +kernel) ⟨Nat.le_of_ble_eq_true rfl, Nat.le_of_ble_eq_true rfl⟩) (tg_preV hw hK hSD hA (ci := 7) (q := (RX7, TX7, 12)) rfl h_p0 rfl) rfl rfl hl.1 rfl (lv_room (Nat.le_of_ble_eq_true rfl)) dX7_nameAhead_32 ⟨Nat.le_of_ble_eq_true rfl, Nat.le_of_ble_eq_true rfl⟩) hw hA (fun  H locs hp_v_4 hw => ?_)
      obtain ⟨hfn, hp_v_4⟩ := hp_v_4
      refine lv_aload_n hx hb dX7_nameAhead_35 rfl (lv_at hl 1 rfl) ?_
      refine tg_mem (ci := 7) (C := RX7) (T := TX7) (N := 12) hx hb hts inX7 hown hK hw 10 m_f0_10 rfl (by decide) (hts _ tw_104) (fun _ h9 => h9) dX7_nameAhead_36 ?_
      have q_f0_10 : s0.1 10 = f0_10 := OV.eqI (V := vw_TAPE) hw.2.2.1 o_p0 m_f0_10 (by decide)
      refine lv_if_ne (tgt := 46) hx hb dX7_nameAhead_39 (by decide) (fun c_39 => ?_) (fun c_39 => ?_)
      · refine lv_iconst (v := (-1)) hx hb dX7_nameAhead_46 (by decide) ?_
        simp only [f_X7_nameAhead__18, ↓reduceIte, q_vu_1, eq_true c_5, q_vu_2, q_v_3, eq_true c_27, q_f0_10, eq_false c_39] at hE
        subst hQ
        have x_FLT_p0 : FLTp w0 p0 := ⟨_, m_f0_10, r_f0_10.to (by decide)⟩
        exact W.iret (v := (-1)) hx hb hr (fun t ht hW => ⟨⟨(-1), (), rfl, ⟨⟨(by rw [hR, ← hE]), trivial⟩, rl_m1.to (by decide), (fun _ => trivial), (fun h0 => trivial), trivial, (fun h0 => ⟨x_FLT_p0, trivial⟩), (fun _ => trivial)⟩, by rw [ht]; exact hw.2.1, va_K.moved hW.alike hK, hw.2.2.1⟩, hw.2.2.2.1.F ht⟩) hw.2.2.2.1.2.2 dX7_nameAhead_47
      · have r_f0_10 : RI f0_10 1 0 := rc_eq1 r_f0_10 rl_0 (ti_eq c_39) (by decide)
        exact (r_f0_10.no (by decide)).elim
  · refine lv_aload_n hx hb dX7_nameAhead_8 rfl (lv_at hl 0 rfl) ?_
    refine lv_iconst (v := 1) hx hb dX7_nameAhead_9 (by decide) ?_
    refine tk_vr (va_runV (As := [.int 1]) (rest := []) ⟨hx, hb, hml, hown, hts⟩ (c_X7_refuse__6 l D cy z s.heap.size Ps w0 hw.1 p0 1 f0_10 s0 h_p0 (rl_1.to (by decide)) r_f0_10 m_f0_10 o_p0) (cwV 1 hts (gV tw_442 tw_443 tw_444 tw_2 tw_445) rfl rfl rfl (by decide +kernel) ⟨Nat.le_of_ble_eq_true rfl, Nat.le_of_ble_eq_true rfl⟩) (tg_preV hw hK hSD hA (ci := 7) (q := (RX7, TX7, 12)) rfl h_p0 rfl) rfl rfl hl.1 rfl (lv_room (Nat.le_of_ble_eq_true rfl)) dX7_nameAhead_10 ⟨Nat.le_of_ble_eq_true rfl, Nat.le_of_ble_eq_true rfl⟩) hw hA (fun  H locs hp_v_5 hw => ?_)
    obtain ⟨hfn, hp_v_5⟩ := hp_v_5
    refine lv_iconst (v := (-1)) hx hb dX7_nameAhead_13 (by decide) ?_
    simp only [f_X7_nameAhead__18, ↓reduceIte, q_vu_1, eq_false c_5] at hE
    subst hQ
    have x_FLT_p0 : FLTp w0 p0 := ⟨_, m_f0_10, r_f0_10.to (by decide)⟩
    exact W.iret (v := (-1)) hx hb hr (fun t ht hW => ⟨⟨(-1), (), rfl, ⟨⟨(by rw [hR, ← hE]), trivial⟩, rl_m1.to (by decide), (fun _ => trivial), (fun h0 => trivial), trivial, (fun h0 => ⟨x_FLT_p0, trivial⟩), (fun _ => trivial)⟩, by rw [ht]; exact hw.2.1, va_K.moved hW.alike hK, hw.2.2.1⟩, hw.2.2.2.1.F ht⟩) hw.2.2.2.1.2.2 dX7_nameAhead_14
abbrev wr_X8_has__1 : List (Nat × Nat) := []
abbrev wa_X8_has__1 : List Nat := []
set_option maxHeartbeats 4000000 in
set_option maxRecDepth 100000 in
theorem c_X8_has__1 (l : Launch) (D : va_G) (cy : Nat → ClassId) (z : Nat → Nat) (sz : Nat) (Ps : PSI) (w0 : va_W) (hT : HT cy GG Ps w0) (p0 : Nat) (p1 : Int32) (p2 : Int32) (s0 : OS) (h_p0 : (p0, 24) ∈ Ps) (r_p1 : RI p1 0 5) (r_p2 : RI p2 0 5) (o_p0 : OV vw_WORLD Ps w0 p0 s0) : Met l yX8_has (Cond.code yX8_has cX8_has 3 (some .int) :: gT) ({ frames := 0, cells := 0, slots := 0, locals := 200 } : Room) (va_Pc [.ref p0, .int p1, .int p2] (PRE D cy z w0 sz)) (va_Qi (fun (r : Int32) (u : Unit) => ((f_X8_has__1 p1 p2 s0) = r ∧ True) ∧ (RI r (-2147483648) 2147483647 ∧ (r = 0 → True) ∧ (¬ r = 0 → True))) (BB D cy (va_A w0 sz) (fun (u : Unit) => w0)) (va_A w0 sz)) 0 0 (va_A w0 sz) := by
  refine Met.ofW (cc := cX8_has) (maxL := 3) (ret := (some .int)) (by decide) rfl ?_
  intro p e s m args below meth c s₁ B hml hv
  obtain ⟨rfl, hsz, hP, hK, hD0, hSD⟩ := hv
  have hx := B.exec
  have hb := B.bytes
  have hr := B.returns
  have hlocks := B.notSynchronized
  have hts : ∀ w ∈ gT, w.before _ s = true := fun w h => atoms_spec (ws := Cond.code yX8_has cX8_has 3 (some .int) :: gT) B.pre w (List.mem_cons_of_mem _ h)
  have hown : s.vm.findClass RX8 = some m.cls := findClass_of_methodNamed B.named
  subst hsz
  have hD := hD0.self (sz := s.heap.size)
  generalize hAe : va_A w0 s.heap.size = A at hD hSD ⊢
  have hA : ∀ q : Nat, s.heap.size ≤ q → A q := fun q h => by rw [← hAe]; exact Or.inr h
  have hl := lv_entry ([.ref p0, .int p1, .int p2]) (n := 3) (Nat.le_of_ble_eq_true rfl)
  rw [lg_entry_eq]
  generalize (lg_sl ([.ref p0, .int p1, .int p2]) ++ List.replicate (3 - (lg_sl ([.ref p0, .int p1, .int p2])).length) Slot.unset).toArray = ls at hl ⊢
  have hl : lv_has ls 3 [(0, .ref p0), (1, .int p1), (2, .int p2)] := hl
  refine nameQ (fun Q hQ => ?_)
  have hw : WD D cy GG A s wr_X8_has__1 wa_X8_has__1 Ps w0 Ps w0 s.heap [] := ⟨hT, hP, hD, va_S.rf, FR.rf, hT.1, [], (List.append_nil _).symm⟩
  obtain ⟨R9, hR⟩ : ∃ q9 : Int32, f_X8_has__1 p1 p2 s0 = q9 := ⟨_, rfl⟩
  have hE := hR
  refine lv_aload_n hx hb dX8_has_0 rfl (lv_at hl 0 rfl) ?_
  refine tg_get (ci := 8) (ts := ty_WORLD) (C := RX8) (T := TX8) (N := 13) hx hb hts inX8 hown hK hw h_p0 rfl rfl 2 (by decide) (hts _ tw_252) (fun _ h9 => h9) (ft := vR 8) rfl dX8_has_1 (fun u_1 hv_u_1 m_u_1 => ?_)
  obtain ⟨vu_1, rfl, h_vu_1⟩ := hv_u_1
  refine lv_iload_n hx hb dX8_has_4 rfl (lv_at hl 1 rfl) ?_
  refine lv_bipush (v := 6) hx hb dX8_has_5 (by decide) ?_
  refine lv_imul hx hb dX8_has_7 (lv_topi (fun v_2 e_v_2 => ?_))
  obtain ⟨t_v_2, r_v_2⟩ := tq_mul (lo := 0) (hi := 30) r_p1 rl_6 (by decide +kernel) e_v_2
  have t_v_2 : v_2.toInt = p1.toInt * 6 := t_v_2
  have q_v_2 : p1 * (6 : Int32) = v_2 := e_v_2.symm
  refine lv_iload_n hx hb dX8_has_8 rfl (lv_at hl 2 rfl) ?_
  refine lv_iadd hx hb dX8_has_9 (lv_topi (fun v_3 e_v_3 => ?_))
  obtain ⟨t_v_3, r_v_3⟩ := tq_add (lo := 0) (hi := 35) r_v_2 r_p2 (by decide +kernel) e_v_3
  have q_v_3 : v_2 + p2 = v_3 := e_v_3.symm
  refine tg_iald (lo := (-2147483648)) (hi := 2147483647) hx hb hK hw h_vu_1 rfl 0 35 r_v_3 (by decide) (by exact fun _ _ _ => ⟨Int.le_refl _, Int.le_refl _⟩) dX8_has_10 (fun v_4 r_v_4 m_v_4 o_v_4 => ?_)
  have q_v_4 : s0.2.2.1 2 (Int32.toNatClampNeg v_3) = v_4 := OV.eqA (V := vw_WORLD) (t := 8) hw.2.2.1 o_p0 m_u_1 m_v_4 (by decide)
  simp only [f_X8_has__1, ↓reduceIte, q_v_2, q_v_3, q_v_4] at hE
  subst hQ
  exact W.iret (v := v_4) hx hb hr (fun t ht hW => ⟨⟨v_4, (), rfl, ⟨⟨(by rw [hR, ← hE]), trivial⟩, r_v_4.to (by decide), (fun h0 => trivial), (fun h0 => trivial)⟩, by rw [ht]; exact hw.2.1, va_K.moved hW.alike hK, hw.2.2.1⟩, hw.2.2.2.1.F ht⟩) hw.2.2.2.1.2.2 dX8_has_11
abbrev wr_X8_put__1 : List (Nat × Nat) := []
abbrev wa_X8_put__1 : List Nat := [8]
set_option maxHeartbeats 4000000 in
set_option maxRecDepth 100000 in
theorem c_X8_put__1 (l : Launch) (D : va_G) (cy : Nat → ClassId) (z : Nat → Nat) (sz : Nat) (Ps : PSI) (w0 : va_W) (hT : HT cy GG Ps w0) (p0 : Nat) (p1 : Int32) (p2 : Int32) (p3 : Int32) (s0 : OS) (h_p0 : (p0, 24) ∈ Ps) (r_p1 : RI p1 0 5) (r_p2 : RI p2 0 5) (r_p3 : RI p3 (-2147483648) 2147483647) (o_p0 : OV vw_WORLD Ps w0 p0 s0) : Met l yX8_put (Cond.code yX8_put cX8_put 4 none :: gT) ({ frames := 2, cells := 0, slots := 0, locals := 400 } : Room) (va_Pc [.ref p0, .int p1, .int p2, .int p3] (PRE D cy z w0 sz)) (va_Qv (fun (u : va_W) => ((OV vw_WORLD Ps u p0 ((f_X8_put__1 p1 p2 p3 s0)) ∧ True) ∧ (True)) ∧ HT cy GG Ps u ∧ FR wr_X8_put__1 wa_X8_put__1 Ps w0 u) (BB D cy (va_A w0 sz) (fun (u : va_W) => u)) (va_A w0 sz)) 0 0 (va_A w0 sz) := by
  refine Met.ofW (cc := cX8_put) (maxL := 4) (ret := none) (by decide) rfl ?_
  intro p e s m args below meth c s₁ B hml hv
  obtain ⟨rfl, hsz, hP, hK, hD0, hSD⟩ := hv
  have hx := B.exec
  have hb := B.bytes
  have hr := B.returns
  have hlocks := B.notSynchronized
  have hts : ∀ w ∈ gT, w.before _ s = true := fun w h => atoms_spec (ws := Cond.code yX8_put cX8_put 4 none :: gT) B.pre w (List.mem_cons_of_mem _ h)
  have hown : s.vm.findClass RX8 = some m.cls := findClass_of_methodNamed B.named
  subst hsz
  have hD := hD0.self (sz := s.heap.size)
  generalize hAe : va_A w0 s.heap.size = A at hD hSD ⊢
  have hA : ∀ q : Nat, s.heap.size ≤ q → A q := fun q h => by rw [← hAe]; exact Or.inr h
  have hl := lv_entry ([.ref p0, .int p1, .int p2, .int p3]) (n := 4) (Nat.le_of_ble_eq_true rfl)
  rw [lg_entry_eq]
  generalize (lg_sl ([.ref p0, .int p1, .int p2, .int p3]) ++ List.replicate (4 - (lg_sl ([.ref p0, .int p1, .int p2, .int p3])).length) Slot.unset).toArray = ls at hl ⊢
  have hl : lv_has ls 4 [(0, .ref p0), (1, .int p1), (2, .int p2), (3, .int p3)] := hl
  refine nameQ (fun Q hQ => ?_)
  have hw : WD D cy GG A s wr_X8_put__1 wa_X8_put__1 Ps w0 Ps w0 s.heap [] := ⟨hT, hP, hD, va_S.rf, FR.rf, hT.1, [], (List.append_nil _).symm⟩
  obtain ⟨R9, hR⟩ : ∃ q9 : OS, f_X8_put__1 p1 p2 p3 s0 = q9 := ⟨_, rfl⟩
  have hE := hR
  refine lv_aload_n hx hb dX8_put_0 rfl (lv_at hl 0 rfl) ?_
  refine tg_get (ci := 8) (ts := ty_WORLD) (C := RX8) (T := TX8) (N := 13) hx hb hts inX8 hown hK hw h_p0 rfl rfl 2 (by decide) (hts _ tw_252) (fun _ h9 => h9) (ft := vR 8) rfl dX8_put_1 (fun u_1 hv_u_1 m_u_1 => ?_)
  obtain ⟨vu_1, rfl, h_vu_1⟩ := hv_u_1
  refine lv_iload_n hx hb dX8_put_4 rfl (lv_at hl 1 rfl) ?_
  refine lv_bipush (v := 6) hx hb dX8_put_5 (by decide) ?_
  refine lv_imul hx hb dX8_put_7 (lv_topi (fun v_2 e_v_2 => ?_))
  obtain ⟨t_v_2, r_v_2⟩ := tq_mul (lo := 0) (hi := 30) r_p1 rl_6 (by decide +kernel) e_v_2
  have t_v_2 : v_2.toInt = p1.toInt * 6 := t_v_2
  have q_v_2 : p1 * (6 : Int32) = v_2 := e_v_2.symm
  refine lv_iload_n hx hb dX8_put_8 rfl (lv_at hl 2 rfl) ?_
  refine lv_iadd hx hb dX8_put_9 (lv_topi (fun v_3 e_v_3 => ?_))
  obtain ⟨t_v_3, r_v_3⟩ := tq_add (lo := 0) (hi := 35) r_v_2 r_p2 (by decide +kernel) e_v_3
  have q_v_3 : v_2 + p2 = v_3 := e_v_3.symm
  refine lv_iconst (v := 0) hx hb dX8_put_10 (by decide) ?_
  refine lv_bipush (v := 99) hx hb dX8_put_11 (by decide) ?_
  refine lv_iload_n hx hb dX8_put_13 rfl (lv_at hl 3 rfl) ?_
  refine va_mmin hx hb (hml.trans hl.1.symm) hown (hts _ tw_485) (hts _ tw_486) (hts _ tw_16) (hts _ tw_487) (Nat.le_of_ble_eq_true rfl) (Nat.le_of_ble_eq_true rfl) (Nat.le_of_ble_eq_true rfl) (Nat.le_of_ble_eq_true rfl) dX8_put_14 (lv_topi (fun v_4 e_v_4 => ?_))
  have r_v_4 : RI v_4 (-2147483648) 99 := by rw [e_v_4]; exact ri_min rl_99 r_p3 (by decide)
  have q_v_4 : mjmin (99 : Int32) p3 = v_4 := by rw [e_v_4]; rfl
  refine va_mmax hx hb (hml.trans hl.1.symm) hown (hts _ tw_488) (hts _ tw_489) (hts _ tw_16) (hts _ tw_490) (Nat.le_of_ble_eq_true rfl) (Nat.le_of_ble_eq_true rfl) (Nat.le_of_ble_eq_true rfl) (Nat.le_of_ble_eq_true rfl) dX8_put_17 (lv_topi (fun v_5 e_v_5 => ?_))
  have r_v_5 : RI v_5 0 99 := by rw [e_v_5]; exact ri_max rl_0 r_v_4 (by decide)
  have q_v_5 : mjmax (0 : Int32) v_4 = v_5 := by rw [e_v_5]; rfl
  have mo9 := m_u_1
  refine tg_iast hx hb hK hw h_vu_1 rfl 0 35 r_v_3 (by decide) r_v_5 (by exact fun _ _ _ => by decide) (fun _ _ _ _ _ => trivial) (by decide) dX8_put_20 (fun ws H locs hw hF9 hU9 => ?_)
  have m_u_1 := FLD.over hF9 m_u_1 (by decide)
  obtain ⟨sg_6, q_sg_6⟩ : ∃ q9 : OS, sA s0 2 (Int32.toNatClampNeg v_3) v_5 = q9 := ⟨_, rfl⟩
  have o_p0 : OV vw_WORLD Ps ws p0 sg_6 := by rw [← q_sg_6]; exact OV.putA (V := vw_WORLD) (t := 8) hF9 hU9 o_p0 mo9 (by decide) (by decide)
  simp only [f_X8_put__1, ↓reduceIte, q_v_2, q_v_3, q_v_4, q_v_5, q_sg_6] at hE
  subst hQ
  exact W.vret hx hb hr (fun t ht hW => ⟨⟨ws, rfl, ⟨⟨⟨(by rw [hR, ← hE]; exact o_p0), trivial⟩, trivial⟩, hw.1, hw.2.2.2.2.1⟩, by rw [ht]; exact hw.2.1, va_K.moved hW.alike hK, hw.2.2.1⟩, hw.2.2.2.1.F ht⟩) hw.2.2.2.1.2.2 dX8_put_21
abbrev wr_X3_readHas__1 : List (Nat × Nat) := [(7, 5), (7, 6), (7, 7), (7, 8), (7, 9), (7, 10), (7, 11)]
abbrev wa_X3_readHas__1 : List Nat := [8]
set_option maxHeartbeats 4000000 in
set_option maxRecDepth 100000 in
theorem c_X3_readHas__1 (l : Launch) (D : va_G) (cy : Nat → ClassId) (z : Nat → Nat) (sz : Nat) (Ps : PSI) (w0 : va_W) (hT : HT cy GG Ps w0) (p0 : Nat) (p1 : Nat) (p2 : Nat) (s0 : OS) (s1 : OS) (s2 : OS) (h_p0 : (p0, 25) ∈ Ps) (h_p1 : (p1, 26) ∈ Ps) (h_p2 : (p2, 24) ∈ Ps) (o_p0 : OV vw_POST Ps w0 p0 s0) (o_p1 : OV vw_TAPE Ps w0 p1 s1) (o_p2 : OV vw_WORLD Ps w0 p2 s2) : Met l yX3_readHas (Cond.code yX3_readHas cX3_readHas 7 none :: gT) ({ frames := 4, cells := 0, slots := 0, locals := 800 } : Room) (va_Pc [.ref p0, .ref p1, .ref p2] (PRE D cy z w0 sz)) (va_Qv (fun (u : va_W) => ((OV vw_POST Ps u p0 ((f_X3_readHas__1 s0 s1 s2).1) ∧ OV vw_TAPE Ps u p1 ((f_X3_readHas__1 s0 s1 s2).2.1) ∧ OV vw_WORLD Ps u p2 ((f_X3_readHas__1 s0 s1 s2).2.2) ∧ True) ∧ (True)) ∧ HT cy GG Ps u ∧ FR wr_X3_readHas__1 wa_X3_readHas__1 Ps w0 u) (BB D cy (va_A w0 sz) (fun (u : va_W) => u)) (va_A w0 sz)) 0 0 (va_A w0 sz) := by
  refine Met.ofW (cc := cX3_readHas) (maxL := 7) (ret := none) (by decide) rfl ?_
  intro p e s m args below meth c s₁ B hml hv
  obtain ⟨rfl, hsz, hP, hK, hD0, hSD⟩ := hv
  have hx := B.exec
  have hb := B.bytes
  have hr := B.returns
  have hlocks := B.notSynchronized
  have hts : ∀ w ∈ gT, w.before _ s = true := fun w h => atoms_spec (ws := Cond.code yX3_readHas cX3_readHas 7 none :: gT) B.pre w (List.mem_cons_of_mem _ h)
  have hown : s.vm.findClass RX3 = some m.cls := findClass_of_methodNamed B.named
  subst hsz
  have hD := hD0.self (sz := s.heap.size)
  generalize hAe : va_A w0 s.heap.size = A at hD hSD ⊢
  have hA : ∀ q : Nat, s.heap.size ≤ q → A q := fun q h => by rw [← hAe]; exact Or.inr h
  have hl := lv_entry ([.ref p0, .ref p1, .ref p2]) (n := 7) (Nat.le_of_ble_eq_true rfl)
  rw [lg_entry_eq]
  generalize (lg_sl ([.ref p0, .ref p1, .ref p2]) ++ List.replicate (7 - (lg_sl ([.ref p0, .ref p1, .ref p2])).length) Slot.unset).toArray = ls at hl ⊢
  have hl : lv_has ls 7 [(0, .ref p0), (1, .ref p1), (2, .ref p2)] := hl
  refine nameQ (fun Q hQ => ?_)
  have hw : WD D cy GG A s wr_X3_readHas__1 wa_X3_readHas__1 Ps w0 Ps w0 s.heap [] := ⟨hT, hP, hD, va_S.rf, FR.rf, hT.1, [], (List.append_nil _).symm⟩
  obtain ⟨R9, hR⟩ : ∃ q9 : OS × OS × OS, f_X3_readHas__1 s0 s1 s2 = q9 := ⟨_, rfl⟩
  have hE := hR
  refine lv_aload_n hx hb dX3_readHas_0 rfl (lv_at hl 1 rfl) ?_
  refine lv_aload_n hx hb dX3_readHas_1 rfl (lv_at hl 0 rfl) ?_
  refine lv_iconst (v := 2) hx hb dX3_readHas_2 (by decide) ?_
  refine tk_i (va_runV (As := [.ref p0, .int 2]) (rest := []) ⟨hx, hb, hml, hown, hts⟩ (c_X7_takeName__15 l D cy z s.heap.size Ps w0 hw.1 p1 p0 2 s1 s0 h_p1 h_p0 rl_2 o_p1 o_p0) (cwV 2 hts (gV tw_464 tw_465 tw_466 tw_2 tw_467) rfl rfl rfl (by decide +kernel) ⟨Nat.le_of_ble_eq_true rfl, Nat.le_of_ble_eq_true rfl⟩) (tg_preV hw hK hSD hA (ci := 7) (q := (RX7, TX7, 12)) rfl h_p1 rfl) rfl rfl hl.1 rfl (lv_room (Nat.le_of_ble_eq_true rfl)) dX3_readHas_3 ⟨Nat.le_of_ble_eq_true rfl, Nat.le_of_ble_eq_true rfl⟩) hw hA ⟨by decide, by decide⟩ (fun v_1 ws H locs hp_v_1 hw hF9 => ?_)
  obtain ⟨hfn, hp_v_1⟩ := hp_v_1
  have o_p2 := OV.over (V := vw_WORLD) hF9 o_p2 (by decide)
  obtain ⟨sg_2, q_sg_2⟩ : ∃ q9 : OS, (f_X7_takeName__12 (2 : Int32) s1 s0).1 = q9 := ⟨_, rfl⟩
  have o_p1 : OV vw_TAPE Ps ws p1 sg_2 := by rw [← q_sg_2]; exact hfn.1
  obtain ⟨sg_3, q_sg_3⟩ : ∃ q9 : OS, (f_X7_takeName__12 (2 : Int32) s1 s0).2.1 = q9 := ⟨_, rfl⟩
  have o_p0 : OV vw_POST Ps ws p0 sg_3 := by rw [← q_sg_3]; exact hfn.2.1
  have q_v_1 : (f_X7_takeName__12 (2 : Int32) s1 s0).2.2 = v_1 := hfn.2.2.1
  have r_v_1 : RI v_1 (-1) 5 := hp_v_1.1
  by_cases c9_v_1 : v_1.toInt < 0
  · have r_v_1 : RI v_1 (-1) (-1) := by unfold RI at r_v_1 ⊢; omega
    have x_FLT_p1 := (hp_v_1.2.2.2.2.1 (by omega)).1
    obtain ⟨v_4, m_v_4, r_v_4⟩ := id x_FLT_p1
    refine lv_istore_n (lv' := [(3, .int v_1), (0, .ref p0), (1, .ref p1), (2, .ref p2)]) hx hb dX3_readHas_6 rfl hl (by decide) rfl (fun ls hl => ?_)
    refine lv_aload_n hx hb dX3_readHas_7 rfl (lv_at hl 2 rfl) ?_
    refine lv_aload_n hx hb dX3_readHas_8 rfl (lv_at hl 1 rfl) ?_
    refine lv_iconst (v := 0) hx hb dX3_readHas_9 (by decide) ?_
    refine tk_ir (va_runV (As := [.ref p0, .int 0]) (rest := []) ⟨hx, hb, hml, hown, hts⟩ (c_X7_nameAhead__18 l D cy z H.size Ps ws hw.1 p1 p0 0 v_4 sg_2 sg_3 h_p1 h_p0 rl_0 r_v_4 m_v_4 o_p1 o_p0) (cwV 2 hts (gV tw_456 tw_457 tw_458 tw_2 tw_459) rfl rfl rfl (by decide +kernel) ⟨Nat.le_of_ble_eq_true rfl, Nat.le_of_ble_eq_true rfl⟩) (tg_preV hw hK hSD hA (ci := 7) (q := (RX7, TX7, 12)) rfl h_p1 rfl) rfl rfl hl.1 rfl (lv_room (Nat.le_of_ble_eq_true rfl)) dX3_readHas_10 ⟨Nat.le_of_ble_eq_true rfl, Nat.le_of_ble_eq_true rfl⟩) hw hA (fun v_5  H locs hp_v_5 hw => ?_)
    obtain ⟨hfn, hp_v_5⟩ := hp_v_5
    have q_v_5 : (f_X7_nameAhead__18 (0 : Int32) sg_2 sg_3) = v_5 := hfn.1
    have r_v_5 : RI v_5 (-1) (-1) := hp_v_5.1
    by_cases c9_v_5 : v_5.toInt < 0
    · have r_v_5 : RI v_5 (-1) (-1) := by unfold RI at r_v_5 ⊢; omega
      have x_FLT_p1 := (hp_v_5.2.2.2.2.1 (by omega)).1
      obtain ⟨v_6, m_v_6, r_v_6⟩ := id x_FLT_p1
      refine lv_istore (lv' := [(4, .int v_5), (3, .int v_1), (0, .ref p0), (1, .ref p1), (2, .ref p2)]) hx hb dX3_readHas_13 hl (by decide) rfl (fun ls hl => ?_)
      refine lv_iload_n hx hb dX3_readHas_15 rfl (lv_at hl 1 rfl) ?_
      refine lv_iconst (v := (-1)) hx hb dX3_readHas_16 (by decide) ?_
      refine lv_icmp_eq (tgt := 30) hx hb dX3_readHas_17 (by decide) (fun c_17 => ?_) (fun c_17 => ?_)
      · refine lv_iconst (v := 0) hx hb dX3_readHas_30 (by decide) ?_
        refine lv_istore (lv' := [(5, .int 0), (4, .int v_5), (3, .int v_1), (0, .ref p0), (1, .ref p1), (2, .ref p2)]) hx hb dX3_readHas_31 hl (by decide) rfl (fun ls hl => ?_)
        refine lv_iload hx hb dX3_readHas_33 (lv_at hl 0 rfl) ?_
        refine lv_if_eq (tgt := 53) hx hb dX3_readHas_35 (by decide) (fun _ => ?_) (fun c9 => absurd (by decide) c9)
        refine lv_aload_n hx hb dX3_readHas_53 rfl (lv_at hl 4 rfl) ?_
        refine tk_vr (va_runV (As := []) (rest := []) ⟨hx, hb, hml, hown, hts⟩ (c_X7_pass__4 l D cy z H.size Ps ws hw.1 p1 v_6 sg_2 h_p1 r_v_6 m_v_6 o_p1) (cwV 0 hts (gV tw_451 tw_425 tw_426 tw_2 tw_427) rfl rfl rfl (by decide +kernel) ⟨Nat.le_of_ble_eq_true rfl, Nat.le_of_ble_eq_true rfl⟩) (tg_preV hw hK hSD hA (ci := 7) (q := (RX7, TX7, 12)) rfl h_p1 rfl) rfl rfl hl.1 rfl (lv_room (Nat.le_of_ble_eq_true rfl)) dX3_readHas_54 ⟨Nat.le_of_ble_eq_true rfl, Nat.le_of_ble_eq_true rfl⟩) hw hA (fun  H locs hp_v_7 hw => ?_)
        obtain ⟨hfn, hp_v_7⟩ := hp_v_7
        refine lv_aload_n hx hb dX3_readHas_57 rfl (lv_at hl 4 rfl) ?_
        refine lv_iconst (v := 1) hx hb dX3_readHas_58 (by decide) ?_
        refine lv_bipush (v := 99) hx hb dX3_readHas_59 (by decide) ?_
        refine tk_ir (va_runV (As := [.int 1, .int 99]) (rest := []) ⟨hx, hb, hml, hown, hts⟩ (c_X7_takeNumber__6 l D cy z H.size Ps ws hw.1 p1 1 99 v_6 sg_2 h_p1 (rl_1.to (by decide)) (rl_99.to (by decide)) r_v_6 m_v_6 o_p1) (cwV 2 hts (gV tw_477 tw_478 tw_479 tw_2 tw_480) rfl rfl rfl (by decide +kernel) ⟨Nat.le_of_ble_eq_true rfl, Nat.le_of_ble_eq_true rfl⟩) (tg_preV hw hK hSD hA (ci := 7) (q := (RX7, TX7, 12)) rfl h_p1 rfl) rfl rfl hl.1 rfl (lv_room (Nat.le_of_ble_eq_true rfl)) dX3_readHas_61 ⟨Nat.le_of_ble_eq_true rfl, Nat.le_of_ble_eq_true rfl⟩) hw hA (fun v_8  H locs hp_v_8 hw => ?_)
        obtain ⟨hfn, hp_v_8⟩ := hp_v_8
        have q_v_8 : (f_X7_takeNumber__6 (1 : Int32) (99 : Int32) sg_2) = v_8 := hfn.1
        have r_v_8 : RI v_8 (-2147483648) 2147483647 := hp_v_8.1
        refine lv_istore (lv' := [(6, .int v_8), (5, .int 0), (4, .int v_5), (3, .int v_1), (0, .ref p0), (1, .ref p1), (2, .ref p2)]) hx hb dX3_readHas_64 hl (by decide) rfl (fun ls hl => ?_)
        refine lv_iload hx hb dX3_readHas_66 (lv_at hl 1 rfl) ?_
        refine lv_if_eq (tgt := 80) hx hb dX3_readHas_68 (by decide) (fun _ => ?_) (fun c9 => absurd (by decide) c9)
        simp only [f_X3_readHas__1, ↓reduceIte, q_sg_2, q_sg_3, q_v_1, eq_true c9_v_1, q_v_5, eq_true c9_v_5, eq_true c_17, q_v_8] at hE
        subst hQ
        exact W.vret hx hb hr (fun t ht hW => ⟨⟨ws, rfl, ⟨⟨⟨(by rw [hR, ← hE]; exact o_p0), (by rw [hR, ← hE]; exact o_p1), (by rw [hR, ← hE]; exact o_p2), trivial⟩, trivial⟩, hw.1, hw.2.2.2.2.1⟩, by rw [ht]; exact hw.2.1, va_K.moved hW.alike hK, hw.2.2.1⟩, hw.2.2.2.1.F ht⟩) hw.2.2.2.1.2.2 dX3_readHas_80
      · exact absurd (r_v_1.eq.trans rl_m1.eq.symm) ((ti_ne c_17))
    · exact absurd c9_v_5 (by unfold RI at r_v_5; omega)
  · have r_v_1 : RI v_1 0 5 := by unfold RI at r_v_1 ⊢; omega
    refine lv_istore_n (lv' := [(3, .int v_1), (0, .ref p0), (1, .ref p1), (2, .ref p2)]) hx hb dX3_readHas_6 rfl hl (by decide) rfl (fun ls hl => ?_)
    refine lv_aload_n hx hb dX3_readHas_7 rfl (lv_at hl 2 rfl) ?_
    refine lv_aload_n hx hb dX3_readHas_8 rfl (lv_at hl 1 rfl) ?_
    refine lv_iconst (v := 0) hx hb dX3_readHas_9 (by decide) ?_
    refine tk_i (va_runV (As := [.ref p0, .int 0]) (rest := []) ⟨hx, hb, hml, hown, hts⟩ (c_X7_nameAhead__15 l D cy z H.size Ps ws hw.1 p1 p0 0 sg_2 sg_3 h_p1 h_p0 rl_0 o_p1 o_p0) (cwV 2 hts (gV tw_456 tw_457 tw_458 tw_2 tw_459) rfl rfl rfl (by decide +kernel) ⟨Nat.le_of_ble_eq_true rfl, Nat.le_of_ble_eq_true rfl⟩) (tg_preV hw hK hSD hA (ci := 7) (q := (RX7, TX7, 12)) rfl h_p1 rfl) rfl rfl hl.1 rfl (lv_room (Nat.le_of_ble_eq_true rfl)) dX3_readHas_10 ⟨Nat.le_of_ble_eq_true rfl, Nat.le_of_ble_eq_true rfl⟩) hw hA ⟨by decide, by decide⟩ (fun v_9 ws H locs hp_v_9 hw hF9 => ?_)
    obtain ⟨hfn, hp_v_9⟩ := hp_v_9
    have o_p2 := OV.over (V := vw_WORLD) hF9 o_p2 (by decide)
    obtain ⟨sg_10, q_sg_10⟩ : ∃ q9 : OS, (f_X7_nameAhead__13 (0 : Int32) sg_2 sg_3).1 = q9 := ⟨_, rfl⟩
    have o_p1 : OV vw_TAPE Ps ws p1 sg_10 := by rw [← q_sg_10]; exact hfn.1
    obtain ⟨sg_11, q_sg_11⟩ : ∃ q9 : OS, (f_X7_nameAhead__13 (0 : Int32) sg_2 sg_3).2.1 = q9 := ⟨_, rfl⟩
    have o_p0 : OV vw_POST Ps ws p0 sg_11 := by rw [← q_sg_11]; exact hfn.2.1
    have q_v_9 : (f_X7_nameAhead__13 (0 : Int32) sg_2 sg_3).2.2 = v_9 := hfn.2.2.1
    have r_v_9 : RI v_9 (-1) 5 := hp_v_9.1
    by_cases c9_v_9 : v_9.toInt < 0
    · have r_v_9 : RI v_9 (-1) (-1) := by unfold RI at r_v_9 ⊢; omega
      have x_FLT_p1 := (hp_v_9.2.2.2.2.1 (by omega)).1
      obtain ⟨v_12, m_v_12, r_v_12⟩ := id x_FLT_p1
      refine lv_istore (lv' := [(4, .int v_9), (3, .int v_1), (0, .ref p0), (1, .ref p1), (2, .ref p2)]) hx hb dX3_readHas_13 hl (by decide) rfl (fun ls hl => ?_)
      refine lv_iload_n hx hb dX3_readHas_15 rfl (lv_at hl 1 rfl) ?_
      refine lv_iconst (v := (-1)) hx hb dX3_readHas_16 (by decide) ?_
      refine lv_icmp_eq (tgt := 30) hx hb dX3_readHas_17 (by decide) (fun c_17 => ?_) (fun c_17 => ?_)
      · have r_v_1 : RI v_1 0 (-1) := rc_eq1 r_v_1 rl_m1 (ti_eq c_17) (by decide)
        exact (r_v_1.no (by decide)).elim
      · refine lv_iload hx hb dX3_readHas_20 (lv_at hl 0 rfl) ?_
        refine lv_iconst (v := (-1)) hx hb dX3_readHas_22 (by decide) ?_
        refine lv_icmp_eq (tgt := 30) hx hb dX3_readHas_23 (by decide) (fun c_23 => ?_) (fun c_23 => ?_)
        · refine lv_iconst (v := 0) hx hb dX3_readHas_30 (by decide) ?_
          refine lv_istore (lv' := [(5, .int 0), (4, .int v_9), (3, .int v_1), (0, .ref p0), (1, .ref p1), (2, .ref p2)]) hx hb dX3_readHas_31 hl (by decide) rfl (fun ls hl => ?_)
          refine lv_iload hx hb dX3_readHas_33 (lv_at hl 0 rfl) ?_
          refine lv_if_eq (tgt := 53) hx hb dX3_readHas_35 (by decide) (fun _ => ?_) (fun c9 => absurd (by decide) c9)
          refine lv_aload_n hx hb dX3_readHas_53 rfl (lv_at hl 4 rfl) ?_
          refine tk_vr (va_runV (As := []) (rest := []) ⟨hx, hb, hml, hown, hts⟩ (c_X7_pass__4 l D cy z H.size Ps ws hw.1 p1 v_12 sg_10 h_p1 r_v_12 m_v_12 o_p1) (cwV 0 hts (gV tw_451 tw_425 tw_426 tw_2 tw_427) rfl rfl rfl (by decide +kernel) ⟨Nat.le_of_ble_eq_true rfl, Nat.le_of_ble_eq_true rfl⟩) (tg_preV hw hK hSD hA (ci := 7) (q := (RX7, TX7, 12)) rfl h_p1 rfl) rfl rfl hl.1 rfl (lv_room (Nat.le_of_ble_eq_true rfl)) dX3_readHas_54 ⟨Nat.le_of_ble_eq_true rfl, Nat.le_of_ble_eq_true rfl⟩) hw hA (fun  H locs hp_v_13 hw => ?_)
          obtain ⟨hfn, hp_v_13⟩ := hp_v_13
          refine lv_aload_n hx hb dX3_readHas_57 rfl (lv_at hl 4 rfl) ?_
          refine lv_iconst (v := 1) hx hb dX3_readHas_58 (by decide) ?_
          refine lv_bipush (v := 99) hx hb dX3_readHas_59 (by decide) ?_
          refine tk_ir (va_runV (As := [.int 1, .int 99]) (rest := []) ⟨hx, hb, hml, hown, hts⟩ (c_X7_takeNumber__6 l D cy z H.size Ps ws hw.1 p1 1 99 v_12 sg_10 h_p1 (rl_1.to (by decide)) (rl_99.to (by decide)) r_v_12 m_v_12 o_p1) (cwV 2 hts (gV tw_477 tw_478 tw_479 tw_2 tw_480) rfl rfl rfl (by decide +kernel) ⟨Nat.le_of_ble_eq_true rfl, Nat.le_of_ble_eq_true rfl⟩) (tg_preV hw hK hSD hA (ci := 7) (q := (RX7, TX7, 12)) rfl h_p1 rfl) rfl rfl hl.1 rfl (lv_room (Nat.le_of_ble_eq_true rfl)) dX3_readHas_61 ⟨Nat.le_of_ble_eq_true rfl, Nat.le_of_ble_eq_true rfl⟩) hw hA (fun v_14  H locs hp_v_14 hw => ?_)
          obtain ⟨hfn, hp_v_14⟩ := hp_v_14
          have q_v_14 : (f_X7_takeNumber__6 (1 : Int32) (99 : Int32) sg_10) = v_14 := hfn.1
          have r_v_14 : RI v_14 (-2147483648) 2147483647 := hp_v_14.1
          refine lv_istore (lv' := [(6, .int v_14), (5, .int 0), (4, .int v_9), (3, .int v_1), (0, .ref p0), (1, .ref p1), (2, .ref p2)]) hx hb dX3_readHas_64 hl (by decide) rfl (fun ls hl => ?_)
          refine lv_iload hx hb dX3_readHas_66 (lv_at hl 1 rfl) ?_
          refine lv_if_eq (tgt := 80) hx hb dX3_readHas_68 (by decide) (fun _ => ?_) (fun c9 => absurd (by decide) c9)
          simp only [f_X3_readHas__1, ↓reduceIte, q_sg_2, q_sg_3, q_v_1, eq_false c9_v_1, q_sg_10, q_sg_11, q_v_9, eq_true c9_v_9, eq_false c_17, eq_true c_23, q_v_14] at hE
          subst hQ
          exact W.vret hx hb hr (fun t ht hW => ⟨⟨ws, rfl, ⟨⟨⟨(by rw [hR, ← hE]; exact o_p0), (by rw [hR, ← hE]; exact o_p1), (by rw [hR, ← hE]; exact o_p2), trivial⟩, trivial⟩, hw.1, hw.2.2.2.2.1⟩, by rw [ht]; exact hw.2.1, va_K.moved hW.alike hK, hw.2.2.1⟩, hw.2.2.2.1.F ht⟩) hw.2.2.2.1.2.2 dX3_readHas_80
        · exact absurd (r_v_9.eq.trans rl_m1.eq.symm) ((ti_ne c_23))
    · have r_v_9 : RI v_9 0 5 := by unfold RI at r_v_9 ⊢; omega
      refine lv_istore (lv' := [(4, .int v_9), (3, .int v_1), (0, .ref p0), (1, .ref p1), (2, .ref p2)]) hx hb dX3_readHas_13 hl (by decide) rfl (fun ls hl => ?_)
      refine lv_iload_n hx hb dX3_readHas_15 rfl (lv_at hl 1 rfl) ?_
      refine lv_iconst (v := (-1)) hx hb dX3_readHas_16 (by decide) ?_
      refine lv_icmp_eq (tgt := 30) hx hb dX3_readHas_17 (by decide) (fun c_17 => ?_) (fun c_17 => ?_)
      · have r_v_1 : RI v_1 0 (-1) := rc_eq1 r_v_1 rl_m1 (ti_eq c_17) (by decide)
        exact (r_v_1.no (by decide)).elim
      · refine lv_iload hx hb dX3_readHas_20 (lv_at hl 0 rfl) ?_
        refine lv_iconst (v := (-1)) hx hb dX3_readHas_22 (by decide) ?_
        refine lv_icmp_eq (tgt := 30) hx hb dX3_readHas_23 (by decide) (fun c_23 => ?_) (fun c_23 => ?_)
        · have r_v_9 : RI v_9 0 (-1) := rc_eq1 r_v_9 rl_m1 (ti_eq c_23) (by decide)
          exact (r_v_9.no (by decide)).elim
        · refine lv_iconst (v := 1) hx hb dX3_readHas_26 (by decide) ?_
          refine lv_goto (tgt := 31) hx hb dX3_readHas_27 (by decide) ?_
          refine lv_istore (lv' := [(5, .int 1), (4, .int v_9), (3, .int v_1), (0, .ref p0), (1, .ref p1), (2, .ref p2)]) hx hb dX3_readHas_31 hl (by decide) rfl (fun ls hl => ?_)
          refine lv_iload hx hb dX3_readHas_33 (lv_at hl 0 rfl) ?_
          refine lv_if_eq (tgt := 53) hx hb dX3_readHas_35 (by decide) (fun c9 => absurd c9 (by decide)) (fun _ => ?_)
          refine lv_aload_n hx hb dX3_readHas_38 rfl (lv_at hl 5 rfl) ?_
          refine lv_iload_n hx hb dX3_readHas_39 rfl (lv_at hl 2 rfl) ?_
          refine lv_iload hx hb dX3_readHas_40 (lv_at hl 1 rfl) ?_
          refine tk_ir (va_runV (As := [.int v_1, .int v_9]) (rest := []) ⟨hx, hb, hml, hown, hts⟩ (c_X8_has__1 l D cy z H.size Ps ws hw.1 p2 v_1 v_9 s2 h_p2 r_v_1 r_v_9 o_p2) (cwV 2 hts (gV tw_473 tw_474 tw_475 tw_12 tw_476) rfl rfl rfl (by decide +kernel) ⟨Nat.le_of_ble_eq_true rfl, Nat.le_of_ble_eq_true rfl⟩) (tg_preV hw hK hSD hA (ci := 8) (q := (RX8, TX8, 13)) rfl h_p2 rfl) rfl rfl hl.1 rfl (lv_room (Nat.le_of_ble_eq_true rfl)) dX3_readHas_42 ⟨Nat.le_of_ble_eq_true rfl, Nat.le_of_ble_eq_true rfl⟩) hw hA (fun v_15  H locs hp_v_15 hw => ?_)
          obtain ⟨hfn, hp_v_15⟩ := hp_v_15
          have q_v_15 : (f_X8_has__1 v_1 v_9 s2) = v_15 := hfn.1
          have r_v_15 : RI v_15 (-2147483648) 2147483647 := hp_v_15.1
          refine lv_if_le (tgt := 53) hx hb dX3_readHas_45 (by decide) (fun c_45 => ?_) (fun c_45 => ?_)
          · have r_v_15 : RI v_15 (-2147483648) 0 := rc_le1 r_v_15 rl_0 (ti_le c_45) (by decide)
            refine lv_aload_n hx hb dX3_readHas_53 rfl (lv_at hl 4 rfl) ?_
            refine tk_v (va_runV (As := []) (rest := []) ⟨hx, hb, hml, hown, hts⟩ (c_X7_pass__6 l D cy z H.size Ps ws hw.1 p1 sg_10 h_p1 o_p1) (cwV 0 hts (gV tw_451 tw_425 tw_426 tw_2 tw_427) rfl rfl rfl (by decide +kernel) ⟨Nat.le_of_ble_eq_true rfl, Nat.le_of_ble_eq_true rfl⟩) (tg_preV hw hK hSD hA (ci := 7) (q := (RX7, TX7, 12)) rfl h_p1 rfl) rfl rfl hl.1 rfl (lv_room (Nat.le_of_ble_eq_true rfl)) dX3_readHas_54 ⟨Nat.le_of_ble_eq_true rfl, Nat.le_of_ble_eq_true rfl⟩) hw hA ⟨by decide, by decide⟩ (fun ws H locs hp_v_16 hw hF9 => ?_)
            obtain ⟨hfn, hp_v_16⟩ := hp_v_16
            have o_p0 := OV.over (V := vw_POST) hF9 o_p0 (by decide)
            have o_p2 := OV.over (V := vw_WORLD) hF9 o_p2 (by decide)
            obtain ⟨sg_17, q_sg_17⟩ : ∃ q9 : OS, (f_X7_pass__6 sg_10) = q9 := ⟨_, rfl⟩
            have o_p1 : OV vw_TAPE Ps ws p1 sg_17 := by rw [← q_sg_17]; exact hfn.1
            refine lv_aload_n hx hb dX3_readHas_57 rfl (lv_at hl 4 rfl) ?_
            refine lv_iconst (v := 1) hx hb dX3_readHas_58 (by decide) ?_
            refine lv_bipush (v := 99) hx hb dX3_readHas_59 (by decide) ?_
            refine tk_i (va_runV (As := [.int 1, .int 99]) (rest := []) ⟨hx, hb, hml, hown, hts⟩ (c_X7_takeNumber__5 l D cy z H.size Ps ws hw.1 p1 1 99 sg_17 h_p1 (rl_1.to (by decide)) (rl_99.to (by decide)) o_p1) (cwV 2 hts (gV tw_477 tw_478 tw_479 tw_2 tw_480) rfl rfl rfl (by decide +kernel) ⟨Nat.le_of_ble_eq_true rfl, Nat.le_of_ble_eq_true rfl⟩) (tg_preV hw hK hSD hA (ci := 7) (q := (RX7, TX7, 12)) rfl h_p1 rfl) rfl rfl hl.1 rfl (lv_room (Nat.le_of_ble_eq_true rfl)) dX3_readHas_61 ⟨Nat.le_of_ble_eq_true rfl, Nat.le_of_ble_eq_true rfl⟩) hw hA ⟨by decide, by decide⟩ (fun v_18 ws H locs hp_v_18 hw hF9 => ?_)
            obtain ⟨hfn, hp_v_18⟩ := hp_v_18
            have o_p0 := OV.over (V := vw_POST) hF9 o_p0 (by decide)
            have o_p2 := OV.over (V := vw_WORLD) hF9 o_p2 (by decide)
            obtain ⟨sg_19, q_sg_19⟩ : ∃ q9 : OS, (f_X7_takeNumber__5 (1 : Int32) (99 : Int32) sg_17).1 = q9 := ⟨_, rfl⟩
            have o_p1 : OV vw_TAPE Ps ws p1 sg_19 := by rw [← q_sg_19]; exact hfn.1
            have q_v_18 : (f_X7_takeNumber__5 (1 : Int32) (99 : Int32) sg_17).2 = v_18 := hfn.2.1
            have r_v_18 : RI v_18 (-2147483648) 2147483647 := hp_v_18.1
            refine lv_istore (lv' := [(6, .int v_18), (5, .int 1), (4, .int v_9), (3, .int v_1), (0, .ref p0), (1, .ref p1), (2, .ref p2)]) hx hb dX3_readHas_64 hl (by decide) rfl (fun ls hl => ?_)
            refine lv_iload hx hb dX3_readHas_66 (lv_at hl 1 rfl) ?_
            refine lv_if_eq (tgt := 80) hx hb dX3_readHas_68 (by decide) (fun c9 => absurd c9 (by decide)) (fun _ => ?_)
            refine lv_aload_n hx hb dX3_readHas_71 rfl (lv_at hl 6 rfl) ?_
            refine lv_iload_n hx hb dX3_readHas_72 rfl (lv_at hl 3 rfl) ?_
            refine lv_iload hx hb dX3_readHas_73 (lv_at hl 2 rfl) ?_
            refine lv_iload hx hb dX3_readHas_75 (lv_at hl 0 rfl) ?_
            refine tk_v (va_runV (As := [.int v_1, .int v_9, .int v_18]) (rest := []) ⟨hx, hb, hml, hown, hts⟩ (c_X8_put__1 l D cy z H.size Ps ws hw.1 p2 v_1 v_9 v_18 s2 h_p2 r_v_1 r_v_9 r_v_18 o_p2) (cwV 3 hts (gV tw_481 tw_482 tw_483 tw_12 tw_484) rfl rfl rfl (by decide +kernel) ⟨Nat.le_of_ble_eq_true rfl, Nat.le_of_ble_eq_true rfl⟩) (tg_preV hw hK hSD hA (ci := 8) (q := (RX8, TX8, 13)) rfl h_p2 rfl) rfl rfl hl.1 rfl (lv_room (Nat.le_of_ble_eq_true rfl)) dX3_readHas_77 ⟨Nat.le_of_ble_eq_true rfl, Nat.le_of_ble_eq_true rfl⟩) hw hA ⟨by decide, by decide⟩ (fun ws H locs hp_v_20 hw hF9 => ?_)
            obtain ⟨hfn, hp_v_20⟩ := hp_v_20
            have o_p0 := OV.over (V := vw_POST) hF9 o_p0 (by decide)
            have o_p1 := OV.over (V := vw_TAPE) hF9 o_p1 (by decide)
            obtain ⟨sg_21, q_sg_21⟩ : ∃ q9 : OS, (f_X8_put__1 v_1 v_9 v_18 s2) = q9 := ⟨_, rfl⟩
            have o_p2 : OV vw_WORLD Ps ws p2 sg_21 := by rw [← q_sg_21]; exact hfn.1
            simp only [f_X3_readHas__1, ↓reduceIte, q_sg_2, q_sg_3, q_v_1, eq_false c9_v_1, q_sg_10, q_sg_11, q_v_9, eq_false c9_v_9, eq_false c_17, eq_false c_23, q_v_15, eq_true c_45, q_sg_17, q_sg_19, q_v_18, q_sg_21] at hE
            subst hQ
            exact W.vret hx hb hr (fun t ht hW => ⟨⟨ws, rfl, ⟨⟨⟨(by rw [hR, ← hE]; exact o_p0), (by rw [hR, ← hE]; exact o_p1), (by rw [hR, ← hE]; exact o_p2), trivial⟩, trivial⟩, hw.1, hw.2.2.2.2.1⟩, by rw [ht]; exact hw.2.1, va_K.moved hW.alike hK, hw.2.2.1⟩, hw.2.2.2.1.F ht⟩) hw.2.2.2.1.2.2 dX3_readHas_80
          · have r_v_15 : RI v_15 1 2147483647 := rc_lt2 rl_0 r_v_15 (ti_nle c_45) (by decide)
            refine lv_aload_n hx hb dX3_readHas_48 rfl (lv_at hl 4 rfl) ?_
            refine lv_iconst (v := 3) hx hb dX3_readHas_49 (by decide) ?_
            refine tk_v (va_runV (As := [.int 3]) (rest := []) ⟨hx, hb, hml, hown, hts⟩ (c_X7_refuse__4 l D cy z H.size Ps ws hw.1 p1 3 sg_10 h_p1 (rl_3.to (by decide)) o_p1) (cwV 1 hts (gV tw_450 tw_443 tw_444 tw_2 tw_445) rfl rfl rfl (by decide +kernel) ⟨Nat.le_of_ble_eq_true rfl, Nat.le_of_ble_eq_true rfl⟩) (tg_preV hw hK hSD hA (ci := 7) (q := (RX7, TX7, 12)) rfl h_p1 rfl) rfl rfl hl.1 rfl (lv_room (Nat.le_of_ble_eq_true rfl)) dX3_readHas_50 ⟨Nat.le_of_ble_eq_true rfl, Nat.le_of_ble_eq_true rfl⟩) hw hA ⟨by decide, by decide⟩ (fun ws H locs hp_v_22 hw hF9 => ?_)
            obtain ⟨hfn, hp_v_22⟩ := hp_v_22
            have o_p0 := OV.over (V := vw_POST) hF9 o_p0 (by decide)
            have o_p2 := OV.over (V := vw_WORLD) hF9 o_p2 (by decide)
            obtain ⟨sg_23, q_sg_23⟩ : ∃ q9 : OS, (f_X7_refuse__4 (3 : Int32) sg_10) = q9 := ⟨_, rfl⟩
            have o_p1 : OV vw_TAPE Ps ws p1 sg_23 := by rw [← q_sg_23]; exact hfn.1
            obtain ⟨v_24, m_v_24, r_v_24⟩ := (hp_v_22.1)
            refine lv_aload_n hx hb dX3_readHas_53 rfl (lv_at hl 4 rfl) ?_
            refine tk_vr (va_runV (As := []) (rest := []) ⟨hx, hb, hml, hown, hts⟩ (c_X7_pass__4 l D cy z H.size Ps ws hw.1 p1 v_24 sg_23 h_p1 r_v_24 m_v_24 o_p1) (cwV 0 hts (gV tw_451 tw_425 tw_426 tw_2 tw_427) rfl rfl rfl (by decide +kernel) ⟨Nat.le_of_ble_eq_true rfl, Nat.le_of_ble_eq_true rfl⟩) (tg_preV hw hK hSD hA (ci := 7) (q := (RX7, TX7, 12)) rfl h_p1 rfl) rfl rfl hl.1 rfl (lv_room (Nat.le_of_ble_eq_true rfl)) dX3_readHas_54 ⟨Nat.le_of_ble_eq_true rfl, Nat.le_of_ble_eq_true rfl⟩) hw hA (fun  H locs hp_v_25 hw => ?_)
            obtain ⟨hfn, hp_v_25⟩ := hp_v_25
            refine lv_aload_n hx hb dX3_readHas_57 rfl (lv_at hl 4 rfl) ?_
            refine lv_iconst (v := 1) hx hb dX3_readHas_58 (by decide) ?_
            refine lv_bipush (v := 99) hx hb dX3_readHas_59 (by decide) ?_
            refine tk_ir (va_runV (As := [.int 1, .int 99]) (rest := []) ⟨hx, hb, hml, hown, hts⟩ (c_X7_takeNumber__6 l D cy z H.size Ps ws hw.1 p1 1 99 v_24 sg_23 h_p1 (rl_1.to (by decide)) (rl_99.to (by decide)) r_v_24 m_v_24 o_p1) (cwV 2 hts (gV tw_477 tw_478 tw_479 tw_2 tw_480) rfl rfl rfl (by decide +kernel) ⟨Nat.le_of_ble_eq_true rfl, Nat.le_of_ble_eq_true rfl⟩) (tg_preV hw hK hSD hA (ci := 7) (q := (RX7, TX7, 12)) rfl h_p1 rfl) rfl rfl hl.1 rfl (lv_room (Nat.le_of_ble_eq_true rfl)) dX3_readHas_61 ⟨Nat.le_of_ble_eq_true rfl, Nat.le_of_ble_eq_true rfl⟩) hw hA (fun v_26  H locs hp_v_26 hw => ?_)
            obtain ⟨hfn, hp_v_26⟩ := hp_v_26
            have q_v_26 : (f_X7_takeNumber__6 (1 : Int32) (99 : Int32) sg_23) = v_26 := hfn.1
            have r_v_26 : RI v_26 (-2147483648) 2147483647 := hp_v_26.1
            refine lv_istore (lv' := [(6, .int v_26), (5, .int 1), (4, .int v_9), (3, .int v_1), (0, .ref p0), (1, .ref p1), (2, .ref p2)]) hx hb dX3_readHas_64 hl (by decide) rfl (fun ls hl => ?_)
            refine lv_iload hx hb dX3_readHas_66 (lv_at hl 1 rfl) ?_
            refine lv_if_eq (tgt := 80) hx hb dX3_readHas_68 (by decide) (fun c9 => absurd c9 (by decide)) (fun _ => ?_)
            refine lv_aload_n hx hb dX3_readHas_71 rfl (lv_at hl 6 rfl) ?_
            refine lv_iload_n hx hb dX3_readHas_72 rfl (lv_at hl 3 rfl) ?_
            refine lv_iload hx hb dX3_readHas_73 (lv_at hl 2 rfl) ?_
            refine lv_iload hx hb dX3_readHas_75 (lv_at hl 0 rfl) ?_
            refine tk_v (va_runV (As := [.int v_1, .int v_9, .int v_26]) (rest := []) ⟨hx, hb, hml, hown, hts⟩ (c_X8_put__1 l D cy z H.size Ps ws hw.1 p2 v_1 v_9 v_26 s2 h_p2 r_v_1 r_v_9 r_v_26 o_p2) (cwV 3 hts (gV tw_481 tw_482 tw_483 tw_12 tw_484) rfl rfl rfl (by decide +kernel) ⟨Nat.le_of_ble_eq_true rfl, Nat.le_of_ble_eq_true rfl⟩) (tg_preV hw hK hSD hA (ci := 8) (q := (RX8, TX8, 13)) rfl h_p2 rfl) rfl rfl hl.1 rfl (lv_room (Nat.le_of_ble_eq_true rfl)) dX3_readHas_77 ⟨Nat.le_of_ble_eq_true rfl, Nat.le_of_ble_eq_true rfl⟩) hw hA ⟨by decide, by decide⟩ (fun ws H locs hp_v_27 hw hF9 => ?_)
            have m_v_24 := FLD.over hF9 m_v_24 (by decide)
            obtain ⟨hfn, hp_v_27⟩ := hp_v_27
            have o_p0 := OV.over (V := vw_POST) hF9 o_p0 (by decide)
            have o_p1 := OV.over (V := vw_TAPE) hF9 o_p1 (by decide)
            obtain ⟨sg_28, q_sg_28⟩ : ∃ q9 : OS, (f_X8_put__1 v_1 v_9 v_26 s2) = q9 := ⟨_, rfl⟩
            have o_p2 : OV vw_WORLD Ps ws p2 sg_28 := by rw [← q_sg_28]; exact hfn.1
            simp only [f_X3_readHas__1, ↓reduceIte, q_sg_2, q_sg_3, q_v_1, eq_false c9_v_1, q_sg_10, q_sg_11, q_v_9, eq_false c9_v_9, eq_false c_17, eq_false c_23, q_v_15, eq_false c_45, q_sg_23, q_v_26, q_sg_28] at hE
            subst hQ
            exact W.vret hx hb hr (fun t ht hW => ⟨⟨ws, rfl, ⟨⟨⟨(by rw [hR, ← hE]; exact o_p0), (by rw [hR, ← hE]; exact o_p1), (by rw [hR, ← hE]; exact o_p2), trivial⟩, trivial⟩, hw.1, hw.2.2.2.2.1⟩, by rw [ht]; exact hw.2.1, va_K.moved hW.alike hK, hw.2.2.1⟩, hw.2.2.2.1.F ht⟩) hw.2.2.2.1.2.2 dX3_readHas_80
abbrev wr_X3_beginsLine__19 : List (Nat × Nat) := [(7, 5), (7, 6), (7, 7), (7, 8), (7, 9)]
abbrev wa_X3_beginsLine__19 : List Nat := []
set_option maxHeartbeats 4000000 in
set_option maxRecDepth 100000 in
theorem c_X3_beginsLine__19 (l : Launch) (D : va_G) (cy : Nat → ClassId) (z : Nat → Nat) (sz : Nat) (Ps : PSI) (w0 : va_W) (hT : HT cy GG Ps w0) (p0 : Nat) (p1 : Nat) (p2 : Int32) (f1_10 : Int32) (s0 : OS) (s1 : OS) (h_p0 : (p0, 25) ∈ Ps) (h_p1 : (p1, 26) ∈ Ps) (r_p2 : RI p2 134 134) (r_f1_10 : RI f1_10 0 0) (m_f1_10 : FLD w0 p1 7 10 (.int f1_10)) (o_p0 : OV vw_POST Ps w0 p0 s0) (o_p1 : OV vw_TAPE Ps w0 p1 s1) : Met l yX3_beginsLine (Cond.code yX3_beginsLine cX3_beginsLine 3 (some .boolean) :: gT) ({ frames := 3, cells := 0, slots := 0, locals := 600 } : Room) (va_Pc [.ref p0, .ref p1, .int p2] (PRE D cy z w0 sz)) (va_Qi (fun (r : Int32) (u : va_W) => ((OV vw_POST Ps u p0 ((f_X3_beginsLine__17 p2 s0 s1).1) ∧ OV vw_TAPE Ps u p1 ((f_X3_beginsLine__17 p2 s0 s1).2.1) ∧ (f_X3_beginsLine__17 p2 s0 s1).2.2 = r ∧ True) ∧ (RI r 1 1 ∧ (r = 0 → True) ∧ (¬ r = 0 → (∃ v9 : Int32, FLD u p1 7 10 (.int v9) ∧ RI v9 0 0) ∧ True))) ∧ HT cy GG Ps u ∧ FR wr_X3_beginsLine__19 wa_X3_beginsLine__19 Ps w0 u) (BB D cy (va_A w0 sz) (fun (u : va_W) => u)) (va_A w0 sz)) 0 0 (va_A w0 sz) := by
  refine Met.ofW (cc := cX3_beginsLine) (maxL := 3) (ret := (some .boolean)) (by decide) rfl ?_
  intro p e s m args below meth c s₁ B hml hv
  obtain ⟨rfl, hsz, hP, hK, hD0, hSD⟩ := hv
  have hx := B.exec
  have hb := B.bytes
  have hr := B.returns
  have hlocks := B.notSynchronized
  have hts : ∀ w ∈ gT, w.before _ s = true := fun w h => atoms_spec (ws := Cond.code yX3_beginsLine cX3_beginsLine 3 (some .boolean) :: gT) B.pre w (List.mem_cons_of_mem _ h)
  have hown : s.vm.findClass RX3 = some m.cls := findClass_of_methodNamed B.named
  subst hsz
  have hD := hD0.self (sz := s.heap.size)
  generalize hAe : va_A w0 s.heap.size = A at hD hSD ⊢
  have hA : ∀ q : Nat, s.heap.size ≤ q → A q := fun q h => by rw [← hAe]; exact Or.inr h
  have hl := lv_entry ([.ref p0, .ref p1, .int p2]) (n := 3) (Nat.le_of_ble_eq_true rfl)
  rw [lg_entry_eq]
  generalize (lg_sl ([.ref p0, .ref p1, .int p2]) ++ List.replicate (3 - (lg_sl ([.ref p0, .ref p1, .int p2])).length) Slot.unset).toArray = ls at hl ⊢
  have hl : lv_has ls 3 [(0, .ref p0), (1, .ref p1), (2, .int p2)] := hl
  refine nameQ (fun Q hQ => ?_)
  have hw : WD D cy GG A s wr_X3_beginsLine__19 wa_X3_beginsLine__19 Ps w0 Ps w0 s.heap [] := ⟨hT, hP, hD, va_S.rf, FR.rf, hT.1, [], (List.append_nil _).symm⟩
  obtain ⟨R9, hR⟩ : ∃ q9 : OS × OS × Int32, f_X3_beginsLine__17 p2 s0 s1 = q9 := ⟨_, rfl⟩
  have hE := hR
  refine lv_iload_n hx hb dX3_beginsLine_0 rfl (lv_at hl 2 rfl) ?_
  refine lv_sipush (v := 128) hx hb dX3_beginsLine_1 (by decide) ?_
  refine lv_icmp_lt (tgt := 14) hx hb dX3_beginsLine_4 (by decide) (fun c_4 => ?_) (fun c_4 => ?_)
  · have r_p2 : RI p2 134 127 := rc_lt1 r_p2 rl_128 (ti_lt c_4) (by decide)
    exact (r_p2.no (by decide)).elim
  · refine lv_iload_n hx hb dX3_beginsLine_7 rfl (lv_at hl 2 rfl) ?_
    refine lv_sipush (v := 136) hx hb dX3_beginsLine_8 (by decide) ?_
    refine lv_icmp_le (tgt := 22) hx hb dX3_beginsLine_11 (by decide) (fun c_11 => ?_) (fun c_11 => ?_)
    · refine lv_iload_n hx hb dX3_beginsLine_22 rfl (lv_at hl 2 rfl) ?_
      refine lv_sipush (v := 131) hx hb dX3_beginsLine_23 (by decide) ?_
      refine lv_icmp_gt (tgt := 59) hx hb dX3_beginsLine_26 (by decide) (fun c_26 => ?_) (fun c_26 => ?_)
      · refine lv_iload_n hx hb dX3_beginsLine_59 rfl (lv_at hl 2 rfl) ?_
        refine lv_sipush (v := 135) hx hb dX3_beginsLine_60 (by decide) ?_
        refine lv_icmp_ne (tgt := 73) hx hb dX3_beginsLine_63 (by decide) (fun c_63 => ?_) (fun c_63 => ?_)
        · refine lv_iload_n hx hb dX3_beginsLine_73 rfl (lv_at hl 2 rfl) ?_
          refine lv_sipush (v := 136) hx hb dX3_beginsLine_74 (by decide) ?_
          refine lv_icmp_ne (tgt := 92) hx hb dX3_beginsLine_77 (by decide) (fun c_77 => ?_) (fun c_77 => ?_)
          · refine lv_aload_n hx hb dX3_beginsLine_92 rfl (lv_at hl 1 rfl) ?_
            refine tk_v (va_runV (As := []) (rest := []) ⟨hx, hb, hml, hown, hts⟩ (c_X7_pass__5 l D cy z s.heap.size Ps w0 hw.1 p1 f1_10 s1 h_p1 r_f1_10 m_f1_10 o_p1) (cwV 0 hts (gV tw_451 tw_425 tw_426 tw_2 tw_427) rfl rfl rfl (by decide +kernel) ⟨Nat.le_of_ble_eq_true rfl, Nat.le_of_ble_eq_true rfl⟩) (tg_preV hw hK hSD hA (ci := 7) (q := (RX7, TX7, 12)) rfl h_p1 rfl) rfl rfl hl.1 rfl (lv_room (Nat.le_of_ble_eq_true rfl)) dX3_beginsLine_93 ⟨Nat.le_of_ble_eq_true rfl, Nat.le_of_ble_eq_true rfl⟩) hw hA ⟨by decide, by decide⟩ (fun ws H locs hp_v_1 hw hF9 => ?_)
            have m_f1_10 := FLD.over hF9 m_f1_10 (by decide)
            obtain ⟨hfn, hp_v_1⟩ := hp_v_1
            have o_p0 := OV.over (V := vw_POST) hF9 o_p0 (by decide)
            obtain ⟨sg_2, q_sg_2⟩ : ∃ q9 : OS, (f_X7_pass__5 s1) = q9 := ⟨_, rfl⟩
            have o_p1 : OV vw_TAPE Ps ws p1 sg_2 := by rw [← q_sg_2]; exact hfn.1
            obtain ⟨v_3, m_v_3, r_v_3⟩ := (hp_v_1.1)
            refine lv_aload_n hx hb dX3_beginsLine_96 rfl (lv_at hl 1 rfl) ?_
            refine tg_memN (ci := 7) (C := RX7) (T := TX7) (N := 12) hx hb hts inX7 hown hK hw 10 m_v_3 rfl (by decide) (hSD.nest tn_105) (fun _ h9 => h9) dX3_beginsLine_97 ?_
            have q_v_3 : sg_2.1 10 = v_3 := OV.eqI (V := vw_TAPE) hw.2.2.1 o_p1 m_v_3 (by decide)
            refine lv_if_ne (tgt := 107) hx hb dX3_beginsLine_100 (by decide) (fun c_100 => ?_) (fun c_100 => ?_)
            · exact absurd (r_v_3.eq.trans rl_0.eq.symm) ((ti_ne c_100))
            · refine lv_iconst (v := 1) hx hb dX3_beginsLine_103 (by decide) ?_
              refine lv_goto (tgt := 108) hx hb dX3_beginsLine_104 (by decide) ?_
              simp only [f_X3_beginsLine__17, ↓reduceIte, eq_false c_4, eq_true c_11, eq_true c_26, eq_false c_63, eq_false c_77, q_sg_2, q_v_3, eq_true c_100] at hE
              subst hQ
              exact W.zret (v := 1) hx hb hr (rfl) (fun t ht hW => ⟨⟨1, ws, rfl, ⟨⟨⟨(by rw [hR, ← hE]; exact o_p0), (by rw [hR, ← hE]; exact o_p1), (by rw [hR, ← hE]), trivial⟩, rl_1.to (by decide), (fun _ => trivial), (fun h0 => ⟨⟨_, m_v_3, r_v_3⟩, trivial⟩)⟩, hw.1, hw.2.2.2.2.1⟩, by rw [ht]; exact hw.2.1, va_K.moved hW.alike hK, hw.2.2.1⟩, hw.2.2.2.1.F ht⟩) hw.2.2.2.1.2.2 dX3_beginsLine_108
          · have r_p2 : RI p2 136 134 := rc_eq1 r_p2 rl_136 (ti_eq c_77) (by decide)
            exact (r_p2.no (by decide)).elim
        · have r_p2 : RI p2 135 134 := rc_eq1 r_p2 rl_135 (ti_eq c_63) (by decide)
          exact (r_p2.no (by decide)).elim
      · have r_p2 : RI p2 134 131 := rc_le1 r_p2 rl_131 (ti_nlt c_26) (by decide)
        exact (r_p2.no (by decide)).elim
    · have r_p2 : RI p2 137 134 := rc_lt2 rl_136 r_p2 (ti_nle c_11) (by decide)
      exact (r_p2.no (by decide)).elim
abbrev wr_X3_quarrel__1 : List (Nat × Nat) := []
abbrev wa_X3_quarrel__1 : List Nat := []
set_option maxHeartbeats 4000000 in
set_option maxRecDepth 100000 in
theorem c_X3_quarrel__1 (l : Launch) (D : va_G) (cy : Nat → ClassId) (z : Nat → Nat) (sz : Nat) (Ps : PSI) (w0 : va_W) (hT : HT cy GG Ps w0) (p0 : Nat) (p1 : Int32) (p2 : Int32) (s0 : OS) (h_p0 : (p0, 25) ∈ Ps) (r_p1 : RI p1 0 5) (r_p2 : RI p2 (-2147483648) 2147483647) (o_p0 : OV vw_POST Ps w0 p0 s0) : Met l yX3_quarrel (Cond.code yX3_quarrel cX3_quarrel 3 (some .boolean) :: gT) ({ frames := 0, cells := 0, slots := 0, locals := 200 } : Room) (va_Pc [.ref p0, .int p1, .int p2] (PRE D cy z w0 sz)) (va_Qi (fun (r : Int32) (u : Unit) => ((f_X3_quarrel__1 p1 p2 s0) = r ∧ True) ∧ (RI r 0 1 ∧ (r = 0 → True) ∧ (¬ r = 0 → True))) (BB D cy (va_A w0 sz) (fun (u : Unit) => w0)) (va_A w0 sz)) 0 0 (va_A w0 sz) := by
  refine Met.ofW (cc := cX3_quarrel) (maxL := 3) (ret := (some .boolean)) (by decide) rfl ?_
  intro p e s m args below meth c s₁ B hml hv
  obtain ⟨rfl, hsz, hP, hK, hD0, hSD⟩ := hv
  have hx := B.exec
  have hb := B.bytes
  have hr := B.returns
  have hlocks := B.notSynchronized
  have hts : ∀ w ∈ gT, w.before _ s = true := fun w h => atoms_spec (ws := Cond.code yX3_quarrel cX3_quarrel 3 (some .boolean) :: gT) B.pre w (List.mem_cons_of_mem _ h)
  have hown : s.vm.findClass RX3 = some m.cls := findClass_of_methodNamed B.named
  subst hsz
  have hD := hD0.self (sz := s.heap.size)
  generalize hAe : va_A w0 s.heap.size = A at hD hSD ⊢
  have hA : ∀ q : Nat, s.heap.size ≤ q → A q := fun q h => by rw [← hAe]; exact Or.inr h
  have hl := lv_entry ([.ref p0, .int p1, .int p2]) (n := 3) (Nat.le_of_ble_eq_true rfl)
  rw [lg_entry_eq]
  generalize (lg_sl ([.ref p0, .int p1, .int p2]) ++ List.replicate (3 - (lg_sl ([.ref p0, .int p1, .int p2])).length) Slot.unset).toArray = ls at hl ⊢
  have hl : lv_has ls 3 [(0, .ref p0), (1, .int p1), (2, .int p2)] := hl
  refine nameQ (fun Q hQ => ?_)
  have hw : WD D cy GG A s wr_X3_quarrel__1 wa_X3_quarrel__1 Ps w0 Ps w0 s.heap [] := ⟨hT, hP, hD, va_S.rf, FR.rf, hT.1, [], (List.append_nil _).symm⟩
  obtain ⟨R9, hR⟩ : ∃ q9 : Int32, f_X3_quarrel__1 p1 p2 s0 = q9 := ⟨_, rfl⟩
  have hE := hR
  refine lv_aload_n hx hb dX3_quarrel_0 rfl (lv_at hl 0 rfl) ?_
  refine tg_get (ci := 3) (ts := ty_POST) (C := RX3) (T := TX3) (N := 9) hx hb hts inX3 hown hK hw h_p0 rfl rfl 3 (by decide) (hts _ tw_208) (fun _ h9 => h9) (ft := vR 6) rfl dX3_quarrel_1 (fun u_1 hv_u_1 m_u_1 => ?_)
  obtain ⟨vu_1, rfl, h_vu_1⟩ := hv_u_1
  refine lv_iload_n hx hb dX3_quarrel_4 rfl (lv_at hl 1 rfl) ?_
  refine tg_iald (lo := (-2147483648)) (hi := 2147483647) hx hb hK hw h_vu_1 rfl 0 5 r_p1 (by decide) (by exact fun _ _ _ => ⟨Int.le_refl _, Int.le_refl _⟩) dX3_quarrel_5 (fun v_2 r_v_2 m_v_2 o_v_2 => ?_)
  have q_v_2 : s0.2.2.1 3 (Int32.toNatClampNeg p1) = v_2 := OV.eqA (V := vw_POST) (t := 6) hw.2.2.1 o_p0 m_u_1 m_v_2 (by decide)
  refine lv_iload_n hx hb dX3_quarrel_6 rfl (lv_at hl 2 rfl) ?_
  refine lv_ishr hx hb dX3_quarrel_7 (lv_topi (fun v_3 e_v_3 => ?_))
  have r_v_3 := ri_any v_3
  have q_v_3 : v_2 >>> (p2 &&& 31) = v_3 := e_v_3.symm
  refine lv_iconst (v := 1) hx hb dX3_quarrel_8 (by decide) ?_
  refine lv_iand hx hb dX3_quarrel_9 (lv_topi (fun v_4 e_v_4 => ?_))
  have r_v_4 : RI v_4 0 1 := by rw [e_v_4]; exact ri_and (d := 1) (rl_1.to (by decide)) (by decide)
  have q_v_4 : v_3 &&& (1 : Int32) = v_4 := e_v_4.symm
  refine lv_if_eq (tgt := 17) hx hb dX3_quarrel_10 (by decide) (fun c_10 => ?_) (fun c_10 => ?_)
  · have r_v_4 : RI v_4 0 0 := rc_eq1 r_v_4 rl_0 (ti_eq c_10) (by decide)
    refine lv_iconst (v := 0) hx hb dX3_quarrel_17 (by decide) ?_
    simp only [f_X3_quarrel__1, ↓reduceIte, q_v_2, q_v_3, q_v_4, eq_true c_10] at hE
    subst hQ
    exact W.zret (v := 0) hx hb hr (rfl) (fun t ht hW => ⟨⟨0, (), rfl, ⟨⟨(by rw [hR, ← hE]), trivial⟩, rl_0.to (by decide), (fun h0 => trivial), (fun _ => trivial)⟩, by rw [ht]; exact hw.2.1, va_K.moved hW.alike hK, hw.2.2.1⟩, hw.2.2.2.1.F ht⟩) hw.2.2.2.1.2.2 dX3_quarrel_18
  · have r_v_4 : RI v_4 1 1 := rc_neL r_v_4 rl_0 (ti_ne c_10) (by decide)
    refine lv_iconst (v := 1) hx hb dX3_quarrel_13 (by decide) ?_
    refine lv_goto (tgt := 18) hx hb dX3_quarrel_14 (by decide) ?_
    simp only [f_X3_quarrel__1, ↓reduceIte, q_v_2, q_v_3, q_v_4, eq_false c_10] at hE
    subst hQ
    exact W.zret (v := 1) hx hb hr (rfl) (fun t ht hW => ⟨⟨1, (), rfl, ⟨⟨(by rw [hR, ← hE]), trivial⟩, rl_1.to (by decide), (fun _ => trivial), (fun h0 => trivial)⟩, by rw [ht]; exact hw.2.1, va_K.moved hW.alike hK, hw.2.2.1⟩, hw.2.2.2.1.F ht⟩) hw.2.2.2.1.2.2 dX3_quarrel_18
abbrev wr_X3_readQuarrel__1 : List (Nat × Nat) := [(7, 5), (7, 6), (7, 7), (7, 8), (7, 9), (7, 10), (7, 11)]
abbrev wa_X3_readQuarrel__1 : List Nat := [6]
set_option maxHeartbeats 4000000 in
set_option maxRecDepth 100000 in
theorem c_X3_readQuarrel__1 (l : Launch) (D : va_G) (cy : Nat → ClassId) (z : Nat → Nat) (sz : Nat) (Ps : PSI) (w0 : va_W) (hT : HT cy GG Ps w0) (p0 : Nat) (p1 : Nat) (s0 : OS) (s1 : OS) (h_p0 : (p0, 25) ∈ Ps) (h_p1 : (p1, 26) ∈ Ps) (o_p0 : OV vw_POST Ps w0 p0 s0) (o_p1 : OV vw_TAPE Ps w0 p1 s1) : Met l yX3_readQuarrel (Cond.code yX3_readQuarrel cX3_readQuarrel 5 none :: gT) ({ frames := 4, cells := 0, slots := 0, locals := 800 } : Room) (va_Pc [.ref p0, .ref p1] (PRE D cy z w0 sz)) (va_Qv (fun (u : va_W) => ((OV vw_POST Ps u p0 ((f_X3_readQuarrel__1 s0 s1).1) ∧ OV vw_TAPE Ps u p1 ((f_X3_readQuarrel__1 s0 s1).2) ∧ True) ∧ (True)) ∧ HT cy GG Ps u ∧ FR wr_X3_readQuarrel__1 wa_X3_readQuarrel__1 Ps w0 u) (BB D cy (va_A w0 sz) (fun (u : va_W) => u)) (va_A w0 sz)) 0 0 (va_A w0 sz) := by
  refine Met.ofW (cc := cX3_readQuarrel) (maxL := 5) (ret := none) (by decide) rfl ?_
  intro p e s m args below meth c s₁ B hml hv
  obtain ⟨rfl, hsz, hP, hK, hD0, hSD⟩ := hv
  have hx := B.exec
  have hb := B.bytes
  have hr := B.returns
  have hlocks := B.notSynchronized
  have hts : ∀ w ∈ gT, w.before _ s = true := fun w h => atoms_spec (ws := Cond.code yX3_readQuarrel cX3_readQuarrel 5 none :: gT) B.pre w (List.mem_cons_of_mem _ h)
  have hown : s.vm.findClass RX3 = some m.cls := findClass_of_methodNamed B.named
  subst hsz
  have hD := hD0.self (sz := s.heap.size)
  generalize hAe : va_A w0 s.heap.size = A at hD hSD ⊢
  have hA : ∀ q : Nat, s.heap.size ≤ q → A q := fun q h => by rw [← hAe]; exact Or.inr h
  have hl := lv_entry ([.ref p0, .ref p1]) (n := 5) (Nat.le_of_ble_eq_true rfl)
  rw [lg_entry_eq]
  generalize (lg_sl ([.ref p0, .ref p1]) ++ List.replicate (5 - (lg_sl ([.ref p0, .ref p1])).length) Slot.unset).toArray = ls at hl ⊢
  have hl : lv_has ls 5 [(0, .ref p0), (1, .ref p1)] := hl
  refine nameQ (fun Q hQ => ?_)
  have hw : WD D cy GG A s wr_X3_readQuarrel__1 wa_X3_readQuarrel__1 Ps w0 Ps w0 s.heap [] := ⟨hT, hP, hD, va_S.rf, FR.rf, hT.1, [], (List.append_nil _).symm⟩
  obtain ⟨R9, hR⟩ : ∃ q9 : OS × OS, f_X3_readQuarrel__1 s0 s1 = q9 := ⟨_, rfl⟩
  have hE := hR
  refine lv_aload_n hx hb dX3_readQuarrel_0 rfl (lv_at hl 1 rfl) ?_
  refine lv_aload_n hx hb dX3_readQuarrel_1 rfl (lv_at hl 0 rfl) ?_
  refine lv_iconst (v := 0) hx hb dX3_readQuarrel_2 (by decide) ?_
  refine tk_i (va_runV (As := [.ref p0, .int 0]) (rest := []) ⟨hx, hb, hml, hown, hts⟩ (c_X7_takeName__14 l D cy z s.heap.size Ps w0 hw.1 p1 p0 0 s1 s0 h_p1 h_p0 rl_0 o_p1 o_p0) (cwV 2 hts (gV tw_464 tw_465 tw_466 tw_2 tw_467) rfl rfl rfl (by decide +kernel) ⟨Nat.le_of_ble_eq_true rfl, Nat.le_of_ble_eq_true rfl⟩) (tg_preV hw hK hSD hA (ci := 7) (q := (RX7, TX7, 12)) rfl h_p1 rfl) rfl rfl hl.1 rfl (lv_room (Nat.le_of_ble_eq_true rfl)) dX3_readQuarrel_3 ⟨Nat.le_of_ble_eq_true rfl, Nat.le_of_ble_eq_true rfl⟩) hw hA ⟨by decide, by decide⟩ (fun v_1 ws H locs hp_v_1 hw hF9 => ?_)
  obtain ⟨hfn, hp_v_1⟩ := hp_v_1
  obtain ⟨sg_2, q_sg_2⟩ : ∃ q9 : OS, (f_X7_takeName__12 (0 : Int32) s1 s0).1 = q9 := ⟨_, rfl⟩
  have o_p1 : OV vw_TAPE Ps ws p1 sg_2 := by rw [← q_sg_2]; exact hfn.1
  obtain ⟨sg_3, q_sg_3⟩ : ∃ q9 : OS, (f_X7_takeName__12 (0 : Int32) s1 s0).2.1 = q9 := ⟨_, rfl⟩
  have o_p0 : OV vw_POST Ps ws p0 sg_3 := by rw [← q_sg_3]; exact hfn.2.1
  have q_v_1 : (f_X7_takeName__12 (0 : Int32) s1 s0).2.2 = v_1 := hfn.2.2.1
  have r_v_1 : RI v_1 (-1) 5 := hp_v_1.1
  by_cases c9_v_1 : v_1.toInt < 0
  · have r_v_1 : RI v_1 (-1) (-1) := by unfold RI at r_v_1 ⊢; omega
    have x_FLT_p1 := (hp_v_1.2.2.2.2.1 (by omega)).1
    obtain ⟨v_4, m_v_4, r_v_4⟩ := id x_FLT_p1
    refine lv_istore_n (lv' := [(2, .int v_1), (0, .ref p0), (1, .ref p1)]) hx hb dX3_readQuarrel_6 rfl hl (by decide) rfl (fun ls hl => ?_)
    refine lv_aload_n hx hb dX3_readQuarrel_7 rfl (lv_at hl 2 rfl) ?_
    refine lv_aload_n hx hb dX3_readQuarrel_8 rfl (lv_at hl 1 rfl) ?_
    refine lv_iconst (v := 0) hx hb dX3_readQuarrel_9 (by decide) ?_
    refine tk_ir (va_runV (As := [.ref p0, .int 0]) (rest := []) ⟨hx, hb, hml, hown, hts⟩ (c_X7_nameAhead__18 l D cy z H.size Ps ws hw.1 p1 p0 0 v_4 sg_2 sg_3 h_p1 h_p0 rl_0 r_v_4 m_v_4 o_p1 o_p0) (cwV 2 hts (gV tw_456 tw_457 tw_458 tw_2 tw_459) rfl rfl rfl (by decide +kernel) ⟨Nat.le_of_ble_eq_true rfl, Nat.le_of_ble_eq_true rfl⟩) (tg_preV hw hK hSD hA (ci := 7) (q := (RX7, TX7, 12)) rfl h_p1 rfl) rfl rfl hl.1 rfl (lv_room (Nat.le_of_ble_eq_true rfl)) dX3_readQuarrel_10 ⟨Nat.le_of_ble_eq_true rfl, Nat.le_of_ble_eq_true rfl⟩) hw hA (fun v_5  H locs hp_v_5 hw => ?_)
    obtain ⟨hfn, hp_v_5⟩ := hp_v_5
    have q_v_5 : (f_X7_nameAhead__18 (0 : Int32) sg_2 sg_3) = v_5 := hfn.1
    have r_v_5 : RI v_5 (-1) (-1) := hp_v_5.1
    by_cases c9_v_5 : v_5.toInt < 0
    · have r_v_5 : RI v_5 (-1) (-1) := by unfold RI at r_v_5 ⊢; omega
      have x_FLT_p1 := (hp_v_5.2.2.2.2.1 (by omega)).1
      obtain ⟨v_6, m_v_6, r_v_6⟩ := id x_FLT_p1
      refine lv_istore_n (lv' := [(3, .int v_5), (2, .int v_1), (0, .ref p0), (1, .ref p1)]) hx hb dX3_readQuarrel_13 rfl hl (by decide) rfl (fun ls hl => ?_)
      refine lv_iload_n hx hb dX3_readQuarrel_14 rfl (lv_at hl 1 rfl) ?_
      refine lv_iconst (v := (-1)) hx hb dX3_readQuarrel_15 (by decide) ?_
      refine lv_icmp_eq (tgt := 28) hx hb dX3_readQuarrel_16 (by decide) (fun c_16 => ?_) (fun c_16 => ?_)
      · refine lv_iconst (v := 0) hx hb dX3_readQuarrel_28 (by decide) ?_
        refine lv_istore (lv' := [(4, .int 0), (3, .int v_5), (2, .int v_1), (0, .ref p0), (1, .ref p1)]) hx hb dX3_readQuarrel_29 hl (by decide) rfl (fun ls hl => ?_)
        refine lv_iload hx hb dX3_readQuarrel_31 (lv_at hl 0 rfl) ?_
        refine lv_if_eq (tgt := 55) hx hb dX3_readQuarrel_33 (by decide) (fun _ => ?_) (fun c9 => absurd (by decide) c9)
        refine lv_aload_n hx hb dX3_readQuarrel_55 rfl (lv_at hl 4 rfl) ?_
        refine tk_vr (va_runV (As := []) (rest := []) ⟨hx, hb, hml, hown, hts⟩ (c_X7_pass__4 l D cy z H.size Ps ws hw.1 p1 v_6 sg_2 h_p1 r_v_6 m_v_6 o_p1) (cwV 0 hts (gV tw_451 tw_425 tw_426 tw_2 tw_427) rfl rfl rfl (by decide +kernel) ⟨Nat.le_of_ble_eq_true rfl, Nat.le_of_ble_eq_true rfl⟩) (tg_preV hw hK hSD hA (ci := 7) (q := (RX7, TX7, 12)) rfl h_p1 rfl) rfl rfl hl.1 rfl (lv_room (Nat.le_of_ble_eq_true rfl)) dX3_readQuarrel_56 ⟨Nat.le_of_ble_eq_true rfl, Nat.le_of_ble_eq_true rfl⟩) hw hA (fun  H locs hp_v_7 hw => ?_)
        obtain ⟨hfn, hp_v_7⟩ := hp_v_7
        refine lv_iload hx hb dX3_readQuarrel_59 (lv_at hl 0 rfl) ?_
        refine lv_if_eq (tgt := 88) hx hb dX3_readQuarrel_61 (by decide) (fun _ => ?_) (fun c9 => absurd (by decide) c9)
        simp only [f_X3_readQuarrel__1, ↓reduceIte, q_sg_2, q_sg_3, q_v_1, eq_true c9_v_1, q_v_5, eq_true c9_v_5, eq_true c_16] at hE
        subst hQ
        exact W.vret hx hb hr (fun t ht hW => ⟨⟨ws, rfl, ⟨⟨⟨(by rw [hR, ← hE]; exact o_p0), (by rw [hR, ← hE]; exact o_p1), trivial⟩, trivial⟩, hw.1, hw.2.2.2.2.1⟩, by rw [ht]; exact hw.2.1, va_K.moved hW.alike hK, hw.2.2.1⟩, hw.2.2.2.1.F ht⟩) hw.2.2.2.1.2.2 dX3_readQuarrel_88
      · exact absurd (r_v_1.eq.trans rl_m1.eq.symm) ((ti_ne c_16))
    · exact absurd c9_v_5 (by unfold RI at r_v_5; omega)
  · have r_v_1 : RI v_1 0 5 := by unfold RI at r_v_1 ⊢; omega
    refine lv_istore_n (lv' := [(2, .int v_1), (0, .ref p0), (1, .ref p1)]) hx hb dX3_readQuarrel_6 rfl hl (by decide) rfl (fun ls hl => ?_)
    refine lv_aload_n hx hb dX3_readQuarrel_7 rfl (lv_at hl 2 rfl) ?_
    refine lv_aload_n hx hb dX3_readQuarrel_8 rfl (lv_at hl 1 rfl) ?_
    refine lv_iconst (v := 0) hx hb dX3_readQuarrel_9 (by decide) ?_
    refine tk_i (va_runV (As := [.ref p0, .int 0]) (rest := []) ⟨hx, hb, hml, hown, hts⟩ (c_X7_nameAhead__15 l D cy z H.size Ps ws hw.1 p1 p0 0 sg_2 sg_3 h_p1 h_p0 rl_0 o_p1 o_p0) (cwV 2 hts (gV tw_456 tw_457 tw_458 tw_2 tw_459) rfl rfl rfl (by decide +kernel) ⟨Nat.le_of_ble_eq_true rfl, Nat.le_of_ble_eq_true rfl⟩) (tg_preV hw hK hSD hA (ci := 7) (q := (RX7, TX7, 12)) rfl h_p1 rfl) rfl rfl hl.1 rfl (lv_room (Nat.le_of_ble_eq_true rfl)) dX3_readQuarrel_10 ⟨Nat.le_of_ble_eq_true rfl, Nat.le_of_ble_eq_true rfl⟩) hw hA ⟨by decide, by decide⟩ (fun v_8 ws H locs hp_v_8 hw hF9 => ?_)
    obtain ⟨hfn, hp_v_8⟩ := hp_v_8
    obtain ⟨sg_9, q_sg_9⟩ : ∃ q9 : OS, (f_X7_nameAhead__13 (0 : Int32) sg_2 sg_3).1 = q9 := ⟨_, rfl⟩
    have o_p1 : OV vw_TAPE Ps ws p1 sg_9 := by rw [← q_sg_9]; exact hfn.1
    obtain ⟨sg_10, q_sg_10⟩ : ∃ q9 : OS, (f_X7_nameAhead__13 (0 : Int32) sg_2 sg_3).2.1 = q9 := ⟨_, rfl⟩
    have o_p0 : OV vw_POST Ps ws p0 sg_10 := by rw [← q_sg_10]; exact hfn.2.1
    have q_v_8 : (f_X7_nameAhead__13 (0 : Int32) sg_2 sg_3).2.2 = v_8 := hfn.2.2.1
    have r_v_8 : RI v_8 (-1) 5 := hp_v_8.1
    by_cases c9_v_8 : v_8.toInt < 0
    · have r_v_8 : RI v_8 (-1) (-1) := by unfold RI at r_v_8 ⊢; omega
      have x_FLT_p1 := (hp_v_8.2.2.2.2.1 (by omega)).1
      obtain ⟨v_11, m_v_11, r_v_11⟩ := id x_FLT_p1
      refine lv_istore_n (lv' := [(3, .int v_8), (2, .int v_1), (0, .ref p0), (1, .ref p1)]) hx hb dX3_readQuarrel_13 rfl hl (by decide) rfl (fun ls hl => ?_)
      refine lv_iload_n hx hb dX3_readQuarrel_14 rfl (lv_at hl 1 rfl) ?_
      refine lv_iconst (v := (-1)) hx hb dX3_readQuarrel_15 (by decide) ?_
      refine lv_icmp_eq (tgt := 28) hx hb dX3_readQuarrel_16 (by decide) (fun c_16 => ?_) (fun c_16 => ?_)
      · have r_v_1 : RI v_1 0 (-1) := rc_eq1 r_v_1 rl_m1 (ti_eq c_16) (by decide)
        exact (r_v_1.no (by decide)).elim
      · refine lv_iload_n hx hb dX3_readQuarrel_19 rfl (lv_at hl 0 rfl) ?_
        refine lv_iconst (v := (-1)) hx hb dX3_readQuarrel_20 (by decide) ?_
        refine lv_icmp_eq (tgt := 28) hx hb dX3_readQuarrel_21 (by decide) (fun c_21 => ?_) (fun c_21 => ?_)
        · refine lv_iconst (v := 0) hx hb dX3_readQuarrel_28 (by decide) ?_
          refine lv_istore (lv' := [(4, .int 0), (3, .int v_8), (2, .int v_1), (0, .ref p0), (1, .ref p1)]) hx hb dX3_readQuarrel_29 hl (by decide) rfl (fun ls hl => ?_)
          refine lv_iload hx hb dX3_readQuarrel_31 (lv_at hl 0 rfl) ?_
          refine lv_if_eq (tgt := 55) hx hb dX3_readQuarrel_33 (by decide) (fun _ => ?_) (fun c9 => absurd (by decide) c9)
          refine lv_aload_n hx hb dX3_readQuarrel_55 rfl (lv_at hl 4 rfl) ?_
          refine tk_vr (va_runV (As := []) (rest := []) ⟨hx, hb, hml, hown, hts⟩ (c_X7_pass__4 l D cy z H.size Ps ws hw.1 p1 v_11 sg_9 h_p1 r_v_11 m_v_11 o_p1) (cwV 0 hts (gV tw_451 tw_425 tw_426 tw_2 tw_427) rfl rfl rfl (by decide +kernel) ⟨Nat.le_of_ble_eq_true rfl, Nat.le_of_ble_eq_true rfl⟩) (tg_preV hw hK hSD hA (ci := 7) (q := (RX7, TX7, 12)) rfl h_p1 rfl) rfl rfl hl.1 rfl (lv_room (Nat.le_of_ble_eq_true rfl)) dX3_readQuarrel_56 ⟨Nat.le_of_ble_eq_true rfl, Nat.le_of_ble_eq_true rfl⟩) hw hA (fun  H locs hp_v_12 hw => ?_)
          obtain ⟨hfn, hp_v_12⟩ := hp_v_12
          refine lv_iload hx hb dX3_readQuarrel_59 (lv_at hl 0 rfl) ?_
          refine lv_if_eq (tgt := 88) hx hb dX3_readQuarrel_61 (by decide) (fun _ => ?_) (fun c9 => absurd (by decide) c9)
          simp only [f_X3_readQuarrel__1, ↓reduceIte, q_sg_2, q_sg_3, q_v_1, eq_false c9_v_1, q_sg_9, q_sg_10, q_v_8, eq_true c9_v_8, eq_false c_16, eq_true c_21] at hE
          subst hQ
          exact W.vret hx hb hr (fun t ht hW => ⟨⟨ws, rfl, ⟨⟨⟨(by rw [hR, ← hE]; exact o_p0), (by rw [hR, ← hE]; exact o_p1), trivial⟩, trivial⟩, hw.1, hw.2.2.2.2.1⟩, by rw [ht]; exact hw.2.1, va_K.moved hW.alike hK, hw.2.2.1⟩, hw.2.2.2.1.F ht⟩) hw.2.2.2.1.2.2 dX3_readQuarrel_88
        · exact absurd (r_v_8.eq.trans rl_m1.eq.symm) ((ti_ne c_21))
    · have r_v_8 : RI v_8 0 5 := by unfold RI at r_v_8 ⊢; omega
      refine lv_istore_n (lv' := [(3, .int v_8), (2, .int v_1), (0, .ref p0), (1, .ref p1)]) hx hb dX3_readQuarrel_13 rfl hl (by decide) rfl (fun ls hl => ?_)
      refine lv_iload_n hx hb dX3_readQuarrel_14 rfl (lv_at hl 1 rfl) ?_
      refine lv_iconst (v := (-1)) hx hb dX3_readQuarrel_15 (by decide) ?_
      refine lv_icmp_eq (tgt := 28) hx hb dX3_readQuarrel_16 (by decide) (fun c_16 => ?_) (fun c_16 => ?_)
      · have r_v_1 : RI v_1 0 (-1) := rc_eq1 r_v_1 rl_m1 (ti_eq c_16) (by decide)
        exact (r_v_1.no (by decide)).elim
      · refine lv_iload_n hx hb dX3_readQuarrel_19 rfl (lv_at hl 0 rfl) ?_
        refine lv_iconst (v := (-1)) hx hb dX3_readQuarrel_20 (by decide) ?_
        refine lv_icmp_eq (tgt := 28) hx hb dX3_readQuarrel_21 (by decide) (fun c_21 => ?_) (fun c_21 => ?_)
        · have r_v_8 : RI v_8 0 (-1) := rc_eq1 r_v_8 rl_m1 (ti_eq c_21) (by decide)
          exact (r_v_8.no (by decide)).elim
        · refine lv_iconst (v := 1) hx hb dX3_readQuarrel_24 (by decide) ?_
          refine lv_goto (tgt := 29) hx hb dX3_readQuarrel_25 (by decide) ?_
          refine lv_istore (lv' := [(4, .int 1), (3, .int v_8), (2, .int v_1), (0, .ref p0), (1, .ref p1)]) hx hb dX3_readQuarrel_29 hl (by decide) rfl (fun ls hl => ?_)
          refine lv_iload hx hb dX3_readQuarrel_31 (lv_at hl 0 rfl) ?_
          refine lv_if_eq (tgt := 55) hx hb dX3_readQuarrel_33 (by decide) (fun c9 => absurd c9 (by decide)) (fun _ => ?_)
          refine lv_iload_n hx hb dX3_readQuarrel_36 rfl (lv_at hl 2 rfl) ?_
          refine lv_iload_n hx hb dX3_readQuarrel_37 rfl (lv_at hl 1 rfl) ?_
          refine lv_icmp_eq (tgt := 50) hx hb dX3_readQuarrel_38 (by decide) (fun c_38 => ?_) (fun c_38 => ?_)
          · refine lv_aload_n hx hb dX3_readQuarrel_50 rfl (lv_at hl 4 rfl) ?_
            refine lv_iconst (v := 3) hx hb dX3_readQuarrel_51 (by decide) ?_
            refine tk_v (va_runV (As := [.int 3]) (rest := []) ⟨hx, hb, hml, hown, hts⟩ (c_X7_refuse__4 l D cy z H.size Ps ws hw.1 p1 3 sg_9 h_p1 (rl_3.to (by decide)) o_p1) (cwV 1 hts (gV tw_450 tw_443 tw_444 tw_2 tw_445) rfl rfl rfl (by decide +kernel) ⟨Nat.le_of_ble_eq_true rfl, Nat.le_of_ble_eq_true rfl⟩) (tg_preV hw hK hSD hA (ci := 7) (q := (RX7, TX7, 12)) rfl h_p1 rfl) rfl rfl hl.1 rfl (lv_room (Nat.le_of_ble_eq_true rfl)) dX3_readQuarrel_52 ⟨Nat.le_of_ble_eq_true rfl, Nat.le_of_ble_eq_true rfl⟩) hw hA ⟨by decide, by decide⟩ (fun ws H locs hp_v_13 hw hF9 => ?_)
            obtain ⟨hfn, hp_v_13⟩ := hp_v_13
            have o_p0 := OV.over (V := vw_POST) hF9 o_p0 (by decide)
            obtain ⟨sg_14, q_sg_14⟩ : ∃ q9 : OS, (f_X7_refuse__4 (3 : Int32) sg_9) = q9 := ⟨_, rfl⟩
            have o_p1 : OV vw_TAPE Ps ws p1 sg_14 := by rw [← q_sg_14]; exact hfn.1
            obtain ⟨v_15, m_v_15, r_v_15⟩ := (hp_v_13.1)
            refine lv_aload_n hx hb dX3_readQuarrel_55 rfl (lv_at hl 4 rfl) ?_
            refine tk_vr (va_runV (As := []) (rest := []) ⟨hx, hb, hml, hown, hts⟩ (c_X7_pass__4 l D cy z H.size Ps ws hw.1 p1 v_15 sg_14 h_p1 r_v_15 m_v_15 o_p1) (cwV 0 hts (gV tw_451 tw_425 tw_426 tw_2 tw_427) rfl rfl rfl (by decide +kernel) ⟨Nat.le_of_ble_eq_true rfl, Nat.le_of_ble_eq_true rfl⟩) (tg_preV hw hK hSD hA (ci := 7) (q := (RX7, TX7, 12)) rfl h_p1 rfl) rfl rfl hl.1 rfl (lv_room (Nat.le_of_ble_eq_true rfl)) dX3_readQuarrel_56 ⟨Nat.le_of_ble_eq_true rfl, Nat.le_of_ble_eq_true rfl⟩) hw hA (fun  H locs hp_v_16 hw => ?_)
            obtain ⟨hfn, hp_v_16⟩ := hp_v_16
            refine lv_iload hx hb dX3_readQuarrel_59 (lv_at hl 0 rfl) ?_
            refine lv_if_eq (tgt := 88) hx hb dX3_readQuarrel_61 (by decide) (fun c9 => absurd c9 (by decide)) (fun _ => ?_)
            refine lv_aload_n hx hb dX3_readQuarrel_64 rfl (lv_at hl 3 rfl) ?_
            refine tg_get (ci := 3) (ts := ty_POST) (C := RX3) (T := TX3) (N := 9) hx hb hts inX3 hown hK hw h_p0 rfl rfl 3 (by decide) (hts _ tw_208) (fun _ h9 => h9) (ft := vR 6) rfl dX3_readQuarrel_65 (fun u_17 hv_u_17 m_u_17 => ?_)
            obtain ⟨vu_17, rfl, h_vu_17⟩ := hv_u_17
            refine lv_iload_n hx hb dX3_readQuarrel_68 rfl (lv_at hl 2 rfl) ?_
            refine lv_dup2_11 hx hb dX3_readQuarrel_69 rfl rfl ?_
            refine tg_iald (lo := (-2147483648)) (hi := 2147483647) hx hb hK hw h_vu_17 rfl 0 5 r_v_1 (by decide) (by exact fun _ _ _ => ⟨Int.le_refl _, Int.le_refl _⟩) dX3_readQuarrel_70 (fun v_18 r_v_18 m_v_18 o_v_18 => ?_)
            have q_v_18 : sg_10.2.2.1 3 (Int32.toNatClampNeg v_1) = v_18 := OV.eqA (V := vw_POST) (t := 6) hw.2.2.1 o_p0 m_u_17 m_v_18 (by decide)
            refine lv_iconst (v := 1) hx hb dX3_readQuarrel_71 (by decide) ?_
            refine lv_iload_n hx hb dX3_readQuarrel_72 rfl (lv_at hl 1 rfl) ?_
            refine lv_ishl hx hb dX3_readQuarrel_73 (lv_topi (fun v_19 e_v_19 => ?_))
            have r_v_19 : RI v_19 1 256 := by rw [e_v_19]; exact ri_shl1 (r_v_8.to (c := 0) (d := 5) (by decide)) (by decide)
            have q_v_19 : (1 : Int32) <<< (v_8 &&& 31) = v_19 := e_v_19.symm
            refine lv_ior hx hb dX3_readQuarrel_74 (lv_topi (fun v_20 e_v_20 => ?_))
            have r_v_20 := ri_any v_20
            have q_v_20 : v_18 ||| v_19 = v_20 := e_v_20.symm
            have mo9 := m_u_17
            have hw8 := hw
            refine tg_iast hx hb hK hw h_vu_17 rfl 0 5 r_v_1 (by decide) r_v_20 (by exact fun _ _ _ => by decide) (fun _ _ _ _ _ => trivial) (by decide) dX3_readQuarrel_75 (fun ws H locs hw hF9 hU9 => ?_)
            have m_v_15 := FLD.over hF9 m_v_15 (by decide)
            have m_u_17 := FLD.over hF9 m_u_17 (by decide)
            have o_p1 := OV.over (V := vw_TAPE) hF9 o_p1 (by decide)
            obtain ⟨sg_21, q_sg_21⟩ : ∃ q9 : OS, sA sg_10 3 (Int32.toNatClampNeg v_1) v_20 = q9 := ⟨_, rfl⟩
            have o_p0 : OV vw_POST Ps ws p0 sg_21 := by rw [← q_sg_21]; exact OV.putA (V := vw_POST) (t := 6) hF9 hU9 o_p0 mo9 (by decide) (by decide)
            refine lv_aload_n hx hb dX3_readQuarrel_76 rfl (lv_at hl 3 rfl) ?_
            refine tg_mem (ci := 3) (C := RX3) (T := TX3) (N := 9) hx hb hts inX3 hown hK hw 3 m_u_17 rfl (by decide) (hts _ tw_208) (fun _ h9 => h9) dX3_readQuarrel_77 ?_
            refine lv_iload_n hx hb dX3_readQuarrel_80 rfl (lv_at hl 1 rfl) ?_
            refine lv_dup2_11 hx hb dX3_readQuarrel_81 rfl rfl ?_
            refine tg_iald (lo := (-2147483648)) (hi := 2147483647) hx hb hK hw h_vu_17 rfl 0 5 r_v_8 (by decide) (by exact fun _ _ _ => ⟨Int.le_refl _, Int.le_refl _⟩) dX3_readQuarrel_82 (fun v_22 r_v_22 m_v_22 o_v_22 => ?_)
            have q_v_22 : sg_21.2.2.1 3 (Int32.toNatClampNeg v_8) = v_22 := OV.eqA (V := vw_POST) (t := 6) hw.2.2.1 o_p0 m_u_17 m_v_22 (by decide)
            refine lv_iconst (v := 1) hx hb dX3_readQuarrel_83 (by decide) ?_
            refine lv_iload_n hx hb dX3_readQuarrel_84 rfl (lv_at hl 2 rfl) ?_
            refine lv_ishl hx hb dX3_readQuarrel_85 (lv_topi (fun v_23 e_v_23 => ?_))
            have r_v_23 : RI v_23 1 256 := by rw [e_v_23]; exact ri_shl1 (r_v_1.to (c := 0) (d := 5) (by decide)) (by decide)
            have q_v_23 : (1 : Int32) <<< (v_1 &&& 31) = v_23 := e_v_23.symm
            refine lv_ior hx hb dX3_readQuarrel_86 (lv_topi (fun v_24 e_v_24 => ?_))
            have r_v_24 := ri_any v_24
            have q_v_24 : v_22 ||| v_23 = v_24 := e_v_24.symm
            have mo9 := m_u_17
            have hw8 := hw
            refine tg_iast hx hb hK hw h_vu_17 rfl 0 5 r_v_8 (by decide) r_v_24 (by exact fun _ _ _ => by decide) (fun _ _ _ _ _ => trivial) (by decide) dX3_readQuarrel_87 (fun ws H locs hw hF9 hU9 => ?_)
            have m_v_15 := FLD.over hF9 m_v_15 (by decide)
            have m_u_17 := FLD.over hF9 m_u_17 (by decide)
            have o_p1 := OV.over (V := vw_TAPE) hF9 o_p1 (by decide)
            obtain ⟨sg_25, q_sg_25⟩ : ∃ q9 : OS, sA sg_21 3 (Int32.toNatClampNeg v_8) v_24 = q9 := ⟨_, rfl⟩
            have o_p0 : OV vw_POST Ps ws p0 sg_25 := by rw [← q_sg_25]; exact OV.putA (V := vw_POST) (t := 6) hF9 hU9 o_p0 mo9 (by decide) (by decide)
            simp only [f_X3_readQuarrel__1, ↓reduceIte, q_sg_2, q_sg_3, q_v_1, eq_false c9_v_1, q_sg_9, q_sg_10, q_v_8, eq_false c9_v_8, eq_false c_16, eq_false c_21, eq_true c_38, q_sg_14, q_v_18, q_v_19, q_v_20, q_sg_21, q_v_22, q_v_23, q_v_24, q_sg_25] at hE
            subst hQ
            exact W.vret hx hb hr (fun t ht hW => ⟨⟨ws, rfl, ⟨⟨⟨(by rw [hR, ← hE]; exact o_p0), (by rw [hR, ← hE]; exact o_p1), trivial⟩, trivial⟩, hw.1, hw.2.2.2.2.1⟩, by rw [ht]; exact hw.2.1, va_K.moved hW.alike hK, hw.2.2.1⟩, hw.2.2.2.1.F ht⟩) hw.2.2.2.1.2.2 dX3_readQuarrel_88
          · refine lv_aload_n hx hb dX3_readQuarrel_41 rfl (lv_at hl 3 rfl) ?_
            refine lv_iload_n hx hb dX3_readQuarrel_42 rfl (lv_at hl 2 rfl) ?_
            refine lv_iload_n hx hb dX3_readQuarrel_43 rfl (lv_at hl 1 rfl) ?_
            refine tk_ir (va_runV (As := [.int v_1, .int v_8]) (rest := []) ⟨hx, hb, hml, hown, hts⟩ (c_X3_quarrel__1 l D cy z H.size Ps ws hw.1 p0 v_1 v_8 sg_10 h_p0 r_v_1 (r_v_8.to (by decide)) o_p0) (cwV 2 hts (gV tw_495 tw_497 ts_5 tw_11 tw_498) rfl rfl rfl (by decide +kernel) ⟨Nat.le_of_ble_eq_true rfl, Nat.le_of_ble_eq_true rfl⟩) (tg_preV hw hK hSD hA (ci := 3) (q := (RX3, TX3, 9)) rfl h_p0 rfl) rfl rfl hl.1 rfl (lv_room (Nat.le_of_ble_eq_true rfl)) dX3_readQuarrel_44 ⟨Nat.le_of_ble_eq_true rfl, Nat.le_of_ble_eq_true rfl⟩) hw hA (fun v_26  H locs hp_v_26 hw => ?_)
            obtain ⟨hfn, hp_v_26⟩ := hp_v_26
            have q_v_26 : (f_X3_quarrel__1 v_1 v_8 sg_10) = v_26 := hfn.1
            have r_v_26 : RI v_26 0 1 := hp_v_26.1
            refine lv_if_eq (tgt := 55) hx hb dX3_readQuarrel_47 (by decide) (fun c_47 => ?_) (fun c_47 => ?_)
            · have r_v_26 : RI v_26 0 0 := rc_eq1 r_v_26 rl_0 (ti_eq c_47) (by decide)
              refine lv_aload_n hx hb dX3_readQuarrel_55 rfl (lv_at hl 4 rfl) ?_
              refine tk_v (va_runV (As := []) (rest := []) ⟨hx, hb, hml, hown, hts⟩ (c_X7_pass__6 l D cy z H.size Ps ws hw.1 p1 sg_9 h_p1 o_p1) (cwV 0 hts (gV tw_451 tw_425 tw_426 tw_2 tw_427) rfl rfl rfl (by decide +kernel) ⟨Nat.le_of_ble_eq_true rfl, Nat.le_of_ble_eq_true rfl⟩) (tg_preV hw hK hSD hA (ci := 7) (q := (RX7, TX7, 12)) rfl h_p1 rfl) rfl rfl hl.1 rfl (lv_room (Nat.le_of_ble_eq_true rfl)) dX3_readQuarrel_56 ⟨Nat.le_of_ble_eq_true rfl, Nat.le_of_ble_eq_true rfl⟩) hw hA ⟨by decide, by decide⟩ (fun ws H locs hp_v_27 hw hF9 => ?_)
              obtain ⟨hfn, hp_v_27⟩ := hp_v_27
              have o_p0 := OV.over (V := vw_POST) hF9 o_p0 (by decide)
              obtain ⟨sg_28, q_sg_28⟩ : ∃ q9 : OS, (f_X7_pass__6 sg_9) = q9 := ⟨_, rfl⟩
              have o_p1 : OV vw_TAPE Ps ws p1 sg_28 := by rw [← q_sg_28]; exact hfn.1
              refine lv_iload hx hb dX3_readQuarrel_59 (lv_at hl 0 rfl) ?_
              refine lv_if_eq (tgt := 88) hx hb dX3_readQuarrel_61 (by decide) (fun c9 => absurd c9 (by decide)) (fun _ => ?_)
              refine lv_aload_n hx hb dX3_readQuarrel_64 rfl (lv_at hl 3 rfl) ?_
              refine tg_get (ci := 3) (ts := ty_POST) (C := RX3) (T := TX3) (N := 9) hx hb hts inX3 hown hK hw h_p0 rfl rfl 3 (by decide) (hts _ tw_208) (fun _ h9 => h9) (ft := vR 6) rfl dX3_readQuarrel_65 (fun u_29 hv_u_29 m_u_29 => ?_)
              obtain ⟨vu_29, rfl, h_vu_29⟩ := hv_u_29
              refine lv_iload_n hx hb dX3_readQuarrel_68 rfl (lv_at hl 2 rfl) ?_
              refine lv_dup2_11 hx hb dX3_readQuarrel_69 rfl rfl ?_
              refine tg_iald (lo := (-2147483648)) (hi := 2147483647) hx hb hK hw h_vu_29 rfl 0 5 r_v_1 (by decide) (by exact fun _ _ _ => ⟨Int.le_refl _, Int.le_refl _⟩) dX3_readQuarrel_70 (fun v_30 r_v_30 m_v_30 o_v_30 => ?_)
              have q_v_30 : sg_10.2.2.1 3 (Int32.toNatClampNeg v_1) = v_30 := OV.eqA (V := vw_POST) (t := 6) hw.2.2.1 o_p0 m_u_29 m_v_30 (by decide)
              refine lv_iconst (v := 1) hx hb dX3_readQuarrel_71 (by decide) ?_
              refine lv_iload_n hx hb dX3_readQuarrel_72 rfl (lv_at hl 1 rfl) ?_
              refine lv_ishl hx hb dX3_readQuarrel_73 (lv_topi (fun v_31 e_v_31 => ?_))
              have r_v_31 : RI v_31 1 256 := by rw [e_v_31]; exact ri_shl1 (r_v_8.to (c := 0) (d := 5) (by decide)) (by decide)
              have q_v_31 : (1 : Int32) <<< (v_8 &&& 31) = v_31 := e_v_31.symm
              refine lv_ior hx hb dX3_readQuarrel_74 (lv_topi (fun v_32 e_v_32 => ?_))
              have r_v_32 := ri_any v_32
              have q_v_32 : v_30 ||| v_31 = v_32 := e_v_32.symm
              have mo9 := m_u_29
              have hw8 := hw
              refine tg_iast hx hb hK hw h_vu_29 rfl 0 5 r_v_1 (by decide) r_v_32 (by exact fun _ _ _ => by decide) (fun _ _ _ _ _ => trivial) (by decide) dX3_readQuarrel_75 (fun ws H locs hw hF9 hU9 => ?_)
              have m_u_29 := FLD.over hF9 m_u_29 (by decide)
              have o_p1 := OV.over (V := vw_TAPE) hF9 o_p1 (by decide)
              obtain ⟨sg_33, q_sg_33⟩ : ∃ q9 : OS, sA sg_10 3 (Int32.toNatClampNeg v_1) v_32 = q9 := ⟨_, rfl⟩
              have o_p0 : OV vw_POST Ps ws p0 sg_33 := by rw [← q_sg_33]; exact OV.putA (V := vw_POST) (t := 6) hF9 hU9 o_p0 mo9 (by decide) (by decide)
              refine lv_aload_n hx hb dX3_readQuarrel_76 rfl (lv_at hl 3 rfl) ?_
              refine tg_mem (ci := 3) (C := RX3) (T := TX3) (N := 9) hx hb hts inX3 hown hK hw 3 m_u_29 rfl (by decide) (hts _ tw_208) (fun _ h9 => h9) dX3_readQuarrel_77 ?_
              refine lv_iload_n hx hb dX3_readQuarrel_80 rfl (lv_at hl 1 rfl) ?_
              refine lv_dup2_11 hx hb dX3_readQuarrel_81 rfl rfl ?_
              refine tg_iald (lo := (-2147483648)) (hi := 2147483647) hx hb hK hw h_vu_29 rfl 0 5 r_v_8 (by decide) (by exact fun _ _ _ => ⟨Int.le_refl _, Int.le_refl _⟩) dX3_readQuarrel_82 (fun v_34 r_v_34 m_v_34 o_v_34 => ?_)
              have q_v_34 : sg_33.2.2.1 3 (Int32.toNatClampNeg v_8) = v_34 := OV.eqA (V := vw_POST) (t := 6) hw.2.2.1 o_p0 m_u_29 m_v_34 (by decide)
              refine lv_iconst (v := 1) hx hb dX3_readQuarrel_83 (by decide) ?_
              refine lv_iload_n hx hb dX3_readQuarrel_84 rfl (lv_at hl 2 rfl) ?_
              refine lv_ishl hx hb dX3_readQuarrel_85 (lv_topi (fun v_35 e_v_35 => ?_))
              have r_v_35 : RI v_35 1 256 := by rw [e_v_35]; exact ri_shl1 (r_v_1.to (c := 0) (d := 5) (by decide)) (by decide)
              have q_v_35 : (1 : Int32) <<< (v_1 &&& 31) = v_35 := e_v_35.symm
              refine lv_ior hx hb dX3_readQuarrel_86 (lv_topi (fun v_36 e_v_36 => ?_))
              have r_v_36 := ri_any v_36
              have q_v_36 : v_34 ||| v_35 = v_36 := e_v_36.symm
              have mo9 := m_u_29
              have hw8 := hw
              refine tg_iast hx hb hK hw h_vu_29 rfl 0 5 r_v_8 (by decide) r_v_36 (by exact fun _ _ _ => by decide) (fun _ _ _ _ _ => trivial) (by decide) dX3_readQuarrel_87 (fun ws H locs hw hF9 hU9 => ?_)
              have m_u_29 := FLD.over hF9 m_u_29 (by decide)
              have o_p1 := OV.over (V := vw_TAPE) hF9 o_p1 (by decide)
              obtain ⟨sg_37, q_sg_37⟩ : ∃ q9 : OS, sA sg_33 3 (Int32.toNatClampNeg v_8) v_36 = q9 := ⟨_, rfl⟩
              have o_p0 : OV vw_POST Ps ws p0 sg_37 := by rw [← q_sg_37]; exact OV.putA (V := vw_POST) (t := 6) hF9 hU9 o_p0 mo9 (by decide) (by decide)
              simp only [f_X3_readQuarrel__1, ↓reduceIte, q_sg_2, q_sg_3, q_v_1, eq_false c9_v_1, q_sg_9, q_sg_10, q_v_8, eq_false c9_v_8, eq_false c_16, eq_false c_21, eq_false c_38, q_v_26, eq_true c_47, q_sg_28, q_v_30, q_v_31, q_v_32, q_sg_33, q_v_34, q_v_35, q_v_36, q_sg_37] at hE
              subst hQ
              exact W.vret hx hb hr (fun t ht hW => ⟨⟨ws, rfl, ⟨⟨⟨(by rw [hR, ← hE]; exact o_p0), (by rw [hR, ← hE]; exact o_p1), trivial⟩, trivial⟩, hw.1, hw.2.2.2.2.1⟩, by rw [ht]; exact hw.2.1, va_K.moved hW.alike hK, hw.2.2.1⟩, hw.2.2.2.1.F ht⟩) hw.2.2.2.1.2.2 dX3_readQuarrel_88
            · have r_v_26 : RI v_26 1 1 := rc_neL r_v_26 rl_0 (ti_ne c_47) (by decide)
              refine lv_aload_n hx hb dX3_readQuarrel_50 rfl (lv_at hl 4 rfl) ?_
              refine lv_iconst (v := 3) hx hb dX3_readQuarrel_51 (by decide) ?_
              refine tk_v (va_runV (As := [.int 3]) (rest := []) ⟨hx, hb, hml, hown, hts⟩ (c_X7_refuse__4 l D cy z H.size Ps ws hw.1 p1 3 sg_9 h_p1 (rl_3.to (by decide)) o_p1) (cwV 1 hts (gV tw_450 tw_443 tw_444 tw_2 tw_445) rfl rfl rfl (by decide +kernel) ⟨Nat.le_of_ble_eq_true rfl, Nat.le_of_ble_eq_true rfl⟩) (tg_preV hw hK hSD hA (ci := 7) (q := (RX7, TX7, 12)) rfl h_p1 rfl) rfl rfl hl.1 rfl (lv_room (Nat.le_of_ble_eq_true rfl)) dX3_readQuarrel_52 ⟨Nat.le_of_ble_eq_true rfl, Nat.le_of_ble_eq_true rfl⟩) hw hA ⟨by decide, by decide⟩ (fun ws H locs hp_v_38 hw hF9 => ?_)
              obtain ⟨hfn, hp_v_38⟩ := hp_v_38
              have o_p0 := OV.over (V := vw_POST) hF9 o_p0 (by decide)
              obtain ⟨sg_39, q_sg_39⟩ : ∃ q9 : OS, (f_X7_refuse__4 (3 : Int32) sg_9) = q9 := ⟨_, rfl⟩
              have o_p1 : OV vw_TAPE Ps ws p1 sg_39 := by rw [← q_sg_39]; exact hfn.1
              obtain ⟨v_40, m_v_40, r_v_40⟩ := (hp_v_38.1)
              refine lv_aload_n hx hb dX3_readQuarrel_55 rfl (lv_at hl 4 rfl) ?_
              refine tk_vr (va_runV (As := []) (rest := []) ⟨hx, hb, hml, hown, hts⟩ (c_X7_pass__4 l D cy z H.size Ps ws hw.1 p1 v_40 sg_39 h_p1 r_v_40 m_v_40 o_p1) (cwV 0 hts (gV tw_451 tw_425 tw_426 tw_2 tw_427) rfl rfl rfl (by decide +kernel) ⟨Nat.le_of_ble_eq_true rfl, Nat.le_of_ble_eq_true rfl⟩) (tg_preV hw hK hSD hA (ci := 7) (q := (RX7, TX7, 12)) rfl h_p1 rfl) rfl rfl hl.1 rfl (lv_room (Nat.le_of_ble_eq_true rfl)) dX3_readQuarrel_56 ⟨Nat.le_of_ble_eq_true rfl, Nat.le_of_ble_eq_true rfl⟩) hw hA (fun  H locs hp_v_41 hw => ?_)
              obtain ⟨hfn, hp_v_41⟩ := hp_v_41
              refine lv_iload hx hb dX3_readQuarrel_59 (lv_at hl 0 rfl) ?_
              refine lv_if_eq (tgt := 88) hx hb dX3_readQuarrel_61 (by decide) (fun c9 => absurd c9 (by decide)) (fun _ => ?_)
              refine lv_aload_n hx hb dX3_readQuarrel_64 rfl (lv_at hl 3 rfl) ?_
              refine tg_get (ci := 3) (ts := ty_POST) (C := RX3) (T := TX3) (N := 9) hx hb hts inX3 hown hK hw h_p0 rfl rfl 3 (by decide) (hts _ tw_208) (fun _ h9 => h9) (ft := vR 6) rfl dX3_readQuarrel_65 (fun u_42 hv_u_42 m_u_42 => ?_)
              obtain ⟨vu_42, rfl, h_vu_42⟩ := hv_u_42
              refine lv_iload_n hx hb dX3_readQuarrel_68 rfl (lv_at hl 2 rfl) ?_
              refine lv_dup2_11 hx hb dX3_readQuarrel_69 rfl rfl ?_
              refine tg_iald (lo := (-2147483648)) (hi := 2147483647) hx hb hK hw h_vu_42 rfl 0 5 r_v_1 (by decide) (by exact fun _ _ _ => ⟨Int.le_refl _, Int.le_refl _⟩) dX3_readQuarrel_70 (fun v_43 r_v_43 m_v_43 o_v_43 => ?_)
              have q_v_43 : sg_10.2.2.1 3 (Int32.toNatClampNeg v_1) = v_43 := OV.eqA (V := vw_POST) (t := 6) hw.2.2.1 o_p0 m_u_42 m_v_43 (by decide)
              refine lv_iconst (v := 1) hx hb dX3_readQuarrel_71 (by decide) ?_
              refine lv_iload_n hx hb dX3_readQuarrel_72 rfl (lv_at hl 1 rfl) ?_
              refine lv_ishl hx hb dX3_readQuarrel_73 (lv_topi (fun v_44 e_v_44 => ?_))
              have r_v_44 : RI v_44 1 256 := by rw [e_v_44]; exact ri_shl1 (r_v_8.to (c := 0) (d := 5) (by decide)) (by decide)
              have q_v_44 : (1 : Int32) <<< (v_8 &&& 31) = v_44 := e_v_44.symm
              refine lv_ior hx hb dX3_readQuarrel_74 (lv_topi (fun v_45 e_v_45 => ?_))
              have r_v_45 := ri_any v_45
              have q_v_45 : v_43 ||| v_44 = v_45 := e_v_45.symm
              have mo9 := m_u_42
              have hw8 := hw
              refine tg_iast hx hb hK hw h_vu_42 rfl 0 5 r_v_1 (by decide) r_v_45 (by exact fun _ _ _ => by decide) (fun _ _ _ _ _ => trivial) (by decide) dX3_readQuarrel_75 (fun ws H locs hw hF9 hU9 => ?_)
              have m_v_40 := FLD.over hF9 m_v_40 (by decide)
              have m_u_42 := FLD.over hF9 m_u_42 (by decide)
              have o_p1 := OV.over (V := vw_TAPE) hF9 o_p1 (by decide)
              obtain ⟨sg_46, q_sg_46⟩ : ∃ q9 : OS, sA sg_10 3 (Int32.toNatClampNeg v_1) v_45 = q9 := ⟨_, rfl⟩
              have o_p0 : OV vw_POST Ps ws p0 sg_46 := by rw [← q_sg_46]; exact OV.putA (V := vw_POST) (t := 6) hF9 hU9 o_p0 mo9 (by decide) (by decide)
              refine lv_aload_n hx hb dX3_readQuarrel_76 rfl (lv_at hl 3 rfl) ?_
              refine tg_mem (ci := 3) (C := RX3) (T := TX3) (N := 9) hx hb hts inX3 hown hK hw 3 m_u_42 rfl (by decide) (hts _ tw_208) (fun _ h9 => h9) dX3_readQuarrel_77 ?_
              refine lv_iload_n hx hb dX3_readQuarrel_80 rfl (lv_at hl 1 rfl) ?_
              refine lv_dup2_11 hx hb dX3_readQuarrel_81 rfl rfl ?_
              refine tg_iald (lo := (-2147483648)) (hi := 2147483647) hx hb hK hw h_vu_42 rfl 0 5 r_v_8 (by decide) (by exact fun _ _ _ => ⟨Int.le_refl _, Int.le_refl _⟩) dX3_readQuarrel_82 (fun v_47 r_v_47 m_v_47 o_v_47 => ?_)
              have q_v_47 : sg_46.2.2.1 3 (Int32.toNatClampNeg v_8) = v_47 := OV.eqA (V := vw_POST) (t := 6) hw.2.2.1 o_p0 m_u_42 m_v_47 (by decide)
              refine lv_iconst (v := 1) hx hb dX3_readQuarrel_83 (by decide) ?_
              refine lv_iload_n hx hb dX3_readQuarrel_84 rfl (lv_at hl 2 rfl) ?_
              refine lv_ishl hx hb dX3_readQuarrel_85 (lv_topi (fun v_48 e_v_48 => ?_))
              have r_v_48 : RI v_48 1 256 := by rw [e_v_48]; exact ri_shl1 (r_v_1.to (c := 0) (d := 5) (by decide)) (by decide)
              have q_v_48 : (1 : Int32) <<< (v_1 &&& 31) = v_48 := e_v_48.symm
              refine lv_ior hx hb dX3_readQuarrel_86 (lv_topi (fun v_49 e_v_49 => ?_))
              have r_v_49 := ri_any v_49
              have q_v_49 : v_47 ||| v_48 = v_49 := e_v_49.symm
              have mo9 := m_u_42
              have hw8 := hw
              refine tg_iast hx hb hK hw h_vu_42 rfl 0 5 r_v_8 (by decide) r_v_49 (by exact fun _ _ _ => by decide) (fun _ _ _ _ _ => trivial) (by decide) dX3_readQuarrel_87 (fun ws H locs hw hF9 hU9 => ?_)
              have m_v_40 := FLD.over hF9 m_v_40 (by decide)
              have m_u_42 := FLD.over hF9 m_u_42 (by decide)
              have o_p1 := OV.over (V := vw_TAPE) hF9 o_p1 (by decide)
              obtain ⟨sg_50, q_sg_50⟩ : ∃ q9 : OS, sA sg_46 3 (Int32.toNatClampNeg v_8) v_49 = q9 := ⟨_, rfl⟩
              have o_p0 : OV vw_POST Ps ws p0 sg_50 := by rw [← q_sg_50]; exact OV.putA (V := vw_POST) (t := 6) hF9 hU9 o_p0 mo9 (by decide) (by decide)
              simp only [f_X3_readQuarrel__1, ↓reduceIte, q_sg_2, q_sg_3, q_v_1, eq_false c9_v_1, q_sg_9, q_sg_10, q_v_8, eq_false c9_v_8, eq_false c_16, eq_false c_21, eq_false c_38, q_v_26, eq_false c_47, q_sg_39, q_v_43, q_v_44, q_v_45, q_sg_46, q_v_47, q_v_48, q_v_49, q_sg_50] at hE
              subst hQ
              exact W.vret hx hb hr (fun t ht hW => ⟨⟨ws, rfl, ⟨⟨⟨(by rw [hR, ← hE]; exact o_p0), (by rw [hR, ← hE]; exact o_p1), trivial⟩, trivial⟩, hw.1, hw.2.2.2.2.1⟩, by rw [ht]; exact hw.2.1, va_K.moved hW.alike hK, hw.2.2.1⟩, hw.2.2.2.1.F ht⟩) hw.2.2.2.1.2.2 dX3_readQuarrel_88
abbrev wr_X3_beginsLine__20 : List (Nat × Nat) := [(7, 5), (7, 6), (7, 7), (7, 8), (7, 9), (7, 10), (7, 11)]
abbrev wa_X3_beginsLine__20 : List Nat := []
set_option maxHeartbeats 4000000 in
set_option maxRecDepth 100000 in
theorem c_X3_beginsLine__20 (l : Launch) (D : va_G) (cy : Nat → ClassId) (z : Nat → Nat) (sz : Nat) (Ps : PSI) (w0 : va_W) (hT : HT cy GG Ps w0) (p0 : Nat) (p1 : Nat) (p2 : Int32) (f1_10 : Int32) (s0 : OS) (s1 : OS) (h_p0 : (p0, 25) ∈ Ps) (h_p1 : (p1, 26) ∈ Ps) (r_p2 : RI p2 135 135) (r_f1_10 : RI f1_10 0 0) (m_f1_10 : FLD w0 p1 7 10 (.int f1_10)) (o_p0 : OV vw_POST Ps w0 p0 s0) (o_p1 : OV vw_TAPE Ps w0 p1 s1) : Met l yX3_beginsLine (Cond.code yX3_beginsLine cX3_beginsLine 3 (some .boolean) :: gT) ({ frames := 3, cells := 0, slots := 0, locals := 600 } : Room) (va_Pc [.ref p0, .ref p1, .int p2] (PRE D cy z w0 sz)) (va_Qi (fun (r : Int32) (u : va_W) => ((OV vw_POST Ps u p0 ((f_X3_beginsLine__20 p2 s0 s1).1) ∧ OV vw_TAPE Ps u p1 ((f_X3_beginsLine__20 p2 s0 s1).2.1) ∧ (f_X3_beginsLine__20 p2 s0 s1).2.2 = r ∧ True) ∧ (RI r 0 1 ∧ (r = 0 → (∃ v9 : Int32, FLD u p1 7 10 (.int v9) ∧ RI v9 1 4) ∧ True) ∧ (¬ r = 0 → (∃ v9 : Int32, FLD u p1 7 10 (.int v9) ∧ RI v9 0 0) ∧ True))) ∧ HT cy GG Ps u ∧ FR wr_X3_beginsLine__20 wa_X3_beginsLine__20 Ps w0 u) (BB D cy (va_A w0 sz) (fun (u : va_W) => u)) (va_A w0 sz)) 0 0 (va_A w0 sz) := by
  refine Met.ofW (cc := cX3_beginsLine) (maxL := 3) (ret := (some .boolean)) (by decide) rfl ?_
  intro p e s m args below meth c s₁ B hml hv
  obtain ⟨rfl, hsz, hP, hK, hD0, hSD⟩ := hv
  have hx := B.exec
  have hb := B.bytes
  have hr := B.returns
  have hlocks := B.notSynchronized
  have hts : ∀ w ∈ gT, w.before _ s = true := fun w h => atoms_spec (ws := Cond.code yX3_beginsLine cX3_beginsLine 3 (some .boolean) :: gT) B.pre w (List.mem_cons_of_mem _ h)
  have hown : s.vm.findClass RX3 = some m.cls := findClass_of_methodNamed B.named
  subst hsz
  have hD := hD0.self (sz := s.heap.size)
  generalize hAe : va_A w0 s.heap.size = A at hD hSD ⊢
  have hA : ∀ q : Nat, s.heap.size ≤ q → A q := fun q h => by rw [← hAe]; exact Or.inr h
  have hl := lv_entry ([.ref p0, .ref p1, .int p2]) (n := 3) (Nat.le_of_ble_eq_true rfl)
  rw [lg_entry_eq]
  generalize (lg_sl ([.ref p0, .ref p1, .int p2]) ++ List.replicate (3 - (lg_sl ([.ref p0, .ref p1, .int p2])).length) Slot.unset).toArray = ls at hl ⊢
  have hl : lv_has ls 3 [(0, .ref p0), (1, .ref p1), (2, .int p2)] := hl
  refine nameQ (fun Q hQ => ?_)
  have hw : WD D cy GG A s wr_X3_beginsLine__20 wa_X3_beginsLine__20 Ps w0 Ps w0 s.heap [] := ⟨hT, hP, hD, va_S.rf, FR.rf, hT.1, [], (List.append_nil _).symm⟩
  obtain ⟨R9, hR⟩ : ∃ q9 : OS × OS × Int32, f_X3_beginsLine__20 p2 s0 s1 = q9 := ⟨_, rfl⟩
  have hE := hR
  refine lv_iload_n hx hb dX3_beginsLine_0 rfl (lv_at hl 2 rfl) ?_
  refine lv_sipush (v := 128) hx hb dX3_beginsLine_1 (by decide) ?_
  refine lv_icmp_lt (tgt := 14) hx hb dX3_beginsLine_4 (by decide) (fun c_4 => ?_) (fun c_4 => ?_)
  · have r_p2 : RI p2 135 127 := rc_lt1 r_p2 rl_128 (ti_lt c_4) (by decide)
    exact (r_p2.no (by decide)).elim
  · refine lv_iload_n hx hb dX3_beginsLine_7 rfl (lv_at hl 2 rfl) ?_
    refine lv_sipush (v := 136) hx hb dX3_beginsLine_8 (by decide) ?_
    refine lv_icmp_le (tgt := 22) hx hb dX3_beginsLine_11 (by decide) (fun c_11 => ?_) (fun c_11 => ?_)
    · refine lv_iload_n hx hb dX3_beginsLine_22 rfl (lv_at hl 2 rfl) ?_
      refine lv_sipush (v := 131) hx hb dX3_beginsLine_23 (by decide) ?_
      refine lv_icmp_gt (tgt := 59) hx hb dX3_beginsLine_26 (by decide) (fun c_26 => ?_) (fun c_26 => ?_)
      · refine lv_iload_n hx hb dX3_beginsLine_59 rfl (lv_at hl 2 rfl) ?_
        refine lv_sipush (v := 135) hx hb dX3_beginsLine_60 (by decide) ?_
        refine lv_icmp_ne (tgt := 73) hx hb dX3_beginsLine_63 (by decide) (fun c_63 => ?_) (fun c_63 => ?_)
        · exact absurd (r_p2.eq.trans rl_135.eq.symm) ((ti_ne c_63))
        · refine lv_aload_n hx hb dX3_beginsLine_66 rfl (lv_at hl 0 rfl) ?_
          refine tg_get (ci := 3) (ts := ty_POST) (C := RX3) (T := TX3) (N := 9) hx hb hts inX3 hown hK hw h_p0 rfl rfl 7 (by decide) (hts _ tw_219) (fun _ h9 => h9) (ft := vI 0 1) rfl dX3_beginsLine_67 (fun u_1 hv_u_1 m_u_1 => ?_)
          obtain ⟨vu_1, rfl, r_vu_1⟩ := hv_u_1
          have q_vu_1 : s0.1 7 = vu_1 := OV.eqI (V := vw_POST) hw.2.2.1 o_p0 m_u_1 (by decide)
          refine lv_if_ne (tgt := 87) hx hb dX3_beginsLine_70 (by decide) (fun c_70 => ?_) (fun c_70 => ?_)
          · have r_vu_1 : RI vu_1 1 1 := rc_neL r_vu_1 rl_0 (ti_ne c_70) (by decide)
            refine lv_aload_n hx hb dX3_beginsLine_87 rfl (lv_at hl 1 rfl) ?_
            refine lv_iconst (v := 3) hx hb dX3_beginsLine_88 (by decide) ?_
            refine tk_v (va_runV (As := [.int 3]) (rest := []) ⟨hx, hb, hml, hown, hts⟩ (c_X7_refuse__5 l D cy z s.heap.size Ps w0 hw.1 p1 3 f1_10 s1 h_p1 (rl_3.to (by decide)) r_f1_10 m_f1_10 o_p1) (cwV 1 hts (gV tw_450 tw_443 tw_444 tw_2 tw_445) rfl rfl rfl (by decide +kernel) ⟨Nat.le_of_ble_eq_true rfl, Nat.le_of_ble_eq_true rfl⟩) (tg_preV hw hK hSD hA (ci := 7) (q := (RX7, TX7, 12)) rfl h_p1 rfl) rfl rfl hl.1 rfl (lv_room (Nat.le_of_ble_eq_true rfl)) dX3_beginsLine_89 ⟨Nat.le_of_ble_eq_true rfl, Nat.le_of_ble_eq_true rfl⟩) hw hA ⟨by decide, by decide⟩ (fun ws H locs hp_v_2 hw hF9 => ?_)
            have m_u_1 := FLD.over hF9 m_u_1 (by decide)
            obtain ⟨hfn, hp_v_2⟩ := hp_v_2
            have o_p0 := OV.over (V := vw_POST) hF9 o_p0 (by decide)
            obtain ⟨sg_3, q_sg_3⟩ : ∃ q9 : OS, (f_X7_refuse__5 (3 : Int32) s1) = q9 := ⟨_, rfl⟩
            have o_p1 : OV vw_TAPE Ps ws p1 sg_3 := by rw [← q_sg_3]; exact hfn.1
            obtain ⟨v_4, m_v_4, r_v_4⟩ := (hp_v_2.1)
            refine lv_aload_n hx hb dX3_beginsLine_92 rfl (lv_at hl 1 rfl) ?_
            refine tk_vr (va_runV (As := []) (rest := []) ⟨hx, hb, hml, hown, hts⟩ (c_X7_pass__4 l D cy z H.size Ps ws hw.1 p1 v_4 sg_3 h_p1 r_v_4 m_v_4 o_p1) (cwV 0 hts (gV tw_451 tw_425 tw_426 tw_2 tw_427) rfl rfl rfl (by decide +kernel) ⟨Nat.le_of_ble_eq_true rfl, Nat.le_of_ble_eq_true rfl⟩) (tg_preV hw hK hSD hA (ci := 7) (q := (RX7, TX7, 12)) rfl h_p1 rfl) rfl rfl hl.1 rfl (lv_room (Nat.le_of_ble_eq_true rfl)) dX3_beginsLine_93 ⟨Nat.le_of_ble_eq_true rfl, Nat.le_of_ble_eq_true rfl⟩) hw hA (fun  H locs hp_v_5 hw => ?_)
            obtain ⟨hfn, hp_v_5⟩ := hp_v_5
            refine lv_aload_n hx hb dX3_beginsLine_96 rfl (lv_at hl 1 rfl) ?_
            refine tg_memN (ci := 7) (C := RX7) (T := TX7) (N := 12) hx hb hts inX7 hown hK hw 10 m_v_4 rfl (by decide) (hSD.nest tn_105) (fun _ h9 => h9) dX3_beginsLine_97 ?_
            have q_v_4 : sg_3.1 10 = v_4 := OV.eqI (V := vw_TAPE) hw.2.2.1 o_p1 m_v_4 (by decide)
            refine lv_if_ne (tgt := 107) hx hb dX3_beginsLine_100 (by decide) (fun c_100 => ?_) (fun c_100 => ?_)
            · refine lv_iconst (v := 0) hx hb dX3_beginsLine_107 (by decide) ?_
              simp only [f_X3_beginsLine__20, ↓reduceIte, eq_false c_4, eq_true c_11, eq_true c_26, eq_true c_63, q_vu_1, eq_false c_70, q_sg_3, q_v_4, eq_false c_100] at hE
              subst hQ
              exact W.zret (v := 0) hx hb hr (rfl) (fun t ht hW => ⟨⟨0, ws, rfl, ⟨⟨⟨(by rw [hR, ← hE]; exact o_p0), (by rw [hR, ← hE]; exact o_p1), (by rw [hR, ← hE]), trivial⟩, rl_0.to (by decide), (fun h0 => ⟨⟨_, m_v_4, r_v_4⟩, trivial⟩), (fun h0 => absurd rfl h0)⟩, hw.1, hw.2.2.2.2.1⟩, by rw [ht]; exact hw.2.1, va_K.moved hW.alike hK, hw.2.2.1⟩, hw.2.2.2.1.F ht⟩) hw.2.2.2.1.2.2 dX3_beginsLine_108
            · have r_v_4 : RI v_4 1 0 := rc_eq1 r_v_4 rl_0 (ti_eq c_100) (by decide)
              exact (r_v_4.no (by decide)).elim
          · have r_vu_1 : RI vu_1 0 0 := rc_eq1 r_vu_1 rl_0 (ti_eq c_70) (by decide)
            refine lv_iload_n hx hb dX3_beginsLine_73 rfl (lv_at hl 2 rfl) ?_
            refine lv_sipush (v := 136) hx hb dX3_beginsLine_74 (by decide) ?_
            refine lv_icmp_ne (tgt := 92) hx hb dX3_beginsLine_77 (by decide) (fun c_77 => ?_) (fun c_77 => ?_)
            · refine lv_aload_n hx hb dX3_beginsLine_92 rfl (lv_at hl 1 rfl) ?_
              refine tk_v (va_runV (As := []) (rest := []) ⟨hx, hb, hml, hown, hts⟩ (c_X7_pass__5 l D cy z s.heap.size Ps w0 hw.1 p1 f1_10 s1 h_p1 r_f1_10 m_f1_10 o_p1) (cwV 0 hts (gV tw_451 tw_425 tw_426 tw_2 tw_427) rfl rfl rfl (by decide +kernel) ⟨Nat.le_of_ble_eq_true rfl, Nat.le_of_ble_eq_true rfl⟩) (tg_preV hw hK hSD hA (ci := 7) (q := (RX7, TX7, 12)) rfl h_p1 rfl) rfl rfl hl.1 rfl (lv_room (Nat.le_of_ble_eq_true rfl)) dX3_beginsLine_93 ⟨Nat.le_of_ble_eq_true rfl, Nat.le_of_ble_eq_true rfl⟩) hw hA ⟨by decide, by decide⟩ (fun ws H locs hp_v_6 hw hF9 => ?_)
              have m_f1_10 := FLD.over hF9 m_f1_10 (by decide)
              have m_u_1 := FLD.over hF9 m_u_1 (by decide)
              obtain ⟨hfn, hp_v_6⟩ := hp_v_6
              have o_p0 := OV.over (V := vw_POST) hF9 o_p0 (by decide)
              obtain ⟨sg_7, q_sg_7⟩ : ∃ q9 : OS, (f_X7_pass__5 s1) = q9 := ⟨_, rfl⟩
              have o_p1 : OV vw_TAPE Ps ws p1 sg_7 := by rw [← q_sg_7]; exact hfn.1
              obtain ⟨v_8, m_v_8, r_v_8⟩ := (hp_v_6.1)
              refine lv_aload_n hx hb dX3_beginsLine_96 rfl (lv_at hl 1 rfl) ?_
              refine tg_memN (ci := 7) (C := RX7) (T := TX7) (N := 12) hx hb hts inX7 hown hK hw 10 m_v_8 rfl (by decide) (hSD.nest tn_105) (fun _ h9 => h9) dX3_beginsLine_97 ?_
              have q_v_8 : sg_7.1 10 = v_8 := OV.eqI (V := vw_TAPE) hw.2.2.1 o_p1 m_v_8 (by decide)
              refine lv_if_ne (tgt := 107) hx hb dX3_beginsLine_100 (by decide) (fun c_100 => ?_) (fun c_100 => ?_)
              · exact absurd (r_v_8.eq.trans rl_0.eq.symm) ((ti_ne c_100))
              · refine lv_iconst (v := 1) hx hb dX3_beginsLine_103 (by decide) ?_
                refine lv_goto (tgt := 108) hx hb dX3_beginsLine_104 (by decide) ?_
                simp only [f_X3_beginsLine__20, ↓reduceIte, eq_false c_4, eq_true c_11, eq_true c_26, eq_true c_63, q_vu_1, eq_true c_70, eq_false c_77, q_sg_7, q_v_8, eq_true c_100] at hE
                subst hQ
                exact W.zret (v := 1) hx hb hr (rfl) (fun t ht hW => ⟨⟨1, ws, rfl, ⟨⟨⟨(by rw [hR, ← hE]; exact o_p0), (by rw [hR, ← hE]; exact o_p1), (by rw [hR, ← hE]), trivial⟩, rl_1.to (by decide), (fun h0 => absurd h0 (by decide)), (fun h0 => ⟨⟨_, m_v_8, r_v_8⟩, trivial⟩)⟩, hw.1, hw.2.2.2.2.1⟩, by rw [ht]; exact hw.2.1, va_K.moved hW.alike hK, hw.2.2.1⟩, hw.2.2.2.1.F ht⟩) hw.2.2.2.1.2.2 dX3_beginsLine_108
            · have r_p2 : RI p2 136 135 := rc_eq1 r_p2 rl_136 (ti_eq c_77) (by decide)
              exact (r_p2.no (by decide)).elim
      · have r_p2 : RI p2 135 131 := rc_le1 r_p2 rl_131 (ti_nlt c_26) (by decide)
        exact (r_p2.no (by decide)).elim
    · have r_p2 : RI p2 137 135 := rc_lt2 rl_136 r_p2 (ti_nle c_11) (by decide)
      exact (r_p2.no (by decide)).elim
