abbrev wr_X7_goesOn__4 : List (Nat × Nat) := []
abbrev wa_X7_goesOn__4 : List Nat := []
set_option maxHeartbeats 4000000 in
set_option maxRecDepth 100000 in
theorem c_X7_goesOn__4 (l : Launch) (D : va_G) (cy : Nat → ClassId) (z : Nat → Nat) (sz : Nat) (Ps : PSI) (w0 : va_W) (hT : HT cy GG Ps w0) (p0 : Nat) (f0_10 : Int32) (s0 : OS) (h_p0 : (p0, 26) ∈ Ps) (r_f0_10 : RI f0_10 1 4) (m_f0_10 : FLD w0 p0 7 10 (.int f0_10)) (o_p0 : OV vw_TAPE Ps w0 p0 s0) : Met l yX7_goesOn (Cond.code yX7_goesOn cX7_goesOn 1 (some .boolean) :: gT) ({ frames := 2, cells := 0, slots := 0, locals := 400 } : Room) (va_Pc [.ref p0] (PRE D cy z w0 sz)) (va_Qi (fun (r : Int32) (u : Unit) => ((f_X7_goesOn__4 s0) = r ∧ True) ∧ (RI r 0 0 ∧ (r = 0 → True) ∧ (¬ r = 0 → True))) (BB D cy (va_A w0 sz) (fun (u : Unit) => w0)) (va_A w0 sz)) 0 0 (va_A w0 sz) := by
  refine Met.ofW (cc := cX7_goesOn) (maxL := 1) (ret := (some .boolean)) (by decide) rfl ?_
  intro p e s m args below meth c s₁ B hml hv
  obtain ⟨rfl, hsz, hP, hK, hD0, hSD⟩ := hv
  have hx := B.exec
  have hb := B.bytes
  have hr := B.returns
  have hlocks := B.notSynchronized
  have hts : ∀ w ∈ gT, w.before _ s = true := fun w h => atoms_spec (ws := Cond.code yX7_goesOn cX7_goesOn 1 (some .boolean) :: gT) B.pre w (List.mem_cons_of_mem _ h)
  have hown : s.vm.findClass RX7 = some m.cls := findClass_of_methodNamed B.named
  subst hsz
  have hD := hD0.self (sz := s.heap.size)
  generalize hAe : va_A w0 s.heap.size = A at hD hSD ⊢
  have hA : ∀ q : Nat, s.heap.size ≤ q → A q := fun q h => by rw [← hAe]; exact Or.inr h
  have hl := lv_entry ([.ref p0]) (n := 1) (Nat.le_of_ble_eq_true rfl)
  rw [lg_entry_eq]
  generalize (lg_sl ([.ref p0]) ++ List.replicate (1 - (lg_sl ([.ref p0])).length) Slot.unset).toArray = ls at hl ⊢
  have hl : lv_has ls 1 [(0, .ref p0)] := hl
  refine nameQ (fun Q hQ => ?_)
  have hw : WD D cy GG A s wr_X7_goesOn__4 wa_X7_goesOn__4 Ps w0 Ps w0 s.heap [] := ⟨hT, hP, hD, va_S.rf, FR.rf, hT.1, [], (List.append_nil _).symm⟩
  obtain ⟨R9, hR⟩ : ∃ q9 : Int32, f_X7_goesOn__4 s0 = q9 := ⟨_, rfl⟩
  have hE := hR
  have B19 : ∀ (z0_10 : Int32) (s0 : OS) (H : Heap) (locs : List Loc) (ls : Array Slot), RI z0_10 1 4 → FLD w0 p0 7 10 (.int z0_10) → OV vw_TAPE Ps w0 p0 s0 → f_X7_goesOn__4_19 s0 = R9 → WD D cy GG A s wr_X7_goesOn__4 wa_X7_goesOn__4 Ps w0 Ps w0 H locs → lv_has ls 1 [(0, .ref p0)] → W p l e (headSpec (Cond.code yX7_goesOn cX7_goesOn 1 (some .boolean) :: gT) ({ frames := 2, cells := 0, slots := 0, locals := 400 } : Room)).room s m ([.ref p0] : List Value).toArray below meth c H locs 0 0 Q (F0 m 19 ls []) := by
    intro z0_10 s0 H locs ls r_z0_10 m_z0_10 o_p0 hE hw hl
    have q_z0_10 : s0.1 10 = z0_10 := OV.eqI (V := vw_TAPE) hw.2.2.1 o_p0 m_z0_10 (by decide)
    refine lv_aload_n hx hb dX7_goesOn_19 rfl (lv_at hl 0 rfl) ?_
    refine tg_mem (ci := 7) (C := RX7) (T := TX7) (N := 12) hx hb hts inX7 hown hK hw 10 m_z0_10 rfl (by decide) (hts _ tw_104) (fun _ h9 => h9) dX7_goesOn_20 ?_
    refine lv_if_ne (tgt := 37) hx hb dX7_goesOn_23 (by decide) (fun c_23 => ?_) (fun c_23 => ?_)
    · refine lv_iconst (v := 0) hx hb dX7_goesOn_37 (by decide) ?_
      simp only [f_X7_goesOn__4_19, ↓reduceIte, q_z0_10, eq_false c_23] at hE
      subst hQ
      exact W.zret (v := 0) hx hb hr (rfl) (fun t ht hW => ⟨⟨0, (), rfl, ⟨⟨(by rw [hR, ← hE]), trivial⟩, rl_0.to (by decide), (fun h0 => trivial), (fun _ => trivial)⟩, by rw [ht]; exact hw.2.1, va_K.moved hW.alike hK, hw.2.2.1⟩, hw.2.2.2.1.F ht⟩) hw.2.2.2.1.2.2 dX7_goesOn_38
    · have r_z0_10 : RI z0_10 1 0 := rc_eq1 r_z0_10 rl_0 (ti_eq c_23) (by decide)
      exact (r_z0_10.no (by decide)).elim
  refine lv_aload_n hx hb dX7_goesOn_0 rfl (lv_at hl 0 rfl) ?_
  refine tg_get (ci := 7) (ts := ty_TAPE) (C := RX7) (T := TX7) (N := 12) hx hb hts inX7 hown hK hw h_p0 rfl rfl 7 (by decide) (hts _ tw_98) (fun _ h9 => h9) (ft := vI (-2147483648) 2147483647) rfl dX7_goesOn_1 (fun u_1 hv_u_1 m_u_1 => ?_)
  obtain ⟨vu_1, rfl, r_vu_1⟩ := hv_u_1
  have q_vu_1 : s0.1 7 = vu_1 := OV.eqI (V := vw_TAPE) hw.2.2.1 o_p0 m_u_1 (by decide)
  refine lv_if_ne (tgt := 19) hx hb dX7_goesOn_4 (by decide) (fun c_4 => ?_) (fun c_4 => ?_)
  · simp only [f_X7_goesOn__4, ↓reduceIte, q_vu_1, eq_false c_4] at hE
    exact B19 f0_10 s0 _ _ ls r_f0_10 m_f0_10 o_p0 hE hw hl
  · have r_vu_1 : RI vu_1 0 0 := rc_eq1 r_vu_1 rl_0 (ti_eq c_4) (by decide)
    refine lv_aload_n hx hb dX7_goesOn_7 rfl (lv_at hl 0 rfl) ?_
    refine tg_get (ci := 7) (ts := ty_TAPE) (C := RX7) (T := TX7) (N := 12) hx hb hts inX7 hown hK hw h_p0 rfl rfl 4 (by decide) (hts _ tw_92) (fun _ h9 => h9) (ft := vI 0 1) rfl dX7_goesOn_8 (fun u_2 hv_u_2 m_u_2 => ?_)
    obtain ⟨vu_2, rfl, r_vu_2⟩ := hv_u_2
    have q_vu_2 : s0.1 4 = vu_2 := OV.eqI (V := vw_TAPE) hw.2.2.1 o_p0 m_u_2 (by decide)
    refine lv_if_eq (tgt := 19) hx hb dX7_goesOn_11 (by decide) (fun c_11 => ?_) (fun c_11 => ?_)
    · have r_vu_2 : RI vu_2 0 0 := rc_eq1 r_vu_2 rl_0 (ti_eq c_11) (by decide)
      simp only [f_X7_goesOn__4, ↓reduceIte, q_vu_1, eq_true c_4, q_vu_2, eq_true c_11] at hE
      exact B19 f0_10 s0 _ _ ls r_f0_10 m_f0_10 o_p0 hE hw hl
    · have r_vu_2 : RI vu_2 1 1 := rc_neL r_vu_2 rl_0 (ti_ne c_11) (by decide)
      refine lv_aload_n hx hb dX7_goesOn_14 rfl (lv_at hl 0 rfl) ?_
      refine lv_iconst (v := 1) hx hb dX7_goesOn_15 (by decide) ?_
      refine tk_vr (va_runV (As := [.int 1]) (rest := []) ⟨hx, hb, hml, hown, hts⟩ (c_X7_refuse__6 l D cy z s.heap.size Ps w0 hw.1 p0 1 f0_10 s0 h_p0 (rl_1.to (by decide)) r_f0_10 m_f0_10 o_p0) (cwV 1 hts (gV tw_442 tw_443 tw_444 tw_2 tw_445) rfl rfl rfl (by decide +kernel) ⟨Nat.le_of_ble_eq_true rfl, Nat.le_of_ble_eq_true rfl⟩) (tg_preV hw hK hSD hA (ci := 7) (q := (RX7, TX7, 12)) rfl h_p0 rfl) rfl rfl hl.1 rfl (lv_room (Nat.le_of_ble_eq_true rfl)) dX7_goesOn_16 ⟨Nat.le_of_ble_eq_true rfl, Nat.le_of_ble_eq_true rfl⟩) hw hA (fun  H locs hp_v_3 hw => ?_)
      obtain ⟨hfn, hp_v_3⟩ := hp_v_3
      simp only [f_X7_goesOn__4, ↓reduceIte, q_vu_1, eq_true c_4, q_vu_2, eq_false c_11] at hE
      exact B19 f0_10 s0 _ _ ls r_f0_10 m_f0_10 o_p0 hE hw hl
abbrev wr_X0_beginsLine__7 : List (Nat × Nat) := [(7, 10), (7, 11)]
abbrev wa_X0_beginsLine__7 : List Nat := []
set_option maxHeartbeats 4000000 in
set_option maxRecDepth 100000 in
theorem c_X0_beginsLine__7 (l : Launch) (D : va_G) (cy : Nat → ClassId) (z : Nat → Nat) (sz : Nat) (Ps : PSI) (w0 : va_W) (hT : HT cy GG Ps w0) (p0 : Nat) (p1 : Nat) (p2 : Int32) (f1_10 : Int32) (s0 : OS) (s1 : OS) (h_p0 : (p0, 31) ∈ Ps) (h_p1 : (p1, 26) ∈ Ps) (r_p2 : RI p2 (-2147483648) 1) (r_f1_10 : RI f1_10 0 0) (m_f1_10 : FLD w0 p1 7 10 (.int f1_10)) (o_p0 : OV vw_BOOK Ps w0 p0 s0) (o_p1 : OV vw_TAPE Ps w0 p1 s1) : Met l yX0_beginsLine (Cond.code yX0_beginsLine cX0_beginsLine 3 (some .boolean) :: gT) ({ frames := 2, cells := 0, slots := 0, locals := 400 } : Room) (va_Pc [.ref p0, .ref p1, .int p2] (PRE D cy z w0 sz)) (va_Qi (fun (r : Int32) (u : va_W) => ((OV vw_BOOK Ps u p0 ((f_X0_beginsLine__7 p2 s0 s1).1) ∧ OV vw_TAPE Ps u p1 ((f_X0_beginsLine__7 p2 s0 s1).2.1) ∧ (f_X0_beginsLine__7 p2 s0 s1).2.2 = r ∧ True) ∧ (RI r 0 0 ∧ (r = 0 → (∃ v9 : Int32, FLD u p1 7 10 (.int v9) ∧ RI v9 1 4) ∧ True) ∧ (¬ r = 0 → True))) ∧ HT cy GG Ps u ∧ FR wr_X0_beginsLine__7 wa_X0_beginsLine__7 Ps w0 u) (BB D cy (va_A w0 sz) (fun (u : va_W) => u)) (va_A w0 sz)) 0 0 (va_A w0 sz) := by
  refine Met.ofW (cc := cX0_beginsLine) (maxL := 3) (ret := (some .boolean)) (by decide) rfl ?_
  intro p e s m args below meth c s₁ B hml hv
  obtain ⟨rfl, hsz, hP, hK, hD0, hSD⟩ := hv
  have hx := B.exec
  have hb := B.bytes
  have hr := B.returns
  have hlocks := B.notSynchronized
  have hts : ∀ w ∈ gT, w.before _ s = true := fun w h => atoms_spec (ws := Cond.code yX0_beginsLine cX0_beginsLine 3 (some .boolean) :: gT) B.pre w (List.mem_cons_of_mem _ h)
  have hown : s.vm.findClass RX0 = some m.cls := findClass_of_methodNamed B.named
  subst hsz
  have hD := hD0.self (sz := s.heap.size)
  generalize hAe : va_A w0 s.heap.size = A at hD hSD ⊢
  have hA : ∀ q : Nat, s.heap.size ≤ q → A q := fun q h => by rw [← hAe]; exact Or.inr h
  have hl := lv_entry ([.ref p0, .ref p1, .int p2]) (n := 3) (Nat.le_of_ble_eq_true rfl)
  rw [lg_entry_eq]
  generalize (lg_sl ([.ref p0, .ref p1, .int p2]) ++ List.replicate (3 - (lg_sl ([.ref p0, .ref p1, .int p2])).length) Slot.unset).toArray = ls at hl ⊢
  have hl : lv_has ls 3 [(0, .ref p0), (1, .ref p1), (2, .int p2)] := hl
  refine nameQ (fun Q hQ => ?_)
  have hw : WD D cy GG A s wr_X0_beginsLine__7 wa_X0_beginsLine__7 Ps w0 Ps w0 s.heap [] := ⟨hT, hP, hD, va_S.rf, FR.rf, hT.1, [], (List.append_nil _).symm⟩
  obtain ⟨R9, hR⟩ : ∃ q9 : OS × OS × Int32, f_X0_beginsLine__7 p2 s0 s1 = q9 := ⟨_, rfl⟩
  have hE := hR
  refine lv_iload_n hx hb dX0_beginsLine_0 rfl (lv_at hl 2 rfl) ?_
  refine lv_iconst (v := 2) hx hb dX0_beginsLine_1 (by decide) ?_
  refine lv_icmp_eq (tgt := 27) hx hb dX0_beginsLine_2 (by decide) (fun c_2 => ?_) (fun c_2 => ?_)
  · have r_p2 : RI p2 2 1 := rc_eq1 r_p2 rl_2 (ti_eq c_2) (by decide)
    exact (r_p2.no (by decide)).elim
  · refine lv_iload_n hx hb dX0_beginsLine_5 rfl (lv_at hl 2 rfl) ?_
    refine lv_sipush (v := 141) hx hb dX0_beginsLine_6 (by decide) ?_
    refine lv_icmp_lt (tgt := 19) hx hb dX0_beginsLine_9 (by decide) (fun c_9 => ?_) (fun c_9 => ?_)
    · refine lv_aload_n hx hb dX0_beginsLine_19 rfl (lv_at hl 1 rfl) ?_
      refine lv_iconst (v := 1) hx hb dX0_beginsLine_20 (by decide) ?_
      refine tk_v (va_runV (As := [.int 1]) (rest := []) ⟨hx, hb, hml, hown, hts⟩ (c_X7_refuse__5 l D cy z s.heap.size Ps w0 hw.1 p1 1 f1_10 s1 h_p1 (rl_1.to (by decide)) r_f1_10 m_f1_10 o_p1) (cwV 1 hts (gV tw_897 tw_443 tw_444 tw_2 tw_445) rfl rfl rfl (by decide +kernel) ⟨Nat.le_of_ble_eq_true rfl, Nat.le_of_ble_eq_true rfl⟩) (tg_preV hw hK hSD hA (ci := 7) (q := (RX7, TX7, 12)) rfl h_p1 rfl) rfl rfl hl.1 rfl (lv_room (Nat.le_of_ble_eq_true rfl)) dX0_beginsLine_21 ⟨Nat.le_of_ble_eq_true rfl, Nat.le_of_ble_eq_true rfl⟩) hw hA ⟨by decide, by decide⟩ (fun ws H locs hp_v_1 hw hF9 => ?_)
      obtain ⟨hfn, hp_v_1⟩ := hp_v_1
      have o_p0 := OV.over (V := vw_BOOK) hF9 o_p0 (by decide)
      obtain ⟨sg_2, q_sg_2⟩ : ∃ q9 : OS, (f_X7_refuse__5 (1 : Int32) s1) = q9 := ⟨_, rfl⟩
      have o_p1 : OV vw_TAPE Ps ws p1 sg_2 := by rw [← q_sg_2]; exact hfn.1
      obtain ⟨v_3, m_v_3, r_v_3⟩ := (hp_v_1.1)
      refine lv_goto (tgt := 41) hx hb dX0_beginsLine_24 (by decide) ?_
      refine lv_aload_n hx hb dX0_beginsLine_41 rfl (lv_at hl 1 rfl) ?_
      refine tk_vr (va_runV (As := []) (rest := []) ⟨hx, hb, hml, hown, hts⟩ (c_X7_pass__4 l D cy z H.size Ps ws hw.1 p1 v_3 sg_2 h_p1 r_v_3 m_v_3 o_p1) (cwV 0 hts (gV tw_898 tw_425 tw_426 tw_2 tw_427) rfl rfl rfl (by decide +kernel) ⟨Nat.le_of_ble_eq_true rfl, Nat.le_of_ble_eq_true rfl⟩) (tg_preV hw hK hSD hA (ci := 7) (q := (RX7, TX7, 12)) rfl h_p1 rfl) rfl rfl hl.1 rfl (lv_room (Nat.le_of_ble_eq_true rfl)) dX0_beginsLine_42 ⟨Nat.le_of_ble_eq_true rfl, Nat.le_of_ble_eq_true rfl⟩) hw hA (fun  H locs hp_v_4 hw => ?_)
      obtain ⟨hfn, hp_v_4⟩ := hp_v_4
      refine lv_aload_n hx hb dX0_beginsLine_45 rfl (lv_at hl 1 rfl) ?_
      refine tg_memN (ci := 7) (C := RX7) (T := TX7) (N := 12) hx hb hts inX7 hown hK hw 10 m_v_3 rfl (by decide) (hSD.nest tn_102) (fun _ h9 => h9) dX0_beginsLine_46 ?_
      have q_v_3 : sg_2.1 10 = v_3 := OV.eqI (V := vw_TAPE) hw.2.2.1 o_p1 m_v_3 (by decide)
      refine lv_if_ne (tgt := 56) hx hb dX0_beginsLine_49 (by decide) (fun c_49 => ?_) (fun c_49 => ?_)
      · refine lv_iconst (v := 0) hx hb dX0_beginsLine_56 (by decide) ?_
        simp only [f_X0_beginsLine__7, ↓reduceIte, eq_false c_2, eq_true c_9, q_sg_2, q_v_3, eq_false c_49] at hE
        subst hQ
        exact W.zret (v := 0) hx hb hr (rfl) (fun t ht hW => ⟨⟨0, ws, rfl, ⟨⟨⟨(by rw [hR, ← hE]; exact o_p0), (by rw [hR, ← hE]; exact o_p1), (by rw [hR, ← hE]), trivial⟩, rl_0.to (by decide), (fun h0 => ⟨⟨_, m_v_3, r_v_3⟩, trivial⟩), (fun _ => trivial)⟩, hw.1, hw.2.2.2.2.1⟩, by rw [ht]; exact hw.2.1, va_K.moved hW.alike hK, hw.2.2.1⟩, hw.2.2.2.1.F ht⟩) hw.2.2.2.1.2.2 dX0_beginsLine_57
      · have r_v_3 : RI v_3 1 0 := rc_eq1 r_v_3 rl_0 (ti_eq c_49) (by decide)
        exact (r_v_3.no (by decide)).elim
    · have r_p2 : RI p2 141 1 := rc_le2 rl_141 r_p2 (ti_nlt c_9) (by decide)
      exact (r_p2.no (by decide)).elim
abbrev wr_X7_nameAhead__19 : List (Nat × Nat) := [(7, 10), (7, 11)]
abbrev wa_X7_nameAhead__19 : List Nat := []
set_option maxHeartbeats 4000000 in
set_option maxRecDepth 100000 in
theorem c_X7_nameAhead__19 (l : Launch) (D : va_G) (cy : Nat → ClassId) (z : Nat → Nat) (sz : Nat) (Ps : PSI) (w0 : va_W) (hT : HT cy GG Ps w0) (p0 : Nat) (p1 : Nat) (p2 : Int32) (f0_10 : Int32) (s0 : OS) (s1 : OS) (h_p0 : (p0, 26) ∈ Ps) (h_p1 : (p1, 25) ∈ Ps) (r_p2 : RI p2 3 3) (r_f0_10 : RI f0_10 0 0) (m_f0_10 : FLD w0 p0 7 10 (.int f0_10)) (o_p0 : OV vw_TAPE Ps w0 p0 s0) (o_p1 : OV vw_POST Ps w0 p1 s1) : Met l yX7_nameAhead (Cond.code yX7_nameAhead cX7_nameAhead 4 (some .int) :: gT) ({ frames := 2, cells := 0, slots := 0, locals := 400 } : Room) (va_Pc [.ref p0, .ref p1, .int p2] (PRE D cy z w0 sz)) (va_Qi (fun (r : Int32) (u : va_W) => ((OV vw_TAPE Ps u p0 ((f_X7_nameAhead__12 p2 s0 s1).1) ∧ OV vw_POST Ps u p1 ((f_X7_nameAhead__12 p2 s0 s1).2.1) ∧ (f_X7_nameAhead__12 p2 s0 s1).2.2 = r ∧ True) ∧ (RI r (-1) 7 ∧ (r = 0 → True) ∧ (¬ r = 0 → True) ∧ (True) ∧ (r.toInt < 0 → FLTp u p0 ∧ True) ∧ (0 ≤ r.toInt → True))) ∧ HT cy GG Ps u ∧ FR wr_X7_nameAhead__19 wa_X7_nameAhead__19 Ps w0 u) (BB D cy (va_A w0 sz) (fun (u : va_W) => u)) (va_A w0 sz)) 0 0 (va_A w0 sz) := by
  refine Met.ofW (cc := cX7_nameAhead) (maxL := 4) (ret := (some .int)) (by decide) rfl ?_
  intro p e s m args below meth c s₁ B hml hv
  obtain ⟨rfl, hsz, hP, hK, hD0, hSD⟩ := hv
  have hx := B.exec
  have hb := B.bytes
  have hr := B.returns
  have hlocks := B.notSynchronized
  have hts : ∀ w ∈ gT, w.before _ s = true := fun w h => atoms_spec (ws := Cond.code yX7_nameAhead cX7_nameAhead 4 (some .int) :: gT) B.pre w (List.mem_cons_of_mem _ h)
  have hown : s.vm.findClass RX7 = some m.cls := findClass_of_methodNamed B.named
  subst hsz
  have hD := hD0.self (sz := s.heap.size)
  generalize hAe : va_A w0 s.heap.size = A at hD hSD ⊢
  have hA : ∀ q : Nat, s.heap.size ≤ q → A q := fun q h => by rw [← hAe]; exact Or.inr h
  have hl := lv_entry ([.ref p0, .ref p1, .int p2]) (n := 4) (Nat.le_of_ble_eq_true rfl)
  rw [lg_entry_eq]
  generalize (lg_sl ([.ref p0, .ref p1, .int p2]) ++ List.replicate (4 - (lg_sl ([.ref p0, .ref p1, .int p2])).length) Slot.unset).toArray = ls at hl ⊢
  have hl : lv_has ls 4 [(0, .ref p0), (1, .ref p1), (2, .int p2)] := hl
  refine nameQ (fun Q hQ => ?_)
  have hw : WD D cy GG A s wr_X7_nameAhead__19 wa_X7_nameAhead__19 Ps w0 Ps w0 s.heap [] := ⟨hT, hP, hD, va_S.rf, FR.rf, hT.1, [], (List.append_nil _).symm⟩
  obtain ⟨R9, hR⟩ : ∃ q9 : OS × OS × Int32, f_X7_nameAhead__12 p2 s0 s1 = q9 := ⟨_, rfl⟩
  have hE := hR
  refine lv_aload_n hx hb dX7_nameAhead_0 rfl (lv_at hl 0 rfl) ?_
  refine tg_get (ci := 7) (ts := ty_TAPE) (C := RX7) (T := TX7) (N := 12) hx hb hts inX7 hown hK hw h_p0 rfl rfl 7 (by decide) (hts _ tw_98) (fun _ h9 => h9) (ft := vI (-2147483648) 2147483647) rfl dX7_nameAhead_1 (fun u_1 hv_u_1 m_u_1 => ?_)
  obtain ⟨vu_1, rfl, r_vu_1⟩ := hv_u_1
  have q_vu_1 : s0.1 7 = vu_1 := OV.eqI (V := vw_TAPE) hw.2.2.1 o_p0 m_u_1 (by decide)
  refine lv_iconst (v := 2) hx hb dX7_nameAhead_4 (by decide) ?_
  refine lv_icmp_eq (tgt := 15) hx hb dX7_nameAhead_5 (by decide) (fun c_5 => ?_) (fun c_5 => ?_)
  · have r_vu_1 : RI vu_1 2 2 := rc_eq1 r_vu_1 rl_2 (ti_eq c_5) (by decide)
    refine lv_aload_n hx hb dX7_nameAhead_15 rfl (lv_at hl 1 rfl) ?_
    refine lv_aload_n hx hb dX7_nameAhead_16 rfl (lv_at hl 0 rfl) ?_
    refine tg_get (ci := 7) (ts := ty_TAPE) (C := RX7) (T := TX7) (N := 12) hx hb hts inX7 hown hK hw h_p0 rfl rfl 8 (by decide) (hts _ tw_100) (fun _ h9 => h9) (ft := vJ (-9223372036854775808) 9223372036854775807) rfl dX7_nameAhead_17 (fun u_2 hv_u_2 m_u_2 => ?_)
    obtain ⟨vu_2, rfl, r_vu_2⟩ := hv_u_2
    have q_vu_2 : s0.2.1 8 = vu_2 := OV.eqL (V := vw_TAPE) hw.2.2.1 o_p0 m_u_2 (by decide)
    refine lv_iload_n hx hb dX7_nameAhead_20 rfl (lv_at hl 2 rfl) ?_
    refine tk_ir (va_runV (As := [.long vu_2, .int p2]) (rest := []) ⟨hx, hb, hml, hown, hts⟩ (c_X3_numberOf__9 l D cy z s.heap.size Ps w0 hw.1 p1 vu_2 p2 s1 h_p1 r_vu_2 r_p2 o_p1) (cwV 2 hts (gV tw_460 tw_461 tw_462 tw_11 tw_463) rfl rfl rfl (by decide +kernel) ⟨Nat.le_of_ble_eq_true rfl, Nat.le_of_ble_eq_true rfl⟩) (tg_preV hw hK hSD hA (ci := 3) (q := (RX3, TX3, 9)) rfl h_p1 rfl) rfl rfl hl.1 rfl (lv_room (Nat.le_of_ble_eq_true rfl)) dX7_nameAhead_21 ⟨Nat.le_of_ble_eq_true rfl, Nat.le_of_ble_eq_true rfl⟩) hw hA (fun v_3  H locs hp_v_3 hw => ?_)
    obtain ⟨hfn, hp_v_3⟩ := hp_v_3
    have q_v_3 : (f_X3_numberOf__5 vu_2 p2 s1) = v_3 := hfn.1
    have r_v_3 : RI v_3 (-1) 7 := hp_v_3.1
    refine lv_istore_n (lv' := [(3, .int v_3), (0, .ref p0), (1, .ref p1), (2, .int p2)]) hx hb dX7_nameAhead_24 rfl hl (by decide) rfl (fun ls hl => ?_)
    refine lv_iload_n hx hb dX7_nameAhead_25 rfl (lv_at hl 0 rfl) ?_
    refine lv_iconst (v := (-1)) hx hb dX7_nameAhead_26 (by decide) ?_
    refine lv_icmp_ne (tgt := 35) hx hb dX7_nameAhead_27 (by decide) (fun c_27 => ?_) (fun c_27 => ?_)
    · have r_v_3 : RI v_3 0 7 := rc_neL r_v_3 rl_m1 (ti_ne c_27) (by decide)
      refine lv_aload_n hx hb dX7_nameAhead_35 rfl (lv_at hl 1 rfl) ?_
      refine tg_mem (ci := 7) (C := RX7) (T := TX7) (N := 12) hx hb hts inX7 hown hK hw 10 m_f0_10 rfl (by decide) (hts _ tw_104) (fun _ h9 => h9) dX7_nameAhead_36 ?_
      have q_f0_10 : s0.1 10 = f0_10 := OV.eqI (V := vw_TAPE) hw.2.2.1 o_p0 m_f0_10 (by decide)
      refine lv_if_ne (tgt := 46) hx hb dX7_nameAhead_39 (by decide) (fun c_39 => ?_) (fun c_39 => ?_)
      · exact absurd (r_f0_10.eq.trans rl_0.eq.symm) ((ti_ne c_39))
      · refine lv_iload_n hx hb dX7_nameAhead_42 rfl (lv_at hl 0 rfl) ?_
        refine lv_goto (tgt := 47) hx hb dX7_nameAhead_43 (by decide) ?_
        simp only [f_X7_nameAhead__12, ↓reduceIte, q_vu_1, eq_true c_5, q_vu_2, q_v_3, eq_false c_27, q_f0_10, eq_true c_39] at hE
        subst hQ
        exact W.iret (v := v_3) hx hb hr (fun t ht hW => ⟨⟨v_3, w0, rfl, ⟨⟨⟨(by rw [hR, ← hE]; exact o_p0), (by rw [hR, ← hE]; exact o_p1), (by rw [hR, ← hE]), trivial⟩, r_v_3.to (by decide), (fun h0 => trivial), (fun h0 => trivial), trivial, (fun h0 => absurd h0 (by have h8 := r_v_3; unfold RI at h8; omega)), (fun _ => trivial)⟩, hw.1, hw.2.2.2.2.1⟩, by rw [ht]; exact hw.2.1, va_K.moved hW.alike hK, hw.2.2.1⟩, hw.2.2.2.1.F ht⟩) hw.2.2.2.1.2.2 dX7_nameAhead_47
    · have r_v_3 : RI v_3 (-1) (-1) := rc_eq1 r_v_3 rl_m1 (ti_eq c_27) (by decide)
      refine lv_aload_n hx hb dX7_nameAhead_30 rfl (lv_at hl 1 rfl) ?_
      refine lv_iconst (v := 3) hx hb dX7_nameAhead_31 (by decide) ?_
      refine tk_v (va_runV (As := [.int 3]) (rest := []) ⟨hx, hb, hml, hown, hts⟩ (c_X7_refuse__5 l D cy z H.size Ps w0 hw.1 p0 3 f0_10 s0 h_p0 (rl_3.to (by decide)) r_f0_10 m_f0_10 o_p0) (cwV 1 hts (gV tw_442 tw_443 tw_444 tw_2 tw_445) rfl rfl rfl (by decide +kernel) ⟨Nat.le_of_ble_eq_true rfl, Nat.le_of_ble_eq_true rfl⟩) (tg_preV hw hK hSD hA (ci := 7) (q := (RX7, TX7, 12)) rfl h_p0 rfl) rfl rfl hl.1 rfl (lv_room (Nat.le_of_ble_eq_true rfl)) dX7_nameAhead_32 ⟨Nat.le_of_ble_eq_true rfl, Nat.le_of_ble_eq_true rfl⟩) hw hA ⟨by decide, by decide⟩ (fun ws H locs hp_v_4 hw hF9 => ?_)
      have m_u_1 := FLD.over hF9 m_u_1 (by decide)
      have m_u_2 := FLD.over hF9 m_u_2 (by decide)
      obtain ⟨hfn, hp_v_4⟩ := hp_v_4
      have o_p1 := OV.over (V := vw_POST) hF9 o_p1 (by decide)
      obtain ⟨sg_5, q_sg_5⟩ : ∃ q9 : OS, (f_X7_refuse__5 (3 : Int32) s0) = q9 := ⟨_, rfl⟩
      have o_p0 : OV vw_TAPE Ps ws p0 sg_5 := by rw [← q_sg_5]; exact hfn.1
      obtain ⟨v_6, m_v_6, r_v_6⟩ := (hp_v_4.1)
      refine lv_aload_n hx hb dX7_nameAhead_35 rfl (lv_at hl 1 rfl) ?_
      refine tg_mem (ci := 7) (C := RX7) (T := TX7) (N := 12) hx hb hts inX7 hown hK hw 10 m_v_6 rfl (by decide) (hts _ tw_104) (fun _ h9 => h9) dX7_nameAhead_36 ?_
      have q_v_6 : sg_5.1 10 = v_6 := OV.eqI (V := vw_TAPE) hw.2.2.1 o_p0 m_v_6 (by decide)
      refine lv_if_ne (tgt := 46) hx hb dX7_nameAhead_39 (by decide) (fun c_39 => ?_) (fun c_39 => ?_)
      · refine lv_iconst (v := (-1)) hx hb dX7_nameAhead_46 (by decide) ?_
        simp only [f_X7_nameAhead__12, ↓reduceIte, q_vu_1, eq_true c_5, q_vu_2, q_v_3, eq_true c_27, q_sg_5, q_v_6, eq_false c_39] at hE
        subst hQ
        have x_FLT_p0 : FLTp ws p0 := ⟨_, m_v_6, r_v_6.to (by decide)⟩
        exact W.iret (v := (-1)) hx hb hr (fun t ht hW => ⟨⟨(-1), ws, rfl, ⟨⟨⟨(by rw [hR, ← hE]; exact o_p0), (by rw [hR, ← hE]; exact o_p1), (by rw [hR, ← hE]), trivial⟩, rl_m1.to (by decide), (fun _ => trivial), (fun h0 => trivial), trivial, (fun h0 => ⟨x_FLT_p0, trivial⟩), (fun _ => trivial)⟩, hw.1, hw.2.2.2.2.1⟩, by rw [ht]; exact hw.2.1, va_K.moved hW.alike hK, hw.2.2.1⟩, hw.2.2.2.1.F ht⟩) hw.2.2.2.1.2.2 dX7_nameAhead_47
      · have r_v_6 : RI v_6 1 0 := rc_eq1 r_v_6 rl_0 (ti_eq c_39) (by decide)
        exact (r_v_6.no (by decide)).elim
  · refine lv_aload_n hx hb dX7_nameAhead_8 rfl (lv_at hl 0 rfl) ?_
    refine lv_iconst (v := 1) hx hb dX7_nameAhead_9 (by decide) ?_
    refine tk_v (va_runV (As := [.int 1]) (rest := []) ⟨hx, hb, hml, hown, hts⟩ (c_X7_refuse__5 l D cy z s.heap.size Ps w0 hw.1 p0 1 f0_10 s0 h_p0 (rl_1.to (by decide)) r_f0_10 m_f0_10 o_p0) (cwV 1 hts (gV tw_442 tw_443 tw_444 tw_2 tw_445) rfl rfl rfl (by decide +kernel) ⟨Nat.le_of_ble_eq_true rfl, Nat.le_of_ble_eq_true rfl⟩) (tg_preV hw hK hSD hA (ci := 7) (q := (RX7, TX7, 12)) rfl h_p0 rfl) rfl rfl hl.1 rfl (lv_room (Nat.le_of_ble_eq_true rfl)) dX7_nameAhead_10 ⟨Nat.le_of_ble_eq_true rfl, Nat.le_of_ble_eq_true rfl⟩) hw hA ⟨by decide, by decide⟩ (fun ws H locs hp_v_7 hw hF9 => ?_)
    have m_u_1 := FLD.over hF9 m_u_1 (by decide)
    obtain ⟨hfn, hp_v_7⟩ := hp_v_7
    have o_p1 := OV.over (V := vw_POST) hF9 o_p1 (by decide)
    obtain ⟨sg_8, q_sg_8⟩ : ∃ q9 : OS, (f_X7_refuse__5 (1 : Int32) s0) = q9 := ⟨_, rfl⟩
    have o_p0 : OV vw_TAPE Ps ws p0 sg_8 := by rw [← q_sg_8]; exact hfn.1
    obtain ⟨v_9, m_v_9, r_v_9⟩ := (hp_v_7.1)
    refine lv_iconst (v := (-1)) hx hb dX7_nameAhead_13 (by decide) ?_
    simp only [f_X7_nameAhead__12, ↓reduceIte, q_vu_1, eq_false c_5, q_sg_8] at hE
    subst hQ
    have x_FLT_p0 : FLTp ws p0 := ⟨_, m_v_9, r_v_9.to (by decide)⟩
    exact W.iret (v := (-1)) hx hb hr (fun t ht hW => ⟨⟨(-1), ws, rfl, ⟨⟨⟨(by rw [hR, ← hE]; exact o_p0), (by rw [hR, ← hE]; exact o_p1), (by rw [hR, ← hE]), trivial⟩, rl_m1.to (by decide), (fun _ => trivial), (fun h0 => trivial), trivial, (fun h0 => ⟨x_FLT_p0, trivial⟩), (fun _ => trivial)⟩, hw.1, hw.2.2.2.2.1⟩, by rw [ht]; exact hw.2.1, va_K.moved hW.alike hK, hw.2.2.1⟩, hw.2.2.2.1.F ht⟩) hw.2.2.2.1.2.2 dX7_nameAhead_14
abbrev wr_X0_beginsLine__8 : List (Nat × Nat) := []
abbrev wa_X0_beginsLine__8 : List Nat := []
set_option maxHeartbeats 4000000 in
set_option maxRecDepth 100000 in
theorem c_X0_beginsLine__8 (l : Launch) (D : va_G) (cy : Nat → ClassId) (z : Nat → Nat) (sz : Nat) (Ps : PSI) (w0 : va_W) (hT : HT cy GG Ps w0) (p0 : Nat) (p1 : Nat) (p2 : Int32) (f1_10 : Int32) (s0 : OS) (s1 : OS) (h_p0 : (p0, 31) ∈ Ps) (h_p1 : (p1, 26) ∈ Ps) (r_p2 : RI p2 2 2) (r_f1_10 : RI f1_10 1 4) (m_f1_10 : FLD w0 p1 7 10 (.int f1_10)) (o_p0 : OV vw_BOOK Ps w0 p0 s0) (o_p1 : OV vw_TAPE Ps w0 p1 s1) : Met l yX0_beginsLine (Cond.code yX0_beginsLine cX0_beginsLine 3 (some .boolean) :: gT) ({ frames := 2, cells := 0, slots := 0, locals := 400 } : Room) (va_Pc [.ref p0, .ref p1, .int p2] (PRE D cy z w0 sz)) (va_Qi (fun (r : Int32) (u : Unit) => ((f_X0_beginsLine__8 p2 s0 s1) = r ∧ True) ∧ (RI r 0 0 ∧ (r = 0 → True) ∧ (¬ r = 0 → True))) (BB D cy (va_A w0 sz) (fun (u : Unit) => w0)) (va_A w0 sz)) 0 0 (va_A w0 sz) := by
  refine Met.ofW (cc := cX0_beginsLine) (maxL := 3) (ret := (some .boolean)) (by decide) rfl ?_
  intro p e s m args below meth c s₁ B hml hv
  obtain ⟨rfl, hsz, hP, hK, hD0, hSD⟩ := hv
  have hx := B.exec
  have hb := B.bytes
  have hr := B.returns
  have hlocks := B.notSynchronized
  have hts : ∀ w ∈ gT, w.before _ s = true := fun w h => atoms_spec (ws := Cond.code yX0_beginsLine cX0_beginsLine 3 (some .boolean) :: gT) B.pre w (List.mem_cons_of_mem _ h)
  have hown : s.vm.findClass RX0 = some m.cls := findClass_of_methodNamed B.named
  subst hsz
  have hD := hD0.self (sz := s.heap.size)
  generalize hAe : va_A w0 s.heap.size = A at hD hSD ⊢
  have hA : ∀ q : Nat, s.heap.size ≤ q → A q := fun q h => by rw [← hAe]; exact Or.inr h
  have hl := lv_entry ([.ref p0, .ref p1, .int p2]) (n := 3) (Nat.le_of_ble_eq_true rfl)
  rw [lg_entry_eq]
  generalize (lg_sl ([.ref p0, .ref p1, .int p2]) ++ List.replicate (3 - (lg_sl ([.ref p0, .ref p1, .int p2])).length) Slot.unset).toArray = ls at hl ⊢
  have hl : lv_has ls 3 [(0, .ref p0), (1, .ref p1), (2, .int p2)] := hl
  refine nameQ (fun Q hQ => ?_)
  have hw : WD D cy GG A s wr_X0_beginsLine__8 wa_X0_beginsLine__8 Ps w0 Ps w0 s.heap [] := ⟨hT, hP, hD, va_S.rf, FR.rf, hT.1, [], (List.append_nil _).symm⟩
  obtain ⟨R9, hR⟩ : ∃ q9 : Int32, f_X0_beginsLine__8 p2 s0 s1 = q9 := ⟨_, rfl⟩
  have hE := hR
  refine lv_iload_n hx hb dX0_beginsLine_0 rfl (lv_at hl 2 rfl) ?_
  refine lv_iconst (v := 2) hx hb dX0_beginsLine_1 (by decide) ?_
  refine lv_icmp_eq (tgt := 27) hx hb dX0_beginsLine_2 (by decide) (fun c_2 => ?_) (fun c_2 => ?_)
  · refine lv_aload_n hx hb dX0_beginsLine_27 rfl (lv_at hl 0 rfl) ?_
    refine tg_get (ci := 0) (ts := ty_BOOK) (C := RX0) (T := TX0) (N := 5) hx hb hts inX0 hown hK hw h_p0 rfl rfl 3 (by decide) (hts _ tw_145) (fun _ h9 => h9) (ft := vI 0 40) rfl dX0_beginsLine_28 (fun u_1 hv_u_1 m_u_1 => ?_)
    obtain ⟨vu_1, rfl, r_vu_1⟩ := hv_u_1
    have q_vu_1 : s0.1 3 = vu_1 := OV.eqI (V := vw_BOOK) hw.2.2.1 o_p0 m_u_1 (by decide)
    refine lv_bipush (v := 40) hx hb dX0_beginsLine_31 (by decide) ?_
    refine lv_icmp_lt (tgt := 41) hx hb dX0_beginsLine_33 (by decide) (fun c_33 => ?_) (fun c_33 => ?_)
    · have r_vu_1 : RI vu_1 0 39 := rc_lt1 r_vu_1 rl_40 (ti_lt c_33) (by decide)
      refine lv_aload_n hx hb dX0_beginsLine_41 rfl (lv_at hl 1 rfl) ?_
      refine tk_vr (va_runV (As := []) (rest := []) ⟨hx, hb, hml, hown, hts⟩ (c_X7_pass__4 l D cy z s.heap.size Ps w0 hw.1 p1 f1_10 s1 h_p1 r_f1_10 m_f1_10 o_p1) (cwV 0 hts (gV tw_898 tw_425 tw_426 tw_2 tw_427) rfl rfl rfl (by decide +kernel) ⟨Nat.le_of_ble_eq_true rfl, Nat.le_of_ble_eq_true rfl⟩) (tg_preV hw hK hSD hA (ci := 7) (q := (RX7, TX7, 12)) rfl h_p1 rfl) rfl rfl hl.1 rfl (lv_room (Nat.le_of_ble_eq_true rfl)) dX0_beginsLine_42 ⟨Nat.le_of_ble_eq_true rfl, Nat.le_of_ble_eq_true rfl⟩) hw hA (fun  H locs hp_v_2 hw => ?_)
      obtain ⟨hfn, hp_v_2⟩ := hp_v_2
      refine lv_aload_n hx hb dX0_beginsLine_45 rfl (lv_at hl 1 rfl) ?_
      refine tg_memN (ci := 7) (C := RX7) (T := TX7) (N := 12) hx hb hts inX7 hown hK hw 10 m_f1_10 rfl (by decide) (hSD.nest tn_102) (fun _ h9 => h9) dX0_beginsLine_46 ?_
      have q_f1_10 : s1.1 10 = f1_10 := OV.eqI (V := vw_TAPE) hw.2.2.1 o_p1 m_f1_10 (by decide)
      refine lv_if_ne (tgt := 56) hx hb dX0_beginsLine_49 (by decide) (fun c_49 => ?_) (fun c_49 => ?_)
      · refine lv_iconst (v := 0) hx hb dX0_beginsLine_56 (by decide) ?_
        simp only [f_X0_beginsLine__8, ↓reduceIte, eq_true c_2, q_vu_1, eq_true c_33, q_f1_10, eq_false c_49] at hE
        subst hQ
        exact W.zret (v := 0) hx hb hr (rfl) (fun t ht hW => ⟨⟨0, (), rfl, ⟨⟨(by rw [hR, ← hE]), trivial⟩, rl_0.to (by decide), (fun h0 => trivial), (fun _ => trivial)⟩, by rw [ht]; exact hw.2.1, va_K.moved hW.alike hK, hw.2.2.1⟩, hw.2.2.2.1.F ht⟩) hw.2.2.2.1.2.2 dX0_beginsLine_57
      · have r_f1_10 : RI f1_10 1 0 := rc_eq1 r_f1_10 rl_0 (ti_eq c_49) (by decide)
        exact (r_f1_10.no (by decide)).elim
    · have r_vu_1 : RI vu_1 40 40 := rc_le2 rl_40 r_vu_1 (ti_nlt c_33) (by decide)
      refine lv_aload_n hx hb dX0_beginsLine_36 rfl (lv_at hl 1 rfl) ?_
      refine lv_iconst (v := 4) hx hb dX0_beginsLine_37 (by decide) ?_
      refine tk_vr (va_runV (As := [.int 4]) (rest := []) ⟨hx, hb, hml, hown, hts⟩ (c_X7_refuse__6 l D cy z s.heap.size Ps w0 hw.1 p1 4 f1_10 s1 h_p1 (rl_4.to (by decide)) r_f1_10 m_f1_10 o_p1) (cwV 1 hts (gV tw_897 tw_443 tw_444 tw_2 tw_445) rfl rfl rfl (by decide +kernel) ⟨Nat.le_of_ble_eq_true rfl, Nat.le_of_ble_eq_true rfl⟩) (tg_preV hw hK hSD hA (ci := 7) (q := (RX7, TX7, 12)) rfl h_p1 rfl) rfl rfl hl.1 rfl (lv_room (Nat.le_of_ble_eq_true rfl)) dX0_beginsLine_38 ⟨Nat.le_of_ble_eq_true rfl, Nat.le_of_ble_eq_true rfl⟩) hw hA (fun  H locs hp_v_3 hw => ?_)
      obtain ⟨hfn, hp_v_3⟩ := hp_v_3
      refine lv_aload_n hx hb dX0_beginsLine_41 rfl (lv_at hl 1 rfl) ?_
      refine tk_vr (va_runV (As := []) (rest := []) ⟨hx, hb, hml, hown, hts⟩ (c_X7_pass__4 l D cy z H.size Ps w0 hw.1 p1 f1_10 s1 h_p1 r_f1_10 m_f1_10 o_p1) (cwV 0 hts (gV tw_898 tw_425 tw_426 tw_2 tw_427) rfl rfl rfl (by decide +kernel) ⟨Nat.le_of_ble_eq_true rfl, Nat.le_of_ble_eq_true rfl⟩) (tg_preV hw hK hSD hA (ci := 7) (q := (RX7, TX7, 12)) rfl h_p1 rfl) rfl rfl hl.1 rfl (lv_room (Nat.le_of_ble_eq_true rfl)) dX0_beginsLine_42 ⟨Nat.le_of_ble_eq_true rfl, Nat.le_of_ble_eq_true rfl⟩) hw hA (fun  H locs hp_v_4 hw => ?_)
      obtain ⟨hfn, hp_v_4⟩ := hp_v_4
      refine lv_aload_n hx hb dX0_beginsLine_45 rfl (lv_at hl 1 rfl) ?_
      refine tg_memN (ci := 7) (C := RX7) (T := TX7) (N := 12) hx hb hts inX7 hown hK hw 10 m_f1_10 rfl (by decide) (hSD.nest tn_102) (fun _ h9 => h9) dX0_beginsLine_46 ?_
      have q_f1_10 : s1.1 10 = f1_10 := OV.eqI (V := vw_TAPE) hw.2.2.1 o_p1 m_f1_10 (by decide)
      refine lv_if_ne (tgt := 56) hx hb dX0_beginsLine_49 (by decide) (fun c_49 => ?_) (fun c_49 => ?_)
      · refine lv_iconst (v := 0) hx hb dX0_beginsLine_56 (by decide) ?_
        simp only [f_X0_beginsLine__8, ↓reduceIte, eq_true c_2, q_vu_1, eq_false c_33, q_f1_10, eq_false c_49] at hE
        subst hQ
        exact W.zret (v := 0) hx hb hr (rfl) (fun t ht hW => ⟨⟨0, (), rfl, ⟨⟨(by rw [hR, ← hE]), trivial⟩, rl_0.to (by decide), (fun h0 => trivial), (fun _ => trivial)⟩, by rw [ht]; exact hw.2.1, va_K.moved hW.alike hK, hw.2.2.1⟩, hw.2.2.2.1.F ht⟩) hw.2.2.2.1.2.2 dX0_beginsLine_57
      · have r_f1_10 : RI f1_10 1 0 := rc_eq1 r_f1_10 rl_0 (ti_eq c_49) (by decide)
        exact (r_f1_10.no (by decide)).elim
  · exact absurd (r_p2.eq.trans rl_2.eq.symm) ((ti_ne c_2))
abbrev wr_X0_beginsLine__9 : List (Nat × Nat) := [(7, 5), (7, 6), (7, 7), (7, 8), (7, 9), (7, 10), (7, 11)]
abbrev wa_X0_beginsLine__9 : List Nat := []
set_option maxHeartbeats 4000000 in
set_option maxRecDepth 100000 in
theorem c_X0_beginsLine__9 (l : Launch) (D : va_G) (cy : Nat → ClassId) (z : Nat → Nat) (sz : Nat) (Ps : PSI) (w0 : va_W) (hT : HT cy GG Ps w0) (p0 : Nat) (p1 : Nat) (p2 : Int32) (s0 : OS) (s1 : OS) (h_p0 : (p0, 31) ∈ Ps) (h_p1 : (p1, 26) ∈ Ps) (r_p2 : RI p2 2 2) (o_p0 : OV vw_BOOK Ps w0 p0 s0) (o_p1 : OV vw_TAPE Ps w0 p1 s1) : Met l yX0_beginsLine (Cond.code yX0_beginsLine cX0_beginsLine 3 (some .boolean) :: gT) ({ frames := 3, cells := 0, slots := 0, locals := 600 } : Room) (va_Pc [.ref p0, .ref p1, .int p2] (PRE D cy z w0 sz)) (va_Qi (fun (r : Int32) (u : va_W) => ((OV vw_BOOK Ps u p0 ((f_X0_beginsLine__9 p2 s0 s1).1) ∧ OV vw_TAPE Ps u p1 ((f_X0_beginsLine__9 p2 s0 s1).2.1) ∧ (f_X0_beginsLine__9 p2 s0 s1).2.2 = r ∧ True) ∧ (RI r 0 1 ∧ (r = 0 → (∃ v9 : Int32, FLD u p1 7 10 (.int v9) ∧ RI v9 1 4) ∧ True) ∧ (¬ r = 0 → (∃ v9 : Int32, FLD u p0 0 3 (.int v9) ∧ RI v9 0 39) ∧ (∃ v9 : Int32, FLD u p1 7 10 (.int v9) ∧ RI v9 0 0) ∧ True))) ∧ HT cy GG Ps u ∧ FR wr_X0_beginsLine__9 wa_X0_beginsLine__9 Ps w0 u) (BB D cy (va_A w0 sz) (fun (u : va_W) => u)) (va_A w0 sz)) 0 0 (va_A w0 sz) := by
  refine Met.ofW (cc := cX0_beginsLine) (maxL := 3) (ret := (some .boolean)) (by decide) rfl ?_
  intro p e s m args below meth c s₁ B hml hv
  obtain ⟨rfl, hsz, hP, hK, hD0, hSD⟩ := hv
  have hx := B.exec
  have hb := B.bytes
  have hr := B.returns
  have hlocks := B.notSynchronized
  have hts : ∀ w ∈ gT, w.before _ s = true := fun w h => atoms_spec (ws := Cond.code yX0_beginsLine cX0_beginsLine 3 (some .boolean) :: gT) B.pre w (List.mem_cons_of_mem _ h)
  have hown : s.vm.findClass RX0 = some m.cls := findClass_of_methodNamed B.named
  subst hsz
  have hD := hD0.self (sz := s.heap.size)
  generalize hAe : va_A w0 s.heap.size = A at hD hSD ⊢
  have hA : ∀ q : Nat, s.heap.size ≤ q → A q := fun q h => by rw [← hAe]; exact Or.inr h
  have hl := lv_entry ([.ref p0, .ref p1, .int p2]) (n := 3) (Nat.le_of_ble_eq_true rfl)
  rw [lg_entry_eq]
  generalize (lg_sl ([.ref p0, .ref p1, .int p2]) ++ List.replicate (3 - (lg_sl ([.ref p0, .ref p1, .int p2])).length) Slot.unset).toArray = ls at hl ⊢
  have hl : lv_has ls 3 [(0, .ref p0), (1, .ref p1), (2, .int p2)] := hl
  refine nameQ (fun Q hQ => ?_)
  have hw : WD D cy GG A s wr_X0_beginsLine__9 wa_X0_beginsLine__9 Ps w0 Ps w0 s.heap [] := ⟨hT, hP, hD, va_S.rf, FR.rf, hT.1, [], (List.append_nil _).symm⟩
  obtain ⟨R9, hR⟩ : ∃ q9 : OS × OS × Int32, f_X0_beginsLine__9 p2 s0 s1 = q9 := ⟨_, rfl⟩
  have hE := hR
  refine lv_iload_n hx hb dX0_beginsLine_0 rfl (lv_at hl 2 rfl) ?_
  refine lv_iconst (v := 2) hx hb dX0_beginsLine_1 (by decide) ?_
  refine lv_icmp_eq (tgt := 27) hx hb dX0_beginsLine_2 (by decide) (fun c_2 => ?_) (fun c_2 => ?_)
  · refine lv_aload_n hx hb dX0_beginsLine_27 rfl (lv_at hl 0 rfl) ?_
    refine tg_get (ci := 0) (ts := ty_BOOK) (C := RX0) (T := TX0) (N := 5) hx hb hts inX0 hown hK hw h_p0 rfl rfl 3 (by decide) (hts _ tw_145) (fun _ h9 => h9) (ft := vI 0 40) rfl dX0_beginsLine_28 (fun u_1 hv_u_1 m_u_1 => ?_)
    obtain ⟨vu_1, rfl, r_vu_1⟩ := hv_u_1
    have q_vu_1 : s0.1 3 = vu_1 := OV.eqI (V := vw_BOOK) hw.2.2.1 o_p0 m_u_1 (by decide)
    refine lv_bipush (v := 40) hx hb dX0_beginsLine_31 (by decide) ?_
    refine lv_icmp_lt (tgt := 41) hx hb dX0_beginsLine_33 (by decide) (fun c_33 => ?_) (fun c_33 => ?_)
    · have r_vu_1 : RI vu_1 0 39 := rc_lt1 r_vu_1 rl_40 (ti_lt c_33) (by decide)
      refine lv_aload_n hx hb dX0_beginsLine_41 rfl (lv_at hl 1 rfl) ?_
      refine tk_v (va_runV (As := []) (rest := []) ⟨hx, hb, hml, hown, hts⟩ (c_X7_pass__6 l D cy z s.heap.size Ps w0 hw.1 p1 s1 h_p1 o_p1) (cwV 0 hts (gV tw_898 tw_425 tw_426 tw_2 tw_427) rfl rfl rfl (by decide +kernel) ⟨Nat.le_of_ble_eq_true rfl, Nat.le_of_ble_eq_true rfl⟩) (tg_preV hw hK hSD hA (ci := 7) (q := (RX7, TX7, 12)) rfl h_p1 rfl) rfl rfl hl.1 rfl (lv_room (Nat.le_of_ble_eq_true rfl)) dX0_beginsLine_42 ⟨Nat.le_of_ble_eq_true rfl, Nat.le_of_ble_eq_true rfl⟩) hw hA ⟨by decide, by decide⟩ (fun ws H locs hp_v_2 hw hF9 => ?_)
      have m_u_1 := FLD.over hF9 m_u_1 (by decide)
      obtain ⟨hfn, hp_v_2⟩ := hp_v_2
      have o_p0 := OV.over (V := vw_BOOK) hF9 o_p0 (by decide)
      obtain ⟨sg_3, q_sg_3⟩ : ∃ q9 : OS, (f_X7_pass__6 s1) = q9 := ⟨_, rfl⟩
      have o_p1 : OV vw_TAPE Ps ws p1 sg_3 := by rw [← q_sg_3]; exact hfn.1
      refine lv_aload_n hx hb dX0_beginsLine_45 rfl (lv_at hl 1 rfl) ?_
      refine tg_getN (ci := 7) (ts := ty_TAPE) (C := RX7) (T := TX7) (N := 12) hx hb hts inX7 hown hK hw h_p1 rfl rfl 10 (by decide) (hSD.nest tn_102) (fun _ h9 => h9) (ft := vI 0 4) rfl dX0_beginsLine_46 (fun u_4 hv_u_4 m_u_4 => ?_)
      obtain ⟨vu_4, rfl, r_vu_4⟩ := hv_u_4
      have q_vu_4 : sg_3.1 10 = vu_4 := OV.eqI (V := vw_TAPE) hw.2.2.1 o_p1 m_u_4 (by decide)
      refine lv_if_ne (tgt := 56) hx hb dX0_beginsLine_49 (by decide) (fun c_49 => ?_) (fun c_49 => ?_)
      · have r_vu_4 : RI vu_4 1 4 := rc_neL r_vu_4 rl_0 (ti_ne c_49) (by decide)
        refine lv_iconst (v := 0) hx hb dX0_beginsLine_56 (by decide) ?_
        simp only [f_X0_beginsLine__9, ↓reduceIte, eq_true c_2, q_vu_1, eq_true c_33, q_sg_3, q_vu_4, eq_false c_49] at hE
        subst hQ
        exact W.zret (v := 0) hx hb hr (rfl) (fun t ht hW => ⟨⟨0, ws, rfl, ⟨⟨⟨(by rw [hR, ← hE]; exact o_p0), (by rw [hR, ← hE]; exact o_p1), (by rw [hR, ← hE]), trivial⟩, rl_0.to (by decide), (fun h0 => ⟨⟨_, m_u_4, r_vu_4⟩, trivial⟩), (fun h0 => absurd rfl h0)⟩, hw.1, hw.2.2.2.2.1⟩, by rw [ht]; exact hw.2.1, va_K.moved hW.alike hK, hw.2.2.1⟩, hw.2.2.2.1.F ht⟩) hw.2.2.2.1.2.2 dX0_beginsLine_57
      · have r_vu_4 : RI vu_4 0 0 := rc_eq1 r_vu_4 rl_0 (ti_eq c_49) (by decide)
        refine lv_iconst (v := 1) hx hb dX0_beginsLine_52 (by decide) ?_
        refine lv_goto (tgt := 57) hx hb dX0_beginsLine_53 (by decide) ?_
        simp only [f_X0_beginsLine__9, ↓reduceIte, eq_true c_2, q_vu_1, eq_true c_33, q_sg_3, q_vu_4, eq_true c_49] at hE
        subst hQ
        exact W.zret (v := 1) hx hb hr (rfl) (fun t ht hW => ⟨⟨1, ws, rfl, ⟨⟨⟨(by rw [hR, ← hE]; exact o_p0), (by rw [hR, ← hE]; exact o_p1), (by rw [hR, ← hE]), trivial⟩, rl_1.to (by decide), (fun h0 => absurd h0 (by decide)), (fun h0 => ⟨⟨_, m_u_1, r_vu_1⟩, ⟨_, m_u_4, r_vu_4⟩, trivial⟩)⟩, hw.1, hw.2.2.2.2.1⟩, by rw [ht]; exact hw.2.1, va_K.moved hW.alike hK, hw.2.2.1⟩, hw.2.2.2.1.F ht⟩) hw.2.2.2.1.2.2 dX0_beginsLine_57
    · have r_vu_1 : RI vu_1 40 40 := rc_le2 rl_40 r_vu_1 (ti_nlt c_33) (by decide)
      refine lv_aload_n hx hb dX0_beginsLine_36 rfl (lv_at hl 1 rfl) ?_
      refine lv_iconst (v := 4) hx hb dX0_beginsLine_37 (by decide) ?_
      refine tk_v (va_runV (As := [.int 4]) (rest := []) ⟨hx, hb, hml, hown, hts⟩ (c_X7_refuse__4 l D cy z s.heap.size Ps w0 hw.1 p1 4 s1 h_p1 (rl_4.to (by decide)) o_p1) (cwV 1 hts (gV tw_897 tw_443 tw_444 tw_2 tw_445) rfl rfl rfl (by decide +kernel) ⟨Nat.le_of_ble_eq_true rfl, Nat.le_of_ble_eq_true rfl⟩) (tg_preV hw hK hSD hA (ci := 7) (q := (RX7, TX7, 12)) rfl h_p1 rfl) rfl rfl hl.1 rfl (lv_room (Nat.le_of_ble_eq_true rfl)) dX0_beginsLine_38 ⟨Nat.le_of_ble_eq_true rfl, Nat.le_of_ble_eq_true rfl⟩) hw hA ⟨by decide, by decide⟩ (fun ws H locs hp_v_5 hw hF9 => ?_)
      have m_u_1 := FLD.over hF9 m_u_1 (by decide)
      obtain ⟨hfn, hp_v_5⟩ := hp_v_5
      have o_p0 := OV.over (V := vw_BOOK) hF9 o_p0 (by decide)
      obtain ⟨sg_6, q_sg_6⟩ : ∃ q9 : OS, (f_X7_refuse__4 (4 : Int32) s1) = q9 := ⟨_, rfl⟩
      have o_p1 : OV vw_TAPE Ps ws p1 sg_6 := by rw [← q_sg_6]; exact hfn.1
      obtain ⟨v_7, m_v_7, r_v_7⟩ := (hp_v_5.1)
      refine lv_aload_n hx hb dX0_beginsLine_41 rfl (lv_at hl 1 rfl) ?_
      refine tk_vr (va_runV (As := []) (rest := []) ⟨hx, hb, hml, hown, hts⟩ (c_X7_pass__4 l D cy z H.size Ps ws hw.1 p1 v_7 sg_6 h_p1 r_v_7 m_v_7 o_p1) (cwV 0 hts (gV tw_898 tw_425 tw_426 tw_2 tw_427) rfl rfl rfl (by decide +kernel) ⟨Nat.le_of_ble_eq_true rfl, Nat.le_of_ble_eq_true rfl⟩) (tg_preV hw hK hSD hA (ci := 7) (q := (RX7, TX7, 12)) rfl h_p1 rfl) rfl rfl hl.1 rfl (lv_room (Nat.le_of_ble_eq_true rfl)) dX0_beginsLine_42 ⟨Nat.le_of_ble_eq_true rfl, Nat.le_of_ble_eq_true rfl⟩) hw hA (fun  H locs hp_v_8 hw => ?_)
      obtain ⟨hfn, hp_v_8⟩ := hp_v_8
      refine lv_aload_n hx hb dX0_beginsLine_45 rfl (lv_at hl 1 rfl) ?_
      refine tg_memN (ci := 7) (C := RX7) (T := TX7) (N := 12) hx hb hts inX7 hown hK hw 10 m_v_7 rfl (by decide) (hSD.nest tn_102) (fun _ h9 => h9) dX0_beginsLine_46 ?_
      have q_v_7 : sg_6.1 10 = v_7 := OV.eqI (V := vw_TAPE) hw.2.2.1 o_p1 m_v_7 (by decide)
      refine lv_if_ne (tgt := 56) hx hb dX0_beginsLine_49 (by decide) (fun c_49 => ?_) (fun c_49 => ?_)
      · refine lv_iconst (v := 0) hx hb dX0_beginsLine_56 (by decide) ?_
        simp only [f_X0_beginsLine__9, ↓reduceIte, eq_true c_2, q_vu_1, eq_false c_33, q_sg_6, q_v_7, eq_false c_49] at hE
        subst hQ
        exact W.zret (v := 0) hx hb hr (rfl) (fun t ht hW => ⟨⟨0, ws, rfl, ⟨⟨⟨(by rw [hR, ← hE]; exact o_p0), (by rw [hR, ← hE]; exact o_p1), (by rw [hR, ← hE]), trivial⟩, rl_0.to (by decide), (fun h0 => ⟨⟨_, m_v_7, r_v_7⟩, trivial⟩), (fun h0 => absurd rfl h0)⟩, hw.1, hw.2.2.2.2.1⟩, by rw [ht]; exact hw.2.1, va_K.moved hW.alike hK, hw.2.2.1⟩, hw.2.2.2.1.F ht⟩) hw.2.2.2.1.2.2 dX0_beginsLine_57
      · have r_v_7 : RI v_7 1 0 := rc_eq1 r_v_7 rl_0 (ti_eq c_49) (by decide)
        exact (r_v_7.no (by decide)).elim
  · exact absurd (r_p2.eq.trans rl_2.eq.symm) ((ti_ne c_2))
abbrev wr_X7_takeName__16 : List (Nat × Nat) := []
abbrev wa_X7_takeName__16 : List Nat := []
set_option maxHeartbeats 4000000 in
set_option maxRecDepth 100000 in
theorem c_X7_takeName__16 (l : Launch) (D : va_G) (cy : Nat → ClassId) (z : Nat → Nat) (sz : Nat) (Ps : PSI) (w0 : va_W) (hT : HT cy GG Ps w0) (p0 : Nat) (p1 : Nat) (p2 : Int32) (f0_10 : Int32) (s0 : OS) (s1 : OS) (h_p0 : (p0, 26) ∈ Ps) (h_p1 : (p1, 25) ∈ Ps) (r_p2 : RI p2 0 0) (r_f0_10 : RI f0_10 1 4) (m_f0_10 : FLD w0 p0 7 10 (.int f0_10)) (o_p0 : OV vw_TAPE Ps w0 p0 s0) (o_p1 : OV vw_POST Ps w0 p1 s1) : Met l yX7_takeName (Cond.code yX7_takeName cX7_takeName 4 (some .int) :: gT) ({ frames := 3, cells := 0, slots := 0, locals := 600 } : Room) (va_Pc [.ref p0, .ref p1, .int p2] (PRE D cy z w0 sz)) (va_Qi (fun (r : Int32) (u : Unit) => ((f_X7_takeName__16 p2 s0 s1) = r ∧ True) ∧ (RI r (-1) (-1) ∧ (r = 0 → True) ∧ (¬ r = 0 → True) ∧ (True) ∧ (r.toInt < 0 → FLTp w0 p0 ∧ True) ∧ (0 ≤ r.toInt → True))) (BB D cy (va_A w0 sz) (fun (u : Unit) => w0)) (va_A w0 sz)) 0 0 (va_A w0 sz) := by
  refine Met.ofW (cc := cX7_takeName) (maxL := 4) (ret := (some .int)) (by decide) rfl ?_
  intro p e s m args below meth c s₁ B hml hv
  obtain ⟨rfl, hsz, hP, hK, hD0, hSD⟩ := hv
  have hx := B.exec
  have hb := B.bytes
  have hr := B.returns
  have hlocks := B.notSynchronized
  have hts : ∀ w ∈ gT, w.before _ s = true := fun w h => atoms_spec (ws := Cond.code yX7_takeName cX7_takeName 4 (some .int) :: gT) B.pre w (List.mem_cons_of_mem _ h)
  have hown : s.vm.findClass RX7 = some m.cls := findClass_of_methodNamed B.named
  subst hsz
  have hD := hD0.self (sz := s.heap.size)
  generalize hAe : va_A w0 s.heap.size = A at hD hSD ⊢
  have hA : ∀ q : Nat, s.heap.size ≤ q → A q := fun q h => by rw [← hAe]; exact Or.inr h
  have hl := lv_entry ([.ref p0, .ref p1, .int p2]) (n := 4) (Nat.le_of_ble_eq_true rfl)
  rw [lg_entry_eq]
  generalize (lg_sl ([.ref p0, .ref p1, .int p2]) ++ List.replicate (4 - (lg_sl ([.ref p0, .ref p1, .int p2])).length) Slot.unset).toArray = ls at hl ⊢
  have hl : lv_has ls 4 [(0, .ref p0), (1, .ref p1), (2, .int p2)] := hl
  refine nameQ (fun Q hQ => ?_)
  have hw : WD D cy GG A s wr_X7_takeName__16 wa_X7_takeName__16 Ps w0 Ps w0 s.heap [] := ⟨hT, hP, hD, va_S.rf, FR.rf, hT.1, [], (List.append_nil _).symm⟩
  obtain ⟨R9, hR⟩ : ∃ q9 : Int32, f_X7_takeName__16 p2 s0 s1 = q9 := ⟨_, rfl⟩
  have hE := hR
  refine lv_aload_n hx hb dX7_takeName_0 rfl (lv_at hl 0 rfl) ?_
  refine lv_aload_n hx hb dX7_takeName_1 rfl (lv_at hl 1 rfl) ?_
  refine lv_iload_n hx hb dX7_takeName_2 rfl (lv_at hl 2 rfl) ?_
  refine tk_ir (va_runV (As := [.ref p1, .int p2]) (rest := []) ⟨hx, hb, hml, hown, hts⟩ (c_X7_nameAhead__18 l D cy z s.heap.size Ps w0 hw.1 p0 p1 p2 f0_10 s0 s1 h_p0 h_p1 r_p2 r_f0_10 m_f0_10 o_p0 o_p1) (cwV 2 hts (gV tw_468 tw_457 tw_458 tw_2 tw_459) rfl rfl rfl (by decide +kernel) ⟨Nat.le_of_ble_eq_true rfl, Nat.le_of_ble_eq_true rfl⟩) (tg_preV hw hK hSD hA (ci := 7) (q := (RX7, TX7, 12)) rfl h_p0 rfl) rfl rfl hl.1 rfl (lv_room (Nat.le_of_ble_eq_true rfl)) dX7_takeName_3 ⟨Nat.le_of_ble_eq_true rfl, Nat.le_of_ble_eq_true rfl⟩) hw hA (fun v_1  H locs hp_v_1 hw => ?_)
  obtain ⟨hfn, hp_v_1⟩ := hp_v_1
  have q_v_1 : (f_X7_nameAhead__18 p2 s0 s1) = v_1 := hfn.1
  have r_v_1 : RI v_1 (-1) (-1) := hp_v_1.1
  by_cases c9_v_1 : v_1.toInt < 0
  · have r_v_1 : RI v_1 (-1) (-1) := by unfold RI at r_v_1 ⊢; omega
    have x_FLT_p0 := (hp_v_1.2.2.2.2.1 (by omega)).1
    obtain ⟨v_2, m_v_2, r_v_2⟩ := id x_FLT_p0
    refine lv_istore_n (lv' := [(3, .int v_1), (0, .ref p0), (1, .ref p1), (2, .int p2)]) hx hb dX7_takeName_6 rfl hl (by decide) rfl (fun ls hl => ?_)
    refine lv_aload_n hx hb dX7_takeName_7 rfl (lv_at hl 1 rfl) ?_
    refine tk_vr (va_runV (As := []) (rest := []) ⟨hx, hb, hml, hown, hts⟩ (c_X7_pass__4 l D cy z H.size Ps w0 hw.1 p0 v_2 s0 h_p0 r_v_2 m_v_2 o_p0) (cwV 0 hts (gV tw_424 tw_425 tw_426 tw_2 tw_427) rfl rfl rfl (by decide +kernel) ⟨Nat.le_of_ble_eq_true rfl, Nat.le_of_ble_eq_true rfl⟩) (tg_preV hw hK hSD hA (ci := 7) (q := (RX7, TX7, 12)) rfl h_p0 rfl) rfl rfl hl.1 rfl (lv_room (Nat.le_of_ble_eq_true rfl)) dX7_takeName_8 ⟨Nat.le_of_ble_eq_true rfl, Nat.le_of_ble_eq_true rfl⟩) hw hA (fun  H locs hp_v_3 hw => ?_)
    obtain ⟨hfn, hp_v_3⟩ := hp_v_3
    refine lv_iload_n hx hb dX7_takeName_11 rfl (lv_at hl 0 rfl) ?_
    simp only [f_X7_takeName__16, ↓reduceIte, q_v_1, eq_true c9_v_1] at hE
    subst hQ
    exact W.iret (v := v_1) hx hb hr (fun t ht hW => ⟨⟨v_1, (), rfl, ⟨⟨(by rw [hR, ← hE]), trivial⟩, r_v_1.to (by decide), (fun _ => trivial), (fun h0 => trivial), trivial, (fun h0 => ⟨x_FLT_p0, trivial⟩), (fun _ => trivial)⟩, by rw [ht]; exact hw.2.1, va_K.moved hW.alike hK, hw.2.2.1⟩, hw.2.2.2.1.F ht⟩) hw.2.2.2.1.2.2 dX7_takeName_12
  · exact absurd c9_v_1 (by unfold RI at r_v_1; omega)
abbrev wr_X0_addLine__3 : List (Nat × Nat) := [(0, 3)]
abbrev wa_X0_addLine__3 : List Nat := [18, 19, 20]
set_option maxHeartbeats 4000000 in
set_option maxRecDepth 100000 in
theorem c_X0_addLine__3 (l : Launch) (D : va_G) (cy : Nat → ClassId) (z : Nat → Nat) (sz : Nat) (Ps : PSI) (w0 : va_W) (hT : HT cy GG Ps w0) (p0 : Nat) (p1 : Int32) (p2 : Int32) (p3 : Int32) (s0 : OS) (h_p0 : (p0, 31) ∈ Ps) (r_p1 : RI p1 (-2147483648) 2147483647) (r_p2 : RI p2 (-2147483648) 2147483647) (r_p3 : RI p3 (-2147483648) 2147483647) (x_BG_p0 : BG Ps w0 p0) (x_GB_p1_p2_p3 : gb p1 p2 p3) (o_p0 : OV vw_BOOK Ps w0 p0 s0) : Met l yX0_addLine (Cond.code yX0_addLine cX0_addLine 4 none :: gT) ({ frames := 0, cells := 0, slots := 0, locals := 200 } : Room) (va_Pc [.ref p0, .int p1, .int p2, .int p3] (PRE D cy z w0 sz)) (va_Qv (fun (u : va_W) => ((OV vw_BOOK Ps u p0 ((f_X0_addLine__3 p1 p2 p3 s0)) ∧ True) ∧ ((∃ v9 : Int32, FLD u p0 0 3 (.int v9) ∧ RI v9 1 40) ∧ BG Ps u p0 ∧ True)) ∧ HT cy GG Ps u ∧ FR wr_X0_addLine__3 wa_X0_addLine__3 Ps w0 u) (BB D cy (va_A w0 sz) (fun (u : va_W) => u)) (va_A w0 sz)) 0 0 (va_A w0 sz) := by
  refine Met.ofW (cc := cX0_addLine) (maxL := 4) (ret := none) (by decide) rfl ?_
  intro p e s m args below meth c s₁ B hml hv
  obtain ⟨rfl, hsz, hP, hK, hD0, hSD⟩ := hv
  have hx := B.exec
  have hb := B.bytes
  have hr := B.returns
  have hlocks := B.notSynchronized
  have hts : ∀ w ∈ gT, w.before _ s = true := fun w h => atoms_spec (ws := Cond.code yX0_addLine cX0_addLine 4 none :: gT) B.pre w (List.mem_cons_of_mem _ h)
  have hown : s.vm.findClass RX0 = some m.cls := findClass_of_methodNamed B.named
  subst hsz
  have hD := hD0.self (sz := s.heap.size)
  generalize hAe : va_A w0 s.heap.size = A at hD hSD ⊢
  have hA : ∀ q : Nat, s.heap.size ≤ q → A q := fun q h => by rw [← hAe]; exact Or.inr h
  have hl := lv_entry ([.ref p0, .int p1, .int p2, .int p3]) (n := 4) (Nat.le_of_ble_eq_true rfl)
  rw [lg_entry_eq]
  generalize (lg_sl ([.ref p0, .int p1, .int p2, .int p3]) ++ List.replicate (4 - (lg_sl ([.ref p0, .int p1, .int p2, .int p3])).length) Slot.unset).toArray = ls at hl ⊢
  have hl : lv_has ls 4 [(0, .ref p0), (1, .int p1), (2, .int p2), (3, .int p3)] := hl
  refine nameQ (fun Q hQ => ?_)
  have hw : WD D cy GG A s wr_X0_addLine__3 wa_X0_addLine__3 Ps w0 Ps w0 s.heap [] := ⟨hT, hP, hD, va_S.rf, FR.rf, hT.1, [], (List.append_nil _).symm⟩
  obtain ⟨R9, hR⟩ : ∃ q9 : OS, f_X0_addLine__3 p1 p2 p3 s0 = q9 := ⟨_, rfl⟩
  have hE := hR
  refine lv_aload_n hx hb dX0_addLine_0 rfl (lv_at hl 0 rfl) ?_
  refine tg_get (ci := 0) (ts := ty_BOOK) (C := RX0) (T := TX0) (N := 5) hx hb hts inX0 hown hK hw h_p0 rfl rfl 3 (by decide) (hts _ tw_145) (fun _ h9 => h9) (ft := vI 0 40) rfl dX0_addLine_1 (fun u_1 hv_u_1 m_u_1 => ?_)
  obtain ⟨vu_1, rfl, r_vu_1⟩ := hv_u_1
  have q_vu_1 : s0.1 3 = vu_1 := OV.eqI (V := vw_BOOK) hw.2.2.1 o_p0 m_u_1 (by decide)
  refine lv_bipush (v := 40) hx hb dX0_addLine_4 (by decide) ?_
  refine lv_icmp_ge (tgt := 49) hx hb dX0_addLine_6 (by decide) (fun c_6 => ?_) (fun c_6 => ?_)
  · have r_vu_1 : RI vu_1 40 40 := rc_le2 rl_40 r_vu_1 (ti_le c_6) (by decide)
    simp only [f_X0_addLine__3, ↓reduceIte, q_vu_1, eq_true c_6] at hE
    subst hQ
    exact W.vret hx hb hr (fun t ht hW => ⟨⟨w0, rfl, ⟨⟨⟨(by rw [hR, ← hE]; exact o_p0), trivial⟩, ⟨⟨_, m_u_1, (r_vu_1.to (by decide))⟩, x_BG_p0, trivial⟩⟩, hw.1, hw.2.2.2.2.1⟩, by rw [ht]; exact hw.2.1, va_K.moved hW.alike hK, hw.2.2.1⟩, hw.2.2.2.1.F ht⟩) hw.2.2.2.1.2.2 dX0_addLine_49
  · have r_vu_1 : RI vu_1 0 39 := rc_lt1 r_vu_1 rl_40 (ti_nle c_6) (by decide)
    have x_BQ0_p0_vu_1 : B3 (fun n f g h => B4 vu_1 n f g h) Ps w0 p0 := B3.at hw x_BG_p0 m_u_1
    refine lv_aload_n hx hb dX0_addLine_9 rfl (lv_at hl 0 rfl) ?_
    refine tg_get (ci := 0) (ts := ty_BOOK) (C := RX0) (T := TX0) (N := 5) hx hb hts inX0 hown hK hw h_p0 rfl rfl 0 (by decide) (hts _ tw_142) (fun _ h9 => h9) (ft := vR 18) rfl dX0_addLine_10 (fun u_2 hv_u_2 m_u_2 => ?_)
    obtain ⟨vu_2, rfl, h_vu_2⟩ := hv_u_2
    refine lv_aload_n hx hb dX0_addLine_13 rfl (lv_at hl 0 rfl) ?_
    refine tg_mem (ci := 0) (C := RX0) (T := TX0) (N := 5) hx hb hts inX0 hown hK hw 3 m_u_1 rfl (by decide) (hts _ tw_145) (fun _ h9 => h9) dX0_addLine_14 ?_
    refine lv_iload_n hx hb dX0_addLine_17 rfl (lv_at hl 1 rfl) ?_
    refine tg_iast hx hb hK hw h_vu_2 rfl 0 39 r_vu_1 (by decide) r_p1 (by exact fun _ _ _ => by decide) (fun _ _ _ _ _ => trivial) (by decide) dX0_addLine_18 (fun ws H locs hw hF9 hU9 => ?_)
    have x_BQ1_p0_vu_1_p1 : B3 (fun n f g h => B4 vu_1 n f g h ∧ f (Int32.toNatClampNeg vu_1) = p1) Ps ws p0 := B3.st1 hF9 hU9 x_BQ0_p0_vu_1 m_u_2 (fun n9 f9 g9 h8 h9 => ⟨gbs_upd1 h9 r_vu_1.1, pk_us⟩)
    have m_u_1 := FLD.over hF9 m_u_1 (by decide)
    have m_u_2 := FLD.over hF9 m_u_2 (by decide)
    have o_p0 := OV.over (V := vw_BOOK) hF9 o_p0 (by decide)
    refine lv_aload_n hx hb dX0_addLine_19 rfl (lv_at hl 0 rfl) ?_
    refine tg_get (ci := 0) (ts := ty_BOOK) (C := RX0) (T := TX0) (N := 5) hx hb hts inX0 hown hK hw h_p0 rfl rfl 1 (by decide) (hts _ tw_143) (fun _ h9 => h9) (ft := vR 19) rfl dX0_addLine_20 (fun u_3 hv_u_3 m_u_3 => ?_)
    obtain ⟨vu_3, rfl, h_vu_3⟩ := hv_u_3
    refine lv_aload_n hx hb dX0_addLine_23 rfl (lv_at hl 0 rfl) ?_
    refine tg_mem (ci := 0) (C := RX0) (T := TX0) (N := 5) hx hb hts inX0 hown hK hw 3 m_u_1 rfl (by decide) (hts _ tw_145) (fun _ h9 => h9) dX0_addLine_24 ?_
    refine lv_iload_n hx hb dX0_addLine_27 rfl (lv_at hl 2 rfl) ?_
    refine tg_iast hx hb hK hw h_vu_3 rfl 0 39 r_vu_1 (by decide) r_p2 (by exact fun _ _ _ => by decide) (fun _ _ _ _ _ => trivial) (by decide) dX0_addLine_28 (fun ws H locs hw hF9 hU9 => ?_)
    have x_BQ2_p0_vu_1_p1_p2 : B3 (fun n f g h => B4 vu_1 n f g h ∧ f (Int32.toNatClampNeg vu_1) = p1 ∧ g (Int32.toNatClampNeg vu_1) = p2) Ps ws p0 := B3.st2 hF9 hU9 x_BQ1_p0_vu_1_p1 m_u_3 (fun n9 f9 g9 h8 h9 => ⟨gbs_upd2 h9.1 r_vu_1.1, h9.2, pk_us⟩)
    have m_u_1 := FLD.over hF9 m_u_1 (by decide)
    have m_u_2 := FLD.over hF9 m_u_2 (by decide)
    have m_u_3 := FLD.over hF9 m_u_3 (by decide)
    have o_p0 := OV.over (V := vw_BOOK) hF9 o_p0 (by decide)
    refine lv_aload_n hx hb dX0_addLine_29 rfl (lv_at hl 0 rfl) ?_
    refine tg_get (ci := 0) (ts := ty_BOOK) (C := RX0) (T := TX0) (N := 5) hx hb hts inX0 hown hK hw h_p0 rfl rfl 2 (by decide) (hts _ tw_144) (fun _ h9 => h9) (ft := vR 20) rfl dX0_addLine_30 (fun u_4 hv_u_4 m_u_4 => ?_)
    obtain ⟨vu_4, rfl, h_vu_4⟩ := hv_u_4
    refine lv_aload_n hx hb dX0_addLine_33 rfl (lv_at hl 0 rfl) ?_
    refine tg_mem (ci := 0) (C := RX0) (T := TX0) (N := 5) hx hb hts inX0 hown hK hw 3 m_u_1 rfl (by decide) (hts _ tw_145) (fun _ h9 => h9) dX0_addLine_34 ?_
    refine lv_iload_n hx hb dX0_addLine_37 rfl (lv_at hl 3 rfl) ?_
    refine tg_iast hx hb hK hw h_vu_4 rfl 0 39 r_vu_1 (by decide) r_p3 (by exact fun _ _ _ => by decide) (fun _ _ _ _ _ => trivial) (by decide) dX0_addLine_38 (fun ws H locs hw hF9 hU9 => ?_)
    have x_BQ3_p0_vu_1_p1_p2_p3 : B3 (fun n f g h => B4 vu_1 n f g h ∧ f (Int32.toNatClampNeg vu_1) = p1 ∧ g (Int32.toNatClampNeg vu_1) = p2 ∧ h (Int32.toNatClampNeg vu_1) = p3) Ps ws p0 := B3.st3 hF9 hU9 x_BQ2_p0_vu_1_p1_p2 m_u_4 (fun n9 f9 g9 h8 h9 => ⟨gbs_upd3 h9.1 r_vu_1.1, h9.2.1, h9.2.2, pk_us⟩)
    have m_u_1 := FLD.over hF9 m_u_1 (by decide)
    have m_u_2 := FLD.over hF9 m_u_2 (by decide)
    have m_u_3 := FLD.over hF9 m_u_3 (by decide)
    have m_u_4 := FLD.over hF9 m_u_4 (by decide)
    have o_p0 := OV.over (V := vw_BOOK) hF9 o_p0 (by decide)
    refine lv_aload_n hx hb dX0_addLine_39 rfl (lv_at hl 0 rfl) ?_
    refine lv_dup hx hb dX0_addLine_40 rfl ?_
    refine tg_mem (ci := 0) (C := RX0) (T := TX0) (N := 5) hx hb hts inX0 hown hK hw 3 m_u_1 rfl (by decide) (hts _ tw_145) (fun _ h9 => h9) dX0_addLine_41 ?_
    refine lv_iconst (v := 1) hx hb dX0_addLine_44 (by decide) ?_
    refine lv_iadd hx hb dX0_addLine_45 (lv_topi (fun v_5 e_v_5 => ?_))
    obtain ⟨t_v_5, r_v_5⟩ := tq_add (lo := 1) (hi := 40) r_vu_1 rl_1 (by decide +kernel) e_v_5
    have t_v_5 : v_5.toInt = vu_1.toInt + 1 := t_v_5
    have q_v_5 : vu_1 + (1 : Int32) = v_5 := e_v_5.symm
    refine tg_put (ci := 0) (ts := ty_BOOK) (v := .int v_5) (ty := .int) (C := RX0) (T := TX0) (N := 5) hx hb hts inX0 tyX0 tyX0_ok nmX0 hown hK hw h_p0 rfl rfl 3 (by decide) (hts _ tw_145) (fun _ h9 => h9) rfl (by decide +kernel) rfl rfl (ft := vI 0 40) rfl ⟨_, rfl, (r_v_5.to (by decide))⟩ (by decide) dX0_addLine_46 (fun ws H locs hw n_k_6 hF9 => ?_)
    have m_u_2 := FLD.over hF9 m_u_2 (by decide)
    have m_u_3 := FLD.over hF9 m_u_3 (by decide)
    have m_u_4 := FLD.over hF9 m_u_4 (by decide)
    obtain ⟨sg_7, q_sg_7⟩ : ∃ q9 : OS, sI s0 3 v_5 = q9 := ⟨_, rfl⟩
    have o_p0 : OV vw_BOOK Ps ws p0 sg_7 := by rw [← q_sg_7]; exact OV.putI (V := vw_BOOK) hF9 n_k_6 o_p0 (by decide)
    have x_BG_p0 : BG Ps ws p0 := B3.inc hF9 x_BQ3_p0_vu_1_p1_p2_p3 n_k_6 (fun n9 f9 g9 h8 h9 => B4_end h9 r_vu_1.1 t_v_5 x_GB_p1_p2_p3)
    simp only [f_X0_addLine__3, ↓reduceIte, q_vu_1, eq_false c_6, q_v_5, q_sg_7] at hE
    subst hQ
    exact W.vret hx hb hr (fun t ht hW => ⟨⟨ws, rfl, ⟨⟨⟨(by rw [hR, ← hE]; exact o_p0), trivial⟩, ⟨⟨_, n_k_6, r_v_5⟩, x_BG_p0, trivial⟩⟩, hw.1, hw.2.2.2.2.1⟩, by rw [ht]; exact hw.2.1, va_K.moved hW.alike hK, hw.2.2.1⟩, hw.2.2.2.1.F ht⟩) hw.2.2.2.1.2.2 dX0_addLine_49
abbrev wr_X0_addLine__4 : List (Nat × Nat) := [(0, 3)]
abbrev wa_X0_addLine__4 : List Nat := [18, 19, 20]
set_option maxHeartbeats 4000000 in
set_option maxRecDepth 100000 in
theorem c_X0_addLine__4 (l : Launch) (D : va_G) (cy : Nat → ClassId) (z : Nat → Nat) (sz : Nat) (Ps : PSI) (w0 : va_W) (hT : HT cy GG Ps w0) (p0 : Nat) (p1 : Int32) (p2 : Int32) (p3 : Int32) (s0 : OS) (h_p0 : (p0, 31) ∈ Ps) (r_p1 : RI p1 (-2147483648) 2147483647) (r_p2 : RI p2 (-2147483648) 2147483647) (r_p3 : RI p3 (-2147483648) 2147483647) (o_p0 : OV vw_BOOK Ps w0 p0 s0) : Met l yX0_addLine (Cond.code yX0_addLine cX0_addLine 4 none :: gT) ({ frames := 0, cells := 0, slots := 0, locals := 200 } : Room) (va_Pc [.ref p0, .int p1, .int p2, .int p3] (PRE D cy z w0 sz)) (va_Qv (fun (u : va_W) => ((OV vw_BOOK Ps u p0 ((f_X0_addLine__3 p1 p2 p3 s0)) ∧ True) ∧ ((∃ v9 : Int32, FLD u p0 0 3 (.int v9) ∧ RI v9 1 40) ∧ True)) ∧ HT cy GG Ps u ∧ FR wr_X0_addLine__4 wa_X0_addLine__4 Ps w0 u) (BB D cy (va_A w0 sz) (fun (u : va_W) => u)) (va_A w0 sz)) 0 0 (va_A w0 sz) := by
  refine Met.ofW (cc := cX0_addLine) (maxL := 4) (ret := none) (by decide) rfl ?_
  intro p e s m args below meth c s₁ B hml hv
  obtain ⟨rfl, hsz, hP, hK, hD0, hSD⟩ := hv
  have hx := B.exec
  have hb := B.bytes
  have hr := B.returns
  have hlocks := B.notSynchronized
  have hts : ∀ w ∈ gT, w.before _ s = true := fun w h => atoms_spec (ws := Cond.code yX0_addLine cX0_addLine 4 none :: gT) B.pre w (List.mem_cons_of_mem _ h)
  have hown : s.vm.findClass RX0 = some m.cls := findClass_of_methodNamed B.named
  subst hsz
  have hD := hD0.self (sz := s.heap.size)
  generalize hAe : va_A w0 s.heap.size = A at hD hSD ⊢
  have hA : ∀ q : Nat, s.heap.size ≤ q → A q := fun q h => by rw [← hAe]; exact Or.inr h
  have hl := lv_entry ([.ref p0, .int p1, .int p2, .int p3]) (n := 4) (Nat.le_of_ble_eq_true rfl)
  rw [lg_entry_eq]
  generalize (lg_sl ([.ref p0, .int p1, .int p2, .int p3]) ++ List.replicate (4 - (lg_sl ([.ref p0, .int p1, .int p2, .int p3])).length) Slot.unset).toArray = ls at hl ⊢
  have hl : lv_has ls 4 [(0, .ref p0), (1, .int p1), (2, .int p2), (3, .int p3)] := hl
  refine nameQ (fun Q hQ => ?_)
  have hw : WD D cy GG A s wr_X0_addLine__4 wa_X0_addLine__4 Ps w0 Ps w0 s.heap [] := ⟨hT, hP, hD, va_S.rf, FR.rf, hT.1, [], (List.append_nil _).symm⟩
  obtain ⟨R9, hR⟩ : ∃ q9 : OS, f_X0_addLine__3 p1 p2 p3 s0 = q9 := ⟨_, rfl⟩
  have hE := hR
  refine lv_aload_n hx hb dX0_addLine_0 rfl (lv_at hl 0 rfl) ?_
  refine tg_get (ci := 0) (ts := ty_BOOK) (C := RX0) (T := TX0) (N := 5) hx hb hts inX0 hown hK hw h_p0 rfl rfl 3 (by decide) (hts _ tw_145) (fun _ h9 => h9) (ft := vI 0 40) rfl dX0_addLine_1 (fun u_1 hv_u_1 m_u_1 => ?_)
  obtain ⟨vu_1, rfl, r_vu_1⟩ := hv_u_1
  have q_vu_1 : s0.1 3 = vu_1 := OV.eqI (V := vw_BOOK) hw.2.2.1 o_p0 m_u_1 (by decide)
  refine lv_bipush (v := 40) hx hb dX0_addLine_4 (by decide) ?_
  refine lv_icmp_ge (tgt := 49) hx hb dX0_addLine_6 (by decide) (fun c_6 => ?_) (fun c_6 => ?_)
  · have r_vu_1 : RI vu_1 40 40 := rc_le2 rl_40 r_vu_1 (ti_le c_6) (by decide)
    simp only [f_X0_addLine__3, ↓reduceIte, q_vu_1, eq_true c_6] at hE
    subst hQ
    exact W.vret hx hb hr (fun t ht hW => ⟨⟨w0, rfl, ⟨⟨⟨(by rw [hR, ← hE]; exact o_p0), trivial⟩, ⟨⟨_, m_u_1, (r_vu_1.to (by decide))⟩, trivial⟩⟩, hw.1, hw.2.2.2.2.1⟩, by rw [ht]; exact hw.2.1, va_K.moved hW.alike hK, hw.2.2.1⟩, hw.2.2.2.1.F ht⟩) hw.2.2.2.1.2.2 dX0_addLine_49
  · have r_vu_1 : RI vu_1 0 39 := rc_lt1 r_vu_1 rl_40 (ti_nle c_6) (by decide)
    refine lv_aload_n hx hb dX0_addLine_9 rfl (lv_at hl 0 rfl) ?_
    refine tg_get (ci := 0) (ts := ty_BOOK) (C := RX0) (T := TX0) (N := 5) hx hb hts inX0 hown hK hw h_p0 rfl rfl 0 (by decide) (hts _ tw_142) (fun _ h9 => h9) (ft := vR 18) rfl dX0_addLine_10 (fun u_2 hv_u_2 m_u_2 => ?_)
    obtain ⟨vu_2, rfl, h_vu_2⟩ := hv_u_2
    refine lv_aload_n hx hb dX0_addLine_13 rfl (lv_at hl 0 rfl) ?_
    refine tg_mem (ci := 0) (C := RX0) (T := TX0) (N := 5) hx hb hts inX0 hown hK hw 3 m_u_1 rfl (by decide) (hts _ tw_145) (fun _ h9 => h9) dX0_addLine_14 ?_
    refine lv_iload_n hx hb dX0_addLine_17 rfl (lv_at hl 1 rfl) ?_
    refine tg_iast hx hb hK hw h_vu_2 rfl 0 39 r_vu_1 (by decide) r_p1 (by exact fun _ _ _ => by decide) (fun _ _ _ _ _ => trivial) (by decide) dX0_addLine_18 (fun ws H locs hw hF9 hU9 => ?_)
    have m_u_1 := FLD.over hF9 m_u_1 (by decide)
    have m_u_2 := FLD.over hF9 m_u_2 (by decide)
    have o_p0 := OV.over (V := vw_BOOK) hF9 o_p0 (by decide)
    refine lv_aload_n hx hb dX0_addLine_19 rfl (lv_at hl 0 rfl) ?_
    refine tg_get (ci := 0) (ts := ty_BOOK) (C := RX0) (T := TX0) (N := 5) hx hb hts inX0 hown hK hw h_p0 rfl rfl 1 (by decide) (hts _ tw_143) (fun _ h9 => h9) (ft := vR 19) rfl dX0_addLine_20 (fun u_3 hv_u_3 m_u_3 => ?_)
    obtain ⟨vu_3, rfl, h_vu_3⟩ := hv_u_3
    refine lv_aload_n hx hb dX0_addLine_23 rfl (lv_at hl 0 rfl) ?_
    refine tg_mem (ci := 0) (C := RX0) (T := TX0) (N := 5) hx hb hts inX0 hown hK hw 3 m_u_1 rfl (by decide) (hts _ tw_145) (fun _ h9 => h9) dX0_addLine_24 ?_
    refine lv_iload_n hx hb dX0_addLine_27 rfl (lv_at hl 2 rfl) ?_
    refine tg_iast hx hb hK hw h_vu_3 rfl 0 39 r_vu_1 (by decide) r_p2 (by exact fun _ _ _ => by decide) (fun _ _ _ _ _ => trivial) (by decide) dX0_addLine_28 (fun ws H locs hw hF9 hU9 => ?_)
    have m_u_1 := FLD.over hF9 m_u_1 (by decide)
    have m_u_2 := FLD.over hF9 m_u_2 (by decide)
    have m_u_3 := FLD.over hF9 m_u_3 (by decide)
    have o_p0 := OV.over (V := vw_BOOK) hF9 o_p0 (by decide)
    refine lv_aload_n hx hb dX0_addLine_29 rfl (lv_at hl 0 rfl) ?_
    refine tg_get (ci := 0) (ts := ty_BOOK) (C := RX0) (T := TX0) (N := 5) hx hb hts inX0 hown hK hw h_p0 rfl rfl 2 (by decide) (hts _ tw_144) (fun _ h9 => h9) (ft := vR 20) rfl dX0_addLine_30 (fun u_4 hv_u_4 m_u_4 => ?_)
    obtain ⟨vu_4, rfl, h_vu_4⟩ := hv_u_4
    refine lv_aload_n hx hb dX0_addLine_33 rfl (lv_at hl 0 rfl) ?_
    refine tg_mem (ci := 0) (C := RX0) (T := TX0) (N := 5) hx hb hts inX0 hown hK hw 3 m_u_1 rfl (by decide) (hts _ tw_145) (fun _ h9 => h9) dX0_addLine_34 ?_
    refine lv_iload_n hx hb dX0_addLine_37 rfl (lv_at hl 3 rfl) ?_
    refine tg_iast hx hb hK hw h_vu_4 rfl 0 39 r_vu_1 (by decide) r_p3 (by exact fun _ _ _ => by decide) (fun _ _ _ _ _ => trivial) (by decide) dX0_addLine_38 (fun ws H locs hw hF9 hU9 => ?_)
    have m_u_1 := FLD.over hF9 m_u_1 (by decide)
    have m_u_2 := FLD.over hF9 m_u_2 (by decide)
    have m_u_3 := FLD.over hF9 m_u_3 (by decide)
    have m_u_4 := FLD.over hF9 m_u_4 (by decide)
    have o_p0 := OV.over (V := vw_BOOK) hF9 o_p0 (by decide)
    refine lv_aload_n hx hb dX0_addLine_39 rfl (lv_at hl 0 rfl) ?_
    refine lv_dup hx hb dX0_addLine_40 rfl ?_
    refine tg_mem (ci := 0) (C := RX0) (T := TX0) (N := 5) hx hb hts inX0 hown hK hw 3 m_u_1 rfl (by decide) (hts _ tw_145) (fun _ h9 => h9) dX0_addLine_41 ?_
    refine lv_iconst (v := 1) hx hb dX0_addLine_44 (by decide) ?_
    refine lv_iadd hx hb dX0_addLine_45 (lv_topi (fun v_5 e_v_5 => ?_))
    obtain ⟨t_v_5, r_v_5⟩ := tq_add (lo := 1) (hi := 40) r_vu_1 rl_1 (by decide +kernel) e_v_5
    have t_v_5 : v_5.toInt = vu_1.toInt + 1 := t_v_5
    have q_v_5 : vu_1 + (1 : Int32) = v_5 := e_v_5.symm
    refine tg_put (ci := 0) (ts := ty_BOOK) (v := .int v_5) (ty := .int) (C := RX0) (T := TX0) (N := 5) hx hb hts inX0 tyX0 tyX0_ok nmX0 hown hK hw h_p0 rfl rfl 3 (by decide) (hts _ tw_145) (fun _ h9 => h9) rfl (by decide +kernel) rfl rfl (ft := vI 0 40) rfl ⟨_, rfl, (r_v_5.to (by decide))⟩ (by decide) dX0_addLine_46 (fun ws H locs hw n_k_6 hF9 => ?_)
    have m_u_2 := FLD.over hF9 m_u_2 (by decide)
    have m_u_3 := FLD.over hF9 m_u_3 (by decide)
    have m_u_4 := FLD.over hF9 m_u_4 (by decide)
    obtain ⟨sg_7, q_sg_7⟩ : ∃ q9 : OS, sI s0 3 v_5 = q9 := ⟨_, rfl⟩
    have o_p0 : OV vw_BOOK Ps ws p0 sg_7 := by rw [← q_sg_7]; exact OV.putI (V := vw_BOOK) hF9 n_k_6 o_p0 (by decide)
    simp only [f_X0_addLine__3, ↓reduceIte, q_vu_1, eq_false c_6, q_v_5, q_sg_7] at hE
    subst hQ
    exact W.vret hx hb hr (fun t ht hW => ⟨⟨ws, rfl, ⟨⟨⟨(by rw [hR, ← hE]; exact o_p0), trivial⟩, ⟨⟨_, n_k_6, r_v_5⟩, trivial⟩⟩, hw.1, hw.2.2.2.2.1⟩, by rw [ht]; exact hw.2.1, va_K.moved hW.alike hK, hw.2.2.1⟩, hw.2.2.2.1.F ht⟩) hw.2.2.2.1.2.2 dX0_addLine_49
abbrev wr_X0_readVerb__1 : List (Nat × Nat) := [(0, 3), (7, 5), (7, 6), (7, 7), (7, 8), (7, 9), (7, 10), (7, 11)]
abbrev wa_X0_readVerb__1 : List Nat := [18, 19, 20]
set_option maxHeartbeats 4000000 in
set_option maxRecDepth 100000 in
theorem c_X0_readVerb__1 (l : Launch) (D : va_G) (cy : Nat → ClassId) (z : Nat → Nat) (sz : Nat) (Ps : PSI) (w0 : va_W) (hT : HT cy GG Ps w0) (p0 : Nat) (p1 : Nat) (p2 : Nat) (p3 : Int32) (s0 : OS) (s1 : OS) (s2 : OS) (h_p0 : (p0, 31) ∈ Ps) (h_p1 : (p1, 26) ∈ Ps) (h_p2 : (p2, 25) ∈ Ps) (r_p3 : RI p3 0 7) (x_BG_p0 : BG Ps w0 p0) (o_p0 : OV vw_BOOK Ps w0 p0 s0) (o_p1 : OV vw_TAPE Ps w0 p1 s1) (o_p2 : OV vw_POST Ps w0 p2 s2) : Met l yX0_readVerb (Cond.code yX0_readVerb cX0_readVerb 5 none :: gT) ({ frames := 4, cells := 0, slots := 0, locals := 800 } : Room) (va_Pc [.ref p0, .ref p1, .ref p2, .int p3] (PRE D cy z w0 sz)) (va_Qv (fun (u : va_W) => ((OV vw_BOOK Ps u p0 ((f_X0_readVerb__1 p3 s0 s1 s2).1) ∧ OV vw_TAPE Ps u p1 ((f_X0_readVerb__1 p3 s0 s1 s2).2.1) ∧ OV vw_POST Ps u p2 ((f_X0_readVerb__1 p3 s0 s1 s2).2.2) ∧ True) ∧ ((∃ v9 : Int32, FLD u p0 0 3 (.int v9) ∧ RI v9 1 40) ∧ JB Ps u p1 p0 ∧ True)) ∧ HT cy GG Ps u ∧ FR wr_X0_readVerb__1 wa_X0_readVerb__1 Ps w0 u) (BB D cy (va_A w0 sz) (fun (u : va_W) => u)) (va_A w0 sz)) 0 0 (va_A w0 sz) := by
  refine Met.ofW (cc := cX0_readVerb) (maxL := 5) (ret := none) (by decide) rfl ?_
  intro p e s m args below meth c s₁ B hml hv
  obtain ⟨rfl, hsz, hP, hK, hD0, hSD⟩ := hv
  have hx := B.exec
  have hb := B.bytes
  have hr := B.returns
  have hlocks := B.notSynchronized
  have hts : ∀ w ∈ gT, w.before _ s = true := fun w h => atoms_spec (ws := Cond.code yX0_readVerb cX0_readVerb 5 none :: gT) B.pre w (List.mem_cons_of_mem _ h)
  have hown : s.vm.findClass RX0 = some m.cls := findClass_of_methodNamed B.named
  subst hsz
  have hD := hD0.self (sz := s.heap.size)
  generalize hAe : va_A w0 s.heap.size = A at hD hSD ⊢
  have hA : ∀ q : Nat, s.heap.size ≤ q → A q := fun q h => by rw [← hAe]; exact Or.inr h
  have hl := lv_entry ([.ref p0, .ref p1, .ref p2, .int p3]) (n := 5) (Nat.le_of_ble_eq_true rfl)
  rw [lg_entry_eq]
  generalize (lg_sl ([.ref p0, .ref p1, .ref p2, .int p3]) ++ List.replicate (5 - (lg_sl ([.ref p0, .ref p1, .ref p2, .int p3])).length) Slot.unset).toArray = ls at hl ⊢
  have hl : lv_has ls 5 [(0, .ref p0), (1, .ref p1), (2, .ref p2), (3, .int p3)] := hl
  refine nameQ (fun Q hQ => ?_)
  have hw : WD D cy GG A s wr_X0_readVerb__1 wa_X0_readVerb__1 Ps w0 Ps w0 s.heap [] := ⟨hT, hP, hD, va_S.rf, FR.rf, hT.1, [], (List.append_nil _).symm⟩
  obtain ⟨R9, hR⟩ : ∃ q9 : OS × OS × OS, f_X0_readVerb__1 p3 s0 s1 s2 = q9 := ⟨_, rfl⟩
  have hE := hR
  refine lv_aload_n hx hb dX0_readVerb_0 rfl (lv_at hl 1 rfl) ?_
  refine tg_getN (ci := 7) (ts := ty_TAPE) (C := RX7) (T := TX7) (N := 12) hx hb hts inX7 hown hK hw h_p1 rfl rfl 7 (by decide) (hSD.nest tn_95) (fun _ h9 => h9) (ft := vI (-2147483648) 2147483647) rfl dX0_readVerb_1 (fun u_1 hv_u_1 m_u_1 => ?_)
  obtain ⟨vu_1, rfl, r_vu_1⟩ := hv_u_1
  have q_vu_1 : s1.1 7 = vu_1 := OV.eqI (V := vw_TAPE) hw.2.2.1 o_p1 m_u_1 (by decide)
  refine lv_istore (lv' := [(4, .int vu_1), (0, .ref p0), (1, .ref p1), (2, .ref p2), (3, .int p3)]) hx hb dX0_readVerb_4 hl (by decide) rfl (fun ls hl => ?_)
  refine lv_iload hx hb dX0_readVerb_6 (lv_at hl 0 rfl) ?_
  refine lv_sipush (v := 137) hx hb dX0_readVerb_8 (by decide) ?_
  refine lv_icmp_lt (tgt := 22) hx hb dX0_readVerb_11 (by decide) (fun c_11 => ?_) (fun c_11 => ?_)
  · have r_vu_1 : RI vu_1 (-2147483648) 136 := rc_lt1 r_vu_1 rl_137 (ti_lt c_11) (by decide)
    refine lv_aload_n hx hb dX0_readVerb_22 rfl (lv_at hl 2 rfl) ?_
    refine lv_iconst (v := 1) hx hb dX0_readVerb_23 (by decide) ?_
    refine tk_v (va_runV (As := [.int 1]) (rest := []) ⟨hx, hb, hml, hown, hts⟩ (c_X7_refuse__4 l D cy z s.heap.size Ps w0 hw.1 p1 1 s1 h_p1 (rl_1.to (by decide)) o_p1) (cwV 1 hts (gV tw_897 tw_443 tw_444 tw_2 tw_445) rfl rfl rfl (by decide +kernel) ⟨Nat.le_of_ble_eq_true rfl, Nat.le_of_ble_eq_true rfl⟩) (tg_preV hw hK hSD hA (ci := 7) (q := (RX7, TX7, 12)) rfl h_p1 rfl) rfl rfl hl.1 rfl (lv_room (Nat.le_of_ble_eq_true rfl)) dX0_readVerb_24 ⟨Nat.le_of_ble_eq_true rfl, Nat.le_of_ble_eq_true rfl⟩) hw hA ⟨by decide, by decide⟩ (fun ws H locs hp_v_2 hw hF9 => ?_)
    have m_u_1 := FLD.over hF9 m_u_1 (by decide)
    have x_BG_p0 := B3.over hF9 x_BG_p0 (by decide)
    obtain ⟨hfn, hp_v_2⟩ := hp_v_2
    have o_p0 := OV.over (V := vw_BOOK) hF9 o_p0 (by decide)
    have o_p2 := OV.over (V := vw_POST) hF9 o_p2 (by decide)
    obtain ⟨sg_3, q_sg_3⟩ : ∃ q9 : OS, (f_X7_refuse__4 (1 : Int32) s1) = q9 := ⟨_, rfl⟩
    have o_p1 : OV vw_TAPE Ps ws p1 sg_3 := by rw [← q_sg_3]; exact hfn.1
    obtain ⟨v_4, m_v_4, r_v_4⟩ := (hp_v_2.1)
    refine lv_aload_n hx hb dX0_readVerb_27 rfl (lv_at hl 2 rfl) ?_
    refine tk_vr (va_runV (As := []) (rest := []) ⟨hx, hb, hml, hown, hts⟩ (c_X7_pass__4 l D cy z H.size Ps ws hw.1 p1 v_4 sg_3 h_p1 r_v_4 m_v_4 o_p1) (cwV 0 hts (gV tw_898 tw_425 tw_426 tw_2 tw_427) rfl rfl rfl (by decide +kernel) ⟨Nat.le_of_ble_eq_true rfl, Nat.le_of_ble_eq_true rfl⟩) (tg_preV hw hK hSD hA (ci := 7) (q := (RX7, TX7, 12)) rfl h_p1 rfl) rfl rfl hl.1 rfl (lv_room (Nat.le_of_ble_eq_true rfl)) dX0_readVerb_28 ⟨Nat.le_of_ble_eq_true rfl, Nat.le_of_ble_eq_true rfl⟩) hw hA (fun  H locs hp_v_5 hw => ?_)
    obtain ⟨hfn, hp_v_5⟩ := hp_v_5
    refine lv_iload hx hb dX0_readVerb_31 (lv_at hl 0 rfl) ?_
    refine lv_sipush (v := 137) hx hb dX0_readVerb_33 (by decide) ?_
    refine lv_icmp_ne (tgt := 55) hx hb dX0_readVerb_36 (by decide) (fun c_36 => ?_) (fun c_36 => ?_)
    · refine lv_iload hx hb dX0_readVerb_55 (lv_at hl 0 rfl) ?_
      refine lv_sipush (v := 138) hx hb dX0_readVerb_57 (by decide) ?_
      refine lv_icmp_ne (tgt := 74) hx hb dX0_readVerb_60 (by decide) (fun c_60 => ?_) (fun c_60 => ?_)
      · refine lv_aload_n hx hb dX0_readVerb_74 rfl (lv_at hl 1 rfl) ?_
        refine lv_iload hx hb dX0_readVerb_75 (lv_at hl 0 rfl) ?_
        refine lv_iload_n hx hb dX0_readVerb_77 rfl (lv_at hl 4 rfl) ?_
        refine lv_aload_n hx hb dX0_readVerb_78 rfl (lv_at hl 2 rfl) ?_
        refine lv_aload_n hx hb dX0_readVerb_79 rfl (lv_at hl 3 rfl) ?_
        refine lv_iconst (v := 0) hx hb dX0_readVerb_80 (by decide) ?_
        refine tk_ir (va_runV (As := [.ref p2, .int 0]) (rest := [.int p3, .int vu_1, .ref p0]) ⟨hx, hb, hml, hown, hts⟩ (c_X7_takeName__16 l D cy z H.size Ps ws hw.1 p1 p2 0 v_4 sg_3 s2 h_p1 h_p2 rl_0 r_v_4 m_v_4 o_p1 o_p2) (cwV 2 hts (gV tw_903 tw_465 tw_466 tw_2 tw_467) rfl rfl rfl (by decide +kernel) ⟨Nat.le_of_ble_eq_true rfl, Nat.le_of_ble_eq_true rfl⟩) (tg_preV hw hK hSD hA (ci := 7) (q := (RX7, TX7, 12)) rfl h_p1 rfl) rfl rfl hl.1 rfl (lv_room (Nat.le_of_ble_eq_true rfl)) dX0_readVerb_81 ⟨Nat.le_of_ble_eq_true rfl, Nat.le_of_ble_eq_true rfl⟩) hw hA (fun v_6  H locs hp_v_6 hw => ?_)
        obtain ⟨hfn, hp_v_6⟩ := hp_v_6
        have q_v_6 : (f_X7_takeName__16 (0 : Int32) sg_3 s2) = v_6 := hfn.1
        have r_v_6 : RI v_6 (-1) (-1) := hp_v_6.1
        by_cases c9_v_6 : v_6.toInt < 0
        · have r_v_6 : RI v_6 (-1) (-1) := by unfold RI at r_v_6 ⊢; omega
          have x_FLT_p1 := (hp_v_6.2.2.2.2.1 (by omega)).1
          obtain ⟨v_7, m_v_7, r_v_7⟩ := id x_FLT_p1
          have x_GB_vu_1_p3_v_6 : gb vu_1 p3 v_6 := by have k1 := r_vu_1; have k2 := r_p3; have k3 := r_v_6; unfold RI at k1 k2 k3; unfold gb; omega
          refine tk_v (va_runV (As := [.int vu_1, .int p3, .int v_6]) (rest := []) ⟨hx, hb, hml, hown, hts⟩ (c_X0_addLine__3 l D cy z H.size Ps ws hw.1 p0 vu_1 p3 v_6 s0 h_p0 (r_vu_1.to (by decide)) (r_p3.to (by decide)) (r_v_6.to (by decide)) x_BG_p0 x_GB_vu_1_p3_v_6 o_p0) (cwV 3 hts (gV tw_904 tw_906 ts_28 tw_7 tw_907) rfl rfl rfl (by decide +kernel) ⟨Nat.le_of_ble_eq_true rfl, Nat.le_of_ble_eq_true rfl⟩) (tg_preV hw hK hSD hA (ci := 0) (q := (RX0, TX0, 5)) rfl h_p0 rfl) rfl rfl hl.1 rfl (lv_room (Nat.le_of_ble_eq_true rfl)) dX0_readVerb_84 ⟨Nat.le_of_ble_eq_true rfl, Nat.le_of_ble_eq_true rfl⟩) hw hA ⟨by decide, by decide⟩ (fun ws H locs hp_v_8 hw hF9 => ?_)
          have m_u_1 := FLD.over hF9 m_u_1 (by decide)
          have m_v_7 := FLD.over hF9 m_v_7 (by decide)
          have x_FLT_p1 := FLTp.over hF9 x_FLT_p1 (by decide)
          obtain ⟨hfn, hp_v_8⟩ := hp_v_8
          have o_p1 := OV.over (V := vw_TAPE) hF9 o_p1 (by decide)
          have o_p2 := OV.over (V := vw_POST) hF9 o_p2 (by decide)
          obtain ⟨sg_9, q_sg_9⟩ : ∃ q9 : OS, (f_X0_addLine__3 vu_1 p3 v_6 s0) = q9 := ⟨_, rfl⟩
          have o_p0 : OV vw_BOOK Ps ws p0 sg_9 := by rw [← q_sg_9]; exact hfn.1
          obtain ⟨v_10, m_v_10, r_v_10⟩ := (hp_v_8.1)
          have x_BG_p0 := (hp_v_8.2.1)
          have x_JB_p1_p0 : JB Ps ws p1 p0 := Or.inr x_BG_p0
          simp only [f_X0_readVerb__1, ↓reduceIte, q_vu_1, eq_true c_11, q_sg_3, eq_false c_36, eq_false c_60, q_v_6, eq_true c9_v_6, q_sg_9] at hE
          subst hQ
          exact W.vret hx hb hr (fun t ht hW => ⟨⟨ws, rfl, ⟨⟨⟨(by rw [hR, ← hE]; exact o_p0), (by rw [hR, ← hE]; exact o_p1), (by rw [hR, ← hE]; exact o_p2), trivial⟩, ⟨⟨_, m_v_10, r_v_10⟩, x_JB_p1_p0, trivial⟩⟩, hw.1, hw.2.2.2.2.1⟩, by rw [ht]; exact hw.2.1, va_K.moved hW.alike hK, hw.2.2.1⟩, hw.2.2.2.1.F ht⟩) hw.2.2.2.1.2.2 dX0_readVerb_87
        · exact absurd c9_v_6 (by unfold RI at r_v_6; omega)
      · have r_vu_1 : RI vu_1 138 136 := rc_eq1 r_vu_1 rl_138 (ti_eq c_60) (by decide)
        exact (r_vu_1.no (by decide)).elim
    · have r_vu_1 : RI vu_1 137 136 := rc_eq1 r_vu_1 rl_137 (ti_eq c_36) (by decide)
      exact (r_vu_1.no (by decide)).elim
  · have r_vu_1 : RI vu_1 137 2147483647 := rc_le2 rl_137 r_vu_1 (ti_nlt c_11) (by decide)
    refine lv_iload hx hb dX0_readVerb_14 (lv_at hl 0 rfl) ?_
    refine lv_sipush (v := 140) hx hb dX0_readVerb_16 (by decide) ?_
    refine lv_icmp_le (tgt := 27) hx hb dX0_readVerb_19 (by decide) (fun c_19 => ?_) (fun c_19 => ?_)
    · have r_vu_1 : RI vu_1 137 140 := rc_le1 r_vu_1 rl_140 (ti_le c_19) (by decide)
      refine lv_aload_n hx hb dX0_readVerb_27 rfl (lv_at hl 2 rfl) ?_
      refine tk_v (va_runV (As := []) (rest := []) ⟨hx, hb, hml, hown, hts⟩ (c_X7_pass__6 l D cy z s.heap.size Ps w0 hw.1 p1 s1 h_p1 o_p1) (cwV 0 hts (gV tw_898 tw_425 tw_426 tw_2 tw_427) rfl rfl rfl (by decide +kernel) ⟨Nat.le_of_ble_eq_true rfl, Nat.le_of_ble_eq_true rfl⟩) (tg_preV hw hK hSD hA (ci := 7) (q := (RX7, TX7, 12)) rfl h_p1 rfl) rfl rfl hl.1 rfl (lv_room (Nat.le_of_ble_eq_true rfl)) dX0_readVerb_28 ⟨Nat.le_of_ble_eq_true rfl, Nat.le_of_ble_eq_true rfl⟩) hw hA ⟨by decide, by decide⟩ (fun ws H locs hp_v_11 hw hF9 => ?_)
      have x_BG_p0 := B3.over hF9 x_BG_p0 (by decide)
      obtain ⟨hfn, hp_v_11⟩ := hp_v_11
      have o_p0 := OV.over (V := vw_BOOK) hF9 o_p0 (by decide)
      have o_p2 := OV.over (V := vw_POST) hF9 o_p2 (by decide)
      obtain ⟨sg_12, q_sg_12⟩ : ∃ q9 : OS, (f_X7_pass__6 s1) = q9 := ⟨_, rfl⟩
      have o_p1 : OV vw_TAPE Ps ws p1 sg_12 := by rw [← q_sg_12]; exact hfn.1
      refine lv_iload hx hb dX0_readVerb_31 (lv_at hl 0 rfl) ?_
      refine lv_sipush (v := 137) hx hb dX0_readVerb_33 (by decide) ?_
      refine lv_icmp_ne (tgt := 55) hx hb dX0_readVerb_36 (by decide) (fun c_36 => ?_) (fun c_36 => ?_)
      · have r_vu_1 : RI vu_1 138 140 := rc_neL r_vu_1 rl_137 (ti_ne c_36) (by decide)
        refine lv_iload hx hb dX0_readVerb_55 (lv_at hl 0 rfl) ?_
        refine lv_sipush (v := 138) hx hb dX0_readVerb_57 (by decide) ?_
        refine lv_icmp_ne (tgt := 74) hx hb dX0_readVerb_60 (by decide) (fun c_60 => ?_) (fun c_60 => ?_)
        · have r_vu_1 : RI vu_1 139 140 := rc_neL r_vu_1 rl_138 (ti_ne c_60) (by decide)
          refine lv_aload_n hx hb dX0_readVerb_74 rfl (lv_at hl 1 rfl) ?_
          refine lv_iload hx hb dX0_readVerb_75 (lv_at hl 0 rfl) ?_
          refine lv_iload_n hx hb dX0_readVerb_77 rfl (lv_at hl 4 rfl) ?_
          refine lv_aload_n hx hb dX0_readVerb_78 rfl (lv_at hl 2 rfl) ?_
          refine lv_aload_n hx hb dX0_readVerb_79 rfl (lv_at hl 3 rfl) ?_
          refine lv_iconst (v := 0) hx hb dX0_readVerb_80 (by decide) ?_
          refine tk_i (va_runV (As := [.ref p2, .int 0]) (rest := [.int p3, .int vu_1, .ref p0]) ⟨hx, hb, hml, hown, hts⟩ (c_X7_takeName__14 l D cy z H.size Ps ws hw.1 p1 p2 0 sg_12 s2 h_p1 h_p2 rl_0 o_p1 o_p2) (cwV 2 hts (gV tw_903 tw_465 tw_466 tw_2 tw_467) rfl rfl rfl (by decide +kernel) ⟨Nat.le_of_ble_eq_true rfl, Nat.le_of_ble_eq_true rfl⟩) (tg_preV hw hK hSD hA (ci := 7) (q := (RX7, TX7, 12)) rfl h_p1 rfl) rfl rfl hl.1 rfl (lv_room (Nat.le_of_ble_eq_true rfl)) dX0_readVerb_81 ⟨Nat.le_of_ble_eq_true rfl, Nat.le_of_ble_eq_true rfl⟩) hw hA ⟨by decide, by decide⟩ (fun v_13 ws H locs hp_v_13 hw hF9 => ?_)
          have x_BG_p0 := B3.over hF9 x_BG_p0 (by decide)
          obtain ⟨hfn, hp_v_13⟩ := hp_v_13
          have o_p0 := OV.over (V := vw_BOOK) hF9 o_p0 (by decide)
          obtain ⟨sg_14, q_sg_14⟩ : ∃ q9 : OS, (f_X7_takeName__12 (0 : Int32) sg_12 s2).1 = q9 := ⟨_, rfl⟩
          have o_p1 : OV vw_TAPE Ps ws p1 sg_14 := by rw [← q_sg_14]; exact hfn.1
          obtain ⟨sg_15, q_sg_15⟩ : ∃ q9 : OS, (f_X7_takeName__12 (0 : Int32) sg_12 s2).2.1 = q9 := ⟨_, rfl⟩
          have o_p2 : OV vw_POST Ps ws p2 sg_15 := by rw [← q_sg_15]; exact hfn.2.1
          have q_v_13 : (f_X7_takeName__12 (0 : Int32) sg_12 s2).2.2 = v_13 := hfn.2.2.1
          have r_v_13 : RI v_13 (-1) 5 := hp_v_13.1
          by_cases c9_v_13 : v_13.toInt < 0
          · have r_v_13 : RI v_13 (-1) (-1) := by unfold RI at r_v_13 ⊢; omega
            have x_FLT_p1 := (hp_v_13.2.2.2.2.1 (by omega)).1
            obtain ⟨v_16, m_v_16, r_v_16⟩ := id x_FLT_p1
            refine tk_v (va_runV (As := [.int vu_1, .int p3, .int v_13]) (rest := []) ⟨hx, hb, hml, hown, hts⟩ (c_X0_addLine__4 l D cy z H.size Ps ws hw.1 p0 vu_1 p3 v_13 s0 h_p0 (r_vu_1.to (by decide)) (r_p3.to (by decide)) (r_v_13.to (by decide)) o_p0) (cwV 3 hts (gV tw_904 tw_906 ts_28 tw_7 tw_907) rfl rfl rfl (by decide +kernel) ⟨Nat.le_of_ble_eq_true rfl, Nat.le_of_ble_eq_true rfl⟩) (tg_preV hw hK hSD hA (ci := 0) (q := (RX0, TX0, 5)) rfl h_p0 rfl) rfl rfl hl.1 rfl (lv_room (Nat.le_of_ble_eq_true rfl)) dX0_readVerb_84 ⟨Nat.le_of_ble_eq_true rfl, Nat.le_of_ble_eq_true rfl⟩) hw hA ⟨by decide, by decide⟩ (fun ws H locs hp_v_17 hw hF9 => ?_)
            have m_v_16 := FLD.over hF9 m_v_16 (by decide)
            have x_FLT_p1 := FLTp.over hF9 x_FLT_p1 (by decide)
            obtain ⟨hfn, hp_v_17⟩ := hp_v_17
            have o_p1 := OV.over (V := vw_TAPE) hF9 o_p1 (by decide)
            have o_p2 := OV.over (V := vw_POST) hF9 o_p2 (by decide)
            obtain ⟨sg_18, q_sg_18⟩ : ∃ q9 : OS, (f_X0_addLine__3 vu_1 p3 v_13 s0) = q9 := ⟨_, rfl⟩
            have o_p0 : OV vw_BOOK Ps ws p0 sg_18 := by rw [← q_sg_18]; exact hfn.1
            obtain ⟨v_19, m_v_19, r_v_19⟩ := (hp_v_17.1)
            have x_JB_p1_p0 : JB Ps ws p1 p0 := Or.inl ⟨_, m_v_16, r_v_16.to (by decide)⟩
            simp only [f_X0_readVerb__1, ↓reduceIte, q_vu_1, eq_false c_11, eq_true c_19, q_sg_12, eq_false c_36, eq_false c_60, q_sg_14, q_sg_15, q_v_13, eq_true c9_v_13, q_sg_18] at hE
            subst hQ
            exact W.vret hx hb hr (fun t ht hW => ⟨⟨ws, rfl, ⟨⟨⟨(by rw [hR, ← hE]; exact o_p0), (by rw [hR, ← hE]; exact o_p1), (by rw [hR, ← hE]; exact o_p2), trivial⟩, ⟨⟨_, m_v_19, r_v_19⟩, x_JB_p1_p0, trivial⟩⟩, hw.1, hw.2.2.2.2.1⟩, by rw [ht]; exact hw.2.1, va_K.moved hW.alike hK, hw.2.2.1⟩, hw.2.2.2.1.F ht⟩) hw.2.2.2.1.2.2 dX0_readVerb_87
          · have r_v_13 : RI v_13 0 5 := by unfold RI at r_v_13 ⊢; omega
            have x_GB_vu_1_p3_v_13 : gb vu_1 p3 v_13 := by have k1 := r_vu_1; have k2 := r_p3; have k3 := r_v_13; unfold RI at k1 k2 k3; unfold gb; omega
            refine tk_v (va_runV (As := [.int vu_1, .int p3, .int v_13]) (rest := []) ⟨hx, hb, hml, hown, hts⟩ (c_X0_addLine__3 l D cy z H.size Ps ws hw.1 p0 vu_1 p3 v_13 s0 h_p0 (r_vu_1.to (by decide)) (r_p3.to (by decide)) (r_v_13.to (by decide)) x_BG_p0 x_GB_vu_1_p3_v_13 o_p0) (cwV 3 hts (gV tw_904 tw_906 ts_28 tw_7 tw_907) rfl rfl rfl (by decide +kernel) ⟨Nat.le_of_ble_eq_true rfl, Nat.le_of_ble_eq_true rfl⟩) (tg_preV hw hK hSD hA (ci := 0) (q := (RX0, TX0, 5)) rfl h_p0 rfl) rfl rfl hl.1 rfl (lv_room (Nat.le_of_ble_eq_true rfl)) dX0_readVerb_84 ⟨Nat.le_of_ble_eq_true rfl, Nat.le_of_ble_eq_true rfl⟩) hw hA ⟨by decide, by decide⟩ (fun ws H locs hp_v_20 hw hF9 => ?_)
            obtain ⟨hfn, hp_v_20⟩ := hp_v_20
            have o_p1 := OV.over (V := vw_TAPE) hF9 o_p1 (by decide)
            have o_p2 := OV.over (V := vw_POST) hF9 o_p2 (by decide)
            obtain ⟨sg_21, q_sg_21⟩ : ∃ q9 : OS, (f_X0_addLine__3 vu_1 p3 v_13 s0) = q9 := ⟨_, rfl⟩
            have o_p0 : OV vw_BOOK Ps ws p0 sg_21 := by rw [← q_sg_21]; exact hfn.1
            obtain ⟨v_22, m_v_22, r_v_22⟩ := (hp_v_20.1)
            have x_BG_p0 := (hp_v_20.2.1)
            have x_JB_p1_p0 : JB Ps ws p1 p0 := Or.inr x_BG_p0
            simp only [f_X0_readVerb__1, ↓reduceIte, q_vu_1, eq_false c_11, eq_true c_19, q_sg_12, eq_false c_36, eq_false c_60, q_sg_14, q_sg_15, q_v_13, eq_false c9_v_13, q_sg_21] at hE
            subst hQ
            exact W.vret hx hb hr (fun t ht hW => ⟨⟨ws, rfl, ⟨⟨⟨(by rw [hR, ← hE]; exact o_p0), (by rw [hR, ← hE]; exact o_p1), (by rw [hR, ← hE]; exact o_p2), trivial⟩, ⟨⟨_, m_v_22, r_v_22⟩, x_JB_p1_p0, trivial⟩⟩, hw.1, hw.2.2.2.2.1⟩, by rw [ht]; exact hw.2.1, va_K.moved hW.alike hK, hw.2.2.1⟩, hw.2.2.2.1.F ht⟩) hw.2.2.2.1.2.2 dX0_readVerb_87
        · have r_vu_1 : RI vu_1 138 138 := rc_eq1 r_vu_1 rl_138 (ti_eq c_60) (by decide)
          refine lv_aload_n hx hb dX0_readVerb_63 rfl (lv_at hl 1 rfl) ?_
          refine lv_iload hx hb dX0_readVerb_64 (lv_at hl 0 rfl) ?_
          refine lv_iload_n hx hb dX0_readVerb_66 rfl (lv_at hl 4 rfl) ?_
          refine lv_iconst (v := (-1)) hx hb dX0_readVerb_67 (by decide) ?_
          have x_GB_vu_1_p3___1_ : gb vu_1 p3 (-1) := by have k1 := r_vu_1; have k2 := r_p3; have k3 := rl_m1; unfold RI at k1 k2 k3; unfold gb; omega
          refine tk_v (va_runV (As := [.int vu_1, .int p3, .int (-1)]) (rest := []) ⟨hx, hb, hml, hown, hts⟩ (c_X0_addLine__3 l D cy z H.size Ps ws hw.1 p0 vu_1 p3 (-1) s0 h_p0 (r_vu_1.to (by decide)) (r_p3.to (by decide)) (rl_m1.to (by decide)) x_BG_p0 x_GB_vu_1_p3___1_ o_p0) (cwV 3 hts (gV tw_904 tw_906 ts_28 tw_7 tw_907) rfl rfl rfl (by decide +kernel) ⟨Nat.le_of_ble_eq_true rfl, Nat.le_of_ble_eq_true rfl⟩) (tg_preV hw hK hSD hA (ci := 0) (q := (RX0, TX0, 5)) rfl h_p0 rfl) rfl rfl hl.1 rfl (lv_room (Nat.le_of_ble_eq_true rfl)) dX0_readVerb_68 ⟨Nat.le_of_ble_eq_true rfl, Nat.le_of_ble_eq_true rfl⟩) hw hA ⟨by decide, by decide⟩ (fun ws H locs hp_v_23 hw hF9 => ?_)
          obtain ⟨hfn, hp_v_23⟩ := hp_v_23
          have o_p1 := OV.over (V := vw_TAPE) hF9 o_p1 (by decide)
          have o_p2 := OV.over (V := vw_POST) hF9 o_p2 (by decide)
          obtain ⟨sg_24, q_sg_24⟩ : ∃ q9 : OS, (f_X0_addLine__3 vu_1 p3 ((-1) : Int32) s0) = q9 := ⟨_, rfl⟩
          have o_p0 : OV vw_BOOK Ps ws p0 sg_24 := by rw [← q_sg_24]; exact hfn.1
          obtain ⟨v_25, m_v_25, r_v_25⟩ := (hp_v_23.1)
          have x_BG_p0 := (hp_v_23.2.1)
          refine lv_goto (tgt := 87) hx hb dX0_readVerb_71 (by decide) ?_
          have x_JB_p1_p0 : JB Ps ws p1 p0 := Or.inr x_BG_p0
          simp only [f_X0_readVerb__1, ↓reduceIte, q_vu_1, eq_false c_11, eq_true c_19, q_sg_12, eq_false c_36, eq_true c_60, q_sg_24] at hE
          subst hQ
          exact W.vret hx hb hr (fun t ht hW => ⟨⟨ws, rfl, ⟨⟨⟨(by rw [hR, ← hE]; exact o_p0), (by rw [hR, ← hE]; exact o_p1), (by rw [hR, ← hE]; exact o_p2), trivial⟩, ⟨⟨_, m_v_25, r_v_25⟩, x_JB_p1_p0, trivial⟩⟩, hw.1, hw.2.2.2.2.1⟩, by rw [ht]; exact hw.2.1, va_K.moved hW.alike hK, hw.2.2.1⟩, hw.2.2.2.1.F ht⟩) hw.2.2.2.1.2.2 dX0_readVerb_87
      · have r_vu_1 : RI vu_1 137 137 := rc_eq1 r_vu_1 rl_137 (ti_eq c_36) (by decide)
        refine lv_aload_n hx hb dX0_readVerb_39 rfl (lv_at hl 1 rfl) ?_
        refine lv_iload hx hb dX0_readVerb_40 (lv_at hl 0 rfl) ?_
        refine lv_iload_n hx hb dX0_readVerb_42 rfl (lv_at hl 4 rfl) ?_
        refine lv_aload_n hx hb dX0_readVerb_43 rfl (lv_at hl 2 rfl) ?_
        refine lv_aload_n hx hb dX0_readVerb_44 rfl (lv_at hl 3 rfl) ?_
        refine lv_iconst (v := 2) hx hb dX0_readVerb_45 (by decide) ?_
        refine tk_i (va_runV (As := [.ref p2, .int 2]) (rest := [.int p3, .int vu_1, .ref p0]) ⟨hx, hb, hml, hown, hts⟩ (c_X7_takeName__15 l D cy z H.size Ps ws hw.1 p1 p2 2 sg_12 s2 h_p1 h_p2 rl_2 o_p1 o_p2) (cwV 2 hts (gV tw_903 tw_465 tw_466 tw_2 tw_467) rfl rfl rfl (by decide +kernel) ⟨Nat.le_of_ble_eq_true rfl, Nat.le_of_ble_eq_true rfl⟩) (tg_preV hw hK hSD hA (ci := 7) (q := (RX7, TX7, 12)) rfl h_p1 rfl) rfl rfl hl.1 rfl (lv_room (Nat.le_of_ble_eq_true rfl)) dX0_readVerb_46 ⟨Nat.le_of_ble_eq_true rfl, Nat.le_of_ble_eq_true rfl⟩) hw hA ⟨by decide, by decide⟩ (fun v_26 ws H locs hp_v_26 hw hF9 => ?_)
        have x_BG_p0 := B3.over hF9 x_BG_p0 (by decide)
        obtain ⟨hfn, hp_v_26⟩ := hp_v_26
        have o_p0 := OV.over (V := vw_BOOK) hF9 o_p0 (by decide)
        obtain ⟨sg_27, q_sg_27⟩ : ∃ q9 : OS, (f_X7_takeName__12 (2 : Int32) sg_12 s2).1 = q9 := ⟨_, rfl⟩
        have o_p1 : OV vw_TAPE Ps ws p1 sg_27 := by rw [← q_sg_27]; exact hfn.1
        obtain ⟨sg_28, q_sg_28⟩ : ∃ q9 : OS, (f_X7_takeName__12 (2 : Int32) sg_12 s2).2.1 = q9 := ⟨_, rfl⟩
        have o_p2 : OV vw_POST Ps ws p2 sg_28 := by rw [← q_sg_28]; exact hfn.2.1
        have q_v_26 : (f_X7_takeName__12 (2 : Int32) sg_12 s2).2.2 = v_26 := hfn.2.2.1
        have r_v_26 : RI v_26 (-1) 5 := hp_v_26.1
        by_cases c9_v_26 : v_26.toInt < 0
        · have r_v_26 : RI v_26 (-1) (-1) := by unfold RI at r_v_26 ⊢; omega
          have x_FLT_p1 := (hp_v_26.2.2.2.2.1 (by omega)).1
          obtain ⟨v_29, m_v_29, r_v_29⟩ := id x_FLT_p1
          have x_GB_vu_1_p3_v_26 : gb vu_1 p3 v_26 := by have k1 := r_vu_1; have k2 := r_p3; have k3 := r_v_26; unfold RI at k1 k2 k3; unfold gb; omega
          refine tk_v (va_runV (As := [.int vu_1, .int p3, .int v_26]) (rest := []) ⟨hx, hb, hml, hown, hts⟩ (c_X0_addLine__3 l D cy z H.size Ps ws hw.1 p0 vu_1 p3 v_26 s0 h_p0 (r_vu_1.to (by decide)) (r_p3.to (by decide)) (r_v_26.to (by decide)) x_BG_p0 x_GB_vu_1_p3_v_26 o_p0) (cwV 3 hts (gV tw_904 tw_906 ts_28 tw_7 tw_907) rfl rfl rfl (by decide +kernel) ⟨Nat.le_of_ble_eq_true rfl, Nat.le_of_ble_eq_true rfl⟩) (tg_preV hw hK hSD hA (ci := 0) (q := (RX0, TX0, 5)) rfl h_p0 rfl) rfl rfl hl.1 rfl (lv_room (Nat.le_of_ble_eq_true rfl)) dX0_readVerb_49 ⟨Nat.le_of_ble_eq_true rfl, Nat.le_of_ble_eq_true rfl⟩) hw hA ⟨by decide, by decide⟩ (fun ws H locs hp_v_30 hw hF9 => ?_)
          have m_v_29 := FLD.over hF9 m_v_29 (by decide)
          have x_FLT_p1 := FLTp.over hF9 x_FLT_p1 (by decide)
          obtain ⟨hfn, hp_v_30⟩ := hp_v_30
          have o_p1 := OV.over (V := vw_TAPE) hF9 o_p1 (by decide)
          have o_p2 := OV.over (V := vw_POST) hF9 o_p2 (by decide)
          obtain ⟨sg_31, q_sg_31⟩ : ∃ q9 : OS, (f_X0_addLine__3 vu_1 p3 v_26 s0) = q9 := ⟨_, rfl⟩
          have o_p0 : OV vw_BOOK Ps ws p0 sg_31 := by rw [← q_sg_31]; exact hfn.1
          obtain ⟨v_32, m_v_32, r_v_32⟩ := (hp_v_30.1)
          have x_BG_p0 := (hp_v_30.2.1)
          refine lv_goto (tgt := 87) hx hb dX0_readVerb_52 (by decide) ?_
          have x_JB_p1_p0 : JB Ps ws p1 p0 := Or.inr x_BG_p0
          simp only [f_X0_readVerb__1, ↓reduceIte, q_vu_1, eq_false c_11, eq_true c_19, q_sg_12, eq_true c_36, q_sg_27, q_sg_28, q_v_26, eq_true c9_v_26, q_sg_31] at hE
          subst hQ
          exact W.vret hx hb hr (fun t ht hW => ⟨⟨ws, rfl, ⟨⟨⟨(by rw [hR, ← hE]; exact o_p0), (by rw [hR, ← hE]; exact o_p1), (by rw [hR, ← hE]; exact o_p2), trivial⟩, ⟨⟨_, m_v_32, r_v_32⟩, x_JB_p1_p0, trivial⟩⟩, hw.1, hw.2.2.2.2.1⟩, by rw [ht]; exact hw.2.1, va_K.moved hW.alike hK, hw.2.2.1⟩, hw.2.2.2.1.F ht⟩) hw.2.2.2.1.2.2 dX0_readVerb_87
        · have r_v_26 : RI v_26 0 5 := by unfold RI at r_v_26 ⊢; omega
          have x_GB_vu_1_p3_v_26 : gb vu_1 p3 v_26 := by have k1 := r_vu_1; have k2 := r_p3; have k3 := r_v_26; unfold RI at k1 k2 k3; unfold gb; omega
          refine tk_v (va_runV (As := [.int vu_1, .int p3, .int v_26]) (rest := []) ⟨hx, hb, hml, hown, hts⟩ (c_X0_addLine__3 l D cy z H.size Ps ws hw.1 p0 vu_1 p3 v_26 s0 h_p0 (r_vu_1.to (by decide)) (r_p3.to (by decide)) (r_v_26.to (by decide)) x_BG_p0 x_GB_vu_1_p3_v_26 o_p0) (cwV 3 hts (gV tw_904 tw_906 ts_28 tw_7 tw_907) rfl rfl rfl (by decide +kernel) ⟨Nat.le_of_ble_eq_true rfl, Nat.le_of_ble_eq_true rfl⟩) (tg_preV hw hK hSD hA (ci := 0) (q := (RX0, TX0, 5)) rfl h_p0 rfl) rfl rfl hl.1 rfl (lv_room (Nat.le_of_ble_eq_true rfl)) dX0_readVerb_49 ⟨Nat.le_of_ble_eq_true rfl, Nat.le_of_ble_eq_true rfl⟩) hw hA ⟨by decide, by decide⟩ (fun ws H locs hp_v_33 hw hF9 => ?_)
          obtain ⟨hfn, hp_v_33⟩ := hp_v_33
          have o_p1 := OV.over (V := vw_TAPE) hF9 o_p1 (by decide)
          have o_p2 := OV.over (V := vw_POST) hF9 o_p2 (by decide)
          obtain ⟨sg_34, q_sg_34⟩ : ∃ q9 : OS, (f_X0_addLine__3 vu_1 p3 v_26 s0) = q9 := ⟨_, rfl⟩
          have o_p0 : OV vw_BOOK Ps ws p0 sg_34 := by rw [← q_sg_34]; exact hfn.1
          obtain ⟨v_35, m_v_35, r_v_35⟩ := (hp_v_33.1)
          have x_BG_p0 := (hp_v_33.2.1)
          refine lv_goto (tgt := 87) hx hb dX0_readVerb_52 (by decide) ?_
          have x_JB_p1_p0 : JB Ps ws p1 p0 := Or.inr x_BG_p0
          simp only [f_X0_readVerb__1, ↓reduceIte, q_vu_1, eq_false c_11, eq_true c_19, q_sg_12, eq_true c_36, q_sg_27, q_sg_28, q_v_26, eq_false c9_v_26, q_sg_34] at hE
          subst hQ
          exact W.vret hx hb hr (fun t ht hW => ⟨⟨ws, rfl, ⟨⟨⟨(by rw [hR, ← hE]; exact o_p0), (by rw [hR, ← hE]; exact o_p1), (by rw [hR, ← hE]; exact o_p2), trivial⟩, ⟨⟨_, m_v_35, r_v_35⟩, x_JB_p1_p0, trivial⟩⟩, hw.1, hw.2.2.2.2.1⟩, by rw [ht]; exact hw.2.1, va_K.moved hW.alike hK, hw.2.2.1⟩, hw.2.2.2.1.F ht⟩) hw.2.2.2.1.2.2 dX0_readVerb_87
    · have r_vu_1 : RI vu_1 141 2147483647 := rc_lt2 rl_140 r_vu_1 (ti_nle c_19) (by decide)
      refine lv_aload_n hx hb dX0_readVerb_22 rfl (lv_at hl 2 rfl) ?_
      refine lv_iconst (v := 1) hx hb dX0_readVerb_23 (by decide) ?_
      refine tk_v (va_runV (As := [.int 1]) (rest := []) ⟨hx, hb, hml, hown, hts⟩ (c_X7_refuse__4 l D cy z s.heap.size Ps w0 hw.1 p1 1 s1 h_p1 (rl_1.to (by decide)) o_p1) (cwV 1 hts (gV tw_897 tw_443 tw_444 tw_2 tw_445) rfl rfl rfl (by decide +kernel) ⟨Nat.le_of_ble_eq_true rfl, Nat.le_of_ble_eq_true rfl⟩) (tg_preV hw hK hSD hA (ci := 7) (q := (RX7, TX7, 12)) rfl h_p1 rfl) rfl rfl hl.1 rfl (lv_room (Nat.le_of_ble_eq_true rfl)) dX0_readVerb_24 ⟨Nat.le_of_ble_eq_true rfl, Nat.le_of_ble_eq_true rfl⟩) hw hA ⟨by decide, by decide⟩ (fun ws H locs hp_v_36 hw hF9 => ?_)
      have m_u_1 := FLD.over hF9 m_u_1 (by decide)
      have x_BG_p0 := B3.over hF9 x_BG_p0 (by decide)
      obtain ⟨hfn, hp_v_36⟩ := hp_v_36
      have o_p0 := OV.over (V := vw_BOOK) hF9 o_p0 (by decide)
      have o_p2 := OV.over (V := vw_POST) hF9 o_p2 (by decide)
      obtain ⟨sg_37, q_sg_37⟩ : ∃ q9 : OS, (f_X7_refuse__4 (1 : Int32) s1) = q9 := ⟨_, rfl⟩
      have o_p1 : OV vw_TAPE Ps ws p1 sg_37 := by rw [← q_sg_37]; exact hfn.1
      obtain ⟨v_38, m_v_38, r_v_38⟩ := (hp_v_36.1)
      refine lv_aload_n hx hb dX0_readVerb_27 rfl (lv_at hl 2 rfl) ?_
      refine tk_vr (va_runV (As := []) (rest := []) ⟨hx, hb, hml, hown, hts⟩ (c_X7_pass__4 l D cy z H.size Ps ws hw.1 p1 v_38 sg_37 h_p1 r_v_38 m_v_38 o_p1) (cwV 0 hts (gV tw_898 tw_425 tw_426 tw_2 tw_427) rfl rfl rfl (by decide +kernel) ⟨Nat.le_of_ble_eq_true rfl, Nat.le_of_ble_eq_true rfl⟩) (tg_preV hw hK hSD hA (ci := 7) (q := (RX7, TX7, 12)) rfl h_p1 rfl) rfl rfl hl.1 rfl (lv_room (Nat.le_of_ble_eq_true rfl)) dX0_readVerb_28 ⟨Nat.le_of_ble_eq_true rfl, Nat.le_of_ble_eq_true rfl⟩) hw hA (fun  H locs hp_v_39 hw => ?_)
      obtain ⟨hfn, hp_v_39⟩ := hp_v_39
      refine lv_iload hx hb dX0_readVerb_31 (lv_at hl 0 rfl) ?_
      refine lv_sipush (v := 137) hx hb dX0_readVerb_33 (by decide) ?_
      refine lv_icmp_ne (tgt := 55) hx hb dX0_readVerb_36 (by decide) (fun c_36 => ?_) (fun c_36 => ?_)
      · refine lv_iload hx hb dX0_readVerb_55 (lv_at hl 0 rfl) ?_
        refine lv_sipush (v := 138) hx hb dX0_readVerb_57 (by decide) ?_
        refine lv_icmp_ne (tgt := 74) hx hb dX0_readVerb_60 (by decide) (fun c_60 => ?_) (fun c_60 => ?_)
        · refine lv_aload_n hx hb dX0_readVerb_74 rfl (lv_at hl 1 rfl) ?_
          refine lv_iload hx hb dX0_readVerb_75 (lv_at hl 0 rfl) ?_
          refine lv_iload_n hx hb dX0_readVerb_77 rfl (lv_at hl 4 rfl) ?_
          refine lv_aload_n hx hb dX0_readVerb_78 rfl (lv_at hl 2 rfl) ?_
          refine lv_aload_n hx hb dX0_readVerb_79 rfl (lv_at hl 3 rfl) ?_
          refine lv_iconst (v := 0) hx hb dX0_readVerb_80 (by decide) ?_
          refine tk_ir (va_runV (As := [.ref p2, .int 0]) (rest := [.int p3, .int vu_1, .ref p0]) ⟨hx, hb, hml, hown, hts⟩ (c_X7_takeName__16 l D cy z H.size Ps ws hw.1 p1 p2 0 v_38 sg_37 s2 h_p1 h_p2 rl_0 r_v_38 m_v_38 o_p1 o_p2) (cwV 2 hts (gV tw_903 tw_465 tw_466 tw_2 tw_467) rfl rfl rfl (by decide +kernel) ⟨Nat.le_of_ble_eq_true rfl, Nat.le_of_ble_eq_true rfl⟩) (tg_preV hw hK hSD hA (ci := 7) (q := (RX7, TX7, 12)) rfl h_p1 rfl) rfl rfl hl.1 rfl (lv_room (Nat.le_of_ble_eq_true rfl)) dX0_readVerb_81 ⟨Nat.le_of_ble_eq_true rfl, Nat.le_of_ble_eq_true rfl⟩) hw hA (fun v_40  H locs hp_v_40 hw => ?_)
          obtain ⟨hfn, hp_v_40⟩ := hp_v_40
          have q_v_40 : (f_X7_takeName__16 (0 : Int32) sg_37 s2) = v_40 := hfn.1
          have r_v_40 : RI v_40 (-1) (-1) := hp_v_40.1
          by_cases c9_v_40 : v_40.toInt < 0
          · have r_v_40 : RI v_40 (-1) (-1) := by unfold RI at r_v_40 ⊢; omega
            have x_FLT_p1 := (hp_v_40.2.2.2.2.1 (by omega)).1
            obtain ⟨v_41, m_v_41, r_v_41⟩ := id x_FLT_p1
            refine tk_v (va_runV (As := [.int vu_1, .int p3, .int v_40]) (rest := []) ⟨hx, hb, hml, hown, hts⟩ (c_X0_addLine__4 l D cy z H.size Ps ws hw.1 p0 vu_1 p3 v_40 s0 h_p0 (r_vu_1.to (by decide)) (r_p3.to (by decide)) (r_v_40.to (by decide)) o_p0) (cwV 3 hts (gV tw_904 tw_906 ts_28 tw_7 tw_907) rfl rfl rfl (by decide +kernel) ⟨Nat.le_of_ble_eq_true rfl, Nat.le_of_ble_eq_true rfl⟩) (tg_preV hw hK hSD hA (ci := 0) (q := (RX0, TX0, 5)) rfl h_p0 rfl) rfl rfl hl.1 rfl (lv_room (Nat.le_of_ble_eq_true rfl)) dX0_readVerb_84 ⟨Nat.le_of_ble_eq_true rfl, Nat.le_of_ble_eq_true rfl⟩) hw hA ⟨by decide, by decide⟩ (fun ws H locs hp_v_42 hw hF9 => ?_)
            have m_u_1 := FLD.over hF9 m_u_1 (by decide)
            have m_v_41 := FLD.over hF9 m_v_41 (by decide)
            have x_FLT_p1 := FLTp.over hF9 x_FLT_p1 (by decide)
            obtain ⟨hfn, hp_v_42⟩ := hp_v_42
            have o_p1 := OV.over (V := vw_TAPE) hF9 o_p1 (by decide)
            have o_p2 := OV.over (V := vw_POST) hF9 o_p2 (by decide)
            obtain ⟨sg_43, q_sg_43⟩ : ∃ q9 : OS, (f_X0_addLine__3 vu_1 p3 v_40 s0) = q9 := ⟨_, rfl⟩
            have o_p0 : OV vw_BOOK Ps ws p0 sg_43 := by rw [← q_sg_43]; exact hfn.1
            obtain ⟨v_44, m_v_44, r_v_44⟩ := (hp_v_42.1)
            have x_JB_p1_p0 : JB Ps ws p1 p0 := Or.inl ⟨_, m_v_41, r_v_41.to (by decide)⟩
            simp only [f_X0_readVerb__1, ↓reduceIte, q_vu_1, eq_false c_11, eq_false c_19, q_sg_37, eq_false c_36, eq_false c_60, q_v_40, eq_true c9_v_40, q_sg_43] at hE
            subst hQ
            exact W.vret hx hb hr (fun t ht hW => ⟨⟨ws, rfl, ⟨⟨⟨(by rw [hR, ← hE]; exact o_p0), (by rw [hR, ← hE]; exact o_p1), (by rw [hR, ← hE]; exact o_p2), trivial⟩, ⟨⟨_, m_v_44, r_v_44⟩, x_JB_p1_p0, trivial⟩⟩, hw.1, hw.2.2.2.2.1⟩, by rw [ht]; exact hw.2.1, va_K.moved hW.alike hK, hw.2.2.1⟩, hw.2.2.2.1.F ht⟩) hw.2.2.2.1.2.2 dX0_readVerb_87
          · exact absurd c9_v_40 (by unfold RI at r_v_40; omega)
        · have r_vu_1 : RI vu_1 141 138 := rc_eq1 r_vu_1 rl_138 (ti_eq c_60) (by decide)
          exact (r_vu_1.no (by decide)).elim
      · have r_vu_1 : RI vu_1 141 137 := rc_eq1 r_vu_1 rl_137 (ti_eq c_36) (by decide)
        exact (r_vu_1.no (by decide)).elim
abbrev wr_X0_beginsLine__10 : List (Nat × Nat) := [(7, 10), (7, 11)]
abbrev wa_X0_beginsLine__10 : List Nat := []
set_option maxHeartbeats 4000000 in
set_option maxRecDepth 100000 in
theorem c_X0_beginsLine__10 (l : Launch) (D : va_G) (cy : Nat → ClassId) (z : Nat → Nat) (sz : Nat) (Ps : PSI) (w0 : va_W) (hT : HT cy GG Ps w0) (p0 : Nat) (p1 : Nat) (p2 : Int32) (f1_10 : Int32) (s0 : OS) (s1 : OS) (h_p0 : (p0, 31) ∈ Ps) (h_p1 : (p1, 26) ∈ Ps) (r_p2 : RI p2 3 140) (r_f1_10 : RI f1_10 0 0) (m_f1_10 : FLD w0 p1 7 10 (.int f1_10)) (o_p0 : OV vw_BOOK Ps w0 p0 s0) (o_p1 : OV vw_TAPE Ps w0 p1 s1) : Met l yX0_beginsLine (Cond.code yX0_beginsLine cX0_beginsLine 3 (some .boolean) :: gT) ({ frames := 2, cells := 0, slots := 0, locals := 400 } : Room) (va_Pc [.ref p0, .ref p1, .int p2] (PRE D cy z w0 sz)) (va_Qi (fun (r : Int32) (u : va_W) => ((OV vw_BOOK Ps u p0 ((f_X0_beginsLine__7 p2 s0 s1).1) ∧ OV vw_TAPE Ps u p1 ((f_X0_beginsLine__7 p2 s0 s1).2.1) ∧ (f_X0_beginsLine__7 p2 s0 s1).2.2 = r ∧ True) ∧ (RI r 0 0 ∧ (r = 0 → (∃ v9 : Int32, FLD u p1 7 10 (.int v9) ∧ RI v9 1 4) ∧ True) ∧ (¬ r = 0 → True))) ∧ HT cy GG Ps u ∧ FR wr_X0_beginsLine__10 wa_X0_beginsLine__10 Ps w0 u) (BB D cy (va_A w0 sz) (fun (u : va_W) => u)) (va_A w0 sz)) 0 0 (va_A w0 sz) := by
  refine Met.ofW (cc := cX0_beginsLine) (maxL := 3) (ret := (some .boolean)) (by decide) rfl ?_
  intro p e s m args below meth c s₁ B hml hv
  obtain ⟨rfl, hsz, hP, hK, hD0, hSD⟩ := hv
  have hx := B.exec
  have hb := B.bytes
  have hr := B.returns
  have hlocks := B.notSynchronized
  have hts : ∀ w ∈ gT, w.before _ s = true := fun w h => atoms_spec (ws := Cond.code yX0_beginsLine cX0_beginsLine 3 (some .boolean) :: gT) B.pre w (List.mem_cons_of_mem _ h)
  have hown : s.vm.findClass RX0 = some m.cls := findClass_of_methodNamed B.named
  subst hsz
  have hD := hD0.self (sz := s.heap.size)
  generalize hAe : va_A w0 s.heap.size = A at hD hSD ⊢
  have hA : ∀ q : Nat, s.heap.size ≤ q → A q := fun q h => by rw [← hAe]; exact Or.inr h
  have hl := lv_entry ([.ref p0, .ref p1, .int p2]) (n := 3) (Nat.le_of_ble_eq_true rfl)
  rw [lg_entry_eq]
  generalize (lg_sl ([.ref p0, .ref p1, .int p2]) ++ List.replicate (3 - (lg_sl ([.ref p0, .ref p1, .int p2])).length) Slot.unset).toArray = ls at hl ⊢
  have hl : lv_has ls 3 [(0, .ref p0), (1, .ref p1), (2, .int p2)] := hl
  refine nameQ (fun Q hQ => ?_)
  have hw : WD D cy GG A s wr_X0_beginsLine__10 wa_X0_beginsLine__10 Ps w0 Ps w0 s.heap [] := ⟨hT, hP, hD, va_S.rf, FR.rf, hT.1, [], (List.append_nil _).symm⟩
  obtain ⟨R9, hR⟩ : ∃ q9 : OS × OS × Int32, f_X0_beginsLine__7 p2 s0 s1 = q9 := ⟨_, rfl⟩
  have hE := hR
  refine lv_iload_n hx hb dX0_beginsLine_0 rfl (lv_at hl 2 rfl) ?_
  refine lv_iconst (v := 2) hx hb dX0_beginsLine_1 (by decide) ?_
  refine lv_icmp_eq (tgt := 27) hx hb dX0_beginsLine_2 (by decide) (fun c_2 => ?_) (fun c_2 => ?_)
  · have r_p2 : RI p2 3 2 := rc_eq1 r_p2 rl_2 (ti_eq c_2) (by decide)
    exact (r_p2.no (by decide)).elim
  · refine lv_iload_n hx hb dX0_beginsLine_5 rfl (lv_at hl 2 rfl) ?_
    refine lv_sipush (v := 141) hx hb dX0_beginsLine_6 (by decide) ?_
    refine lv_icmp_lt (tgt := 19) hx hb dX0_beginsLine_9 (by decide) (fun c_9 => ?_) (fun c_9 => ?_)
    · refine lv_aload_n hx hb dX0_beginsLine_19 rfl (lv_at hl 1 rfl) ?_
      refine lv_iconst (v := 1) hx hb dX0_beginsLine_20 (by decide) ?_
      refine tk_v (va_runV (As := [.int 1]) (rest := []) ⟨hx, hb, hml, hown, hts⟩ (c_X7_refuse__5 l D cy z s.heap.size Ps w0 hw.1 p1 1 f1_10 s1 h_p1 (rl_1.to (by decide)) r_f1_10 m_f1_10 o_p1) (cwV 1 hts (gV tw_897 tw_443 tw_444 tw_2 tw_445) rfl rfl rfl (by decide +kernel) ⟨Nat.le_of_ble_eq_true rfl, Nat.le_of_ble_eq_true rfl⟩) (tg_preV hw hK hSD hA (ci := 7) (q := (RX7, TX7, 12)) rfl h_p1 rfl) rfl rfl hl.1 rfl (lv_room (Nat.le_of_ble_eq_true rfl)) dX0_beginsLine_21 ⟨Nat.le_of_ble_eq_true rfl, Nat.le_of_ble_eq_true rfl⟩) hw hA ⟨by decide, by decide⟩ (fun ws H locs hp_v_1 hw hF9 => ?_)
      obtain ⟨hfn, hp_v_1⟩ := hp_v_1
      have o_p0 := OV.over (V := vw_BOOK) hF9 o_p0 (by decide)
      obtain ⟨sg_2, q_sg_2⟩ : ∃ q9 : OS, (f_X7_refuse__5 (1 : Int32) s1) = q9 := ⟨_, rfl⟩
      have o_p1 : OV vw_TAPE Ps ws p1 sg_2 := by rw [← q_sg_2]; exact hfn.1
      obtain ⟨v_3, m_v_3, r_v_3⟩ := (hp_v_1.1)
      refine lv_goto (tgt := 41) hx hb dX0_beginsLine_24 (by decide) ?_
      refine lv_aload_n hx hb dX0_beginsLine_41 rfl (lv_at hl 1 rfl) ?_
      refine tk_vr (va_runV (As := []) (rest := []) ⟨hx, hb, hml, hown, hts⟩ (c_X7_pass__4 l D cy z H.size Ps ws hw.1 p1 v_3 sg_2 h_p1 r_v_3 m_v_3 o_p1) (cwV 0 hts (gV tw_898 tw_425 tw_426 tw_2 tw_427) rfl rfl rfl (by decide +kernel) ⟨Nat.le_of_ble_eq_true rfl, Nat.le_of_ble_eq_true rfl⟩) (tg_preV hw hK hSD hA (ci := 7) (q := (RX7, TX7, 12)) rfl h_p1 rfl) rfl rfl hl.1 rfl (lv_room (Nat.le_of_ble_eq_true rfl)) dX0_beginsLine_42 ⟨Nat.le_of_ble_eq_true rfl, Nat.le_of_ble_eq_true rfl⟩) hw hA (fun  H locs hp_v_4 hw => ?_)
      obtain ⟨hfn, hp_v_4⟩ := hp_v_4
      refine lv_aload_n hx hb dX0_beginsLine_45 rfl (lv_at hl 1 rfl) ?_
      refine tg_memN (ci := 7) (C := RX7) (T := TX7) (N := 12) hx hb hts inX7 hown hK hw 10 m_v_3 rfl (by decide) (hSD.nest tn_102) (fun _ h9 => h9) dX0_beginsLine_46 ?_
      have q_v_3 : sg_2.1 10 = v_3 := OV.eqI (V := vw_TAPE) hw.2.2.1 o_p1 m_v_3 (by decide)
      refine lv_if_ne (tgt := 56) hx hb dX0_beginsLine_49 (by decide) (fun c_49 => ?_) (fun c_49 => ?_)
      · refine lv_iconst (v := 0) hx hb dX0_beginsLine_56 (by decide) ?_
        simp only [f_X0_beginsLine__7, ↓reduceIte, eq_false c_2, eq_true c_9, q_sg_2, q_v_3, eq_false c_49] at hE
        subst hQ
        exact W.zret (v := 0) hx hb hr (rfl) (fun t ht hW => ⟨⟨0, ws, rfl, ⟨⟨⟨(by rw [hR, ← hE]; exact o_p0), (by rw [hR, ← hE]; exact o_p1), (by rw [hR, ← hE]), trivial⟩, rl_0.to (by decide), (fun h0 => ⟨⟨_, m_v_3, r_v_3⟩, trivial⟩), (fun _ => trivial)⟩, hw.1, hw.2.2.2.2.1⟩, by rw [ht]; exact hw.2.1, va_K.moved hW.alike hK, hw.2.2.1⟩, hw.2.2.2.1.F ht⟩) hw.2.2.2.1.2.2 dX0_beginsLine_57
      · have r_v_3 : RI v_3 1 0 := rc_eq1 r_v_3 rl_0 (ti_eq c_49) (by decide)
        exact (r_v_3.no (by decide)).elim
    · have r_p2 : RI p2 141 140 := rc_le2 rl_141 r_p2 (ti_nlt c_9) (by decide)
      exact (r_p2.no (by decide)).elim
abbrev wr_X0_beginsLine__11 : List (Nat × Nat) := [(7, 5), (7, 6), (7, 7), (7, 8), (7, 9), (7, 10), (7, 11)]
abbrev wa_X0_beginsLine__11 : List Nat := []
set_option maxHeartbeats 4000000 in
set_option maxRecDepth 100000 in
theorem c_X0_beginsLine__11 (l : Launch) (D : va_G) (cy : Nat → ClassId) (z : Nat → Nat) (sz : Nat) (Ps : PSI) (w0 : va_W) (hT : HT cy GG Ps w0) (p0 : Nat) (p1 : Nat) (p2 : Int32) (f1_10 : Int32) (s0 : OS) (s1 : OS) (h_p0 : (p0, 31) ∈ Ps) (h_p1 : (p1, 26) ∈ Ps) (r_p2 : RI p2 141 143) (r_f1_10 : RI f1_10 0 0) (m_f1_10 : FLD w0 p1 7 10 (.int f1_10)) (o_p0 : OV vw_BOOK Ps w0 p0 s0) (o_p1 : OV vw_TAPE Ps w0 p1 s1) : Met l yX0_beginsLine (Cond.code yX0_beginsLine cX0_beginsLine 3 (some .boolean) :: gT) ({ frames := 3, cells := 0, slots := 0, locals := 600 } : Room) (va_Pc [.ref p0, .ref p1, .int p2] (PRE D cy z w0 sz)) (va_Qi (fun (r : Int32) (u : va_W) => ((OV vw_BOOK Ps u p0 ((f_X0_beginsLine__11 p2 s0 s1).1) ∧ OV vw_TAPE Ps u p1 ((f_X0_beginsLine__11 p2 s0 s1).2.1) ∧ (f_X0_beginsLine__11 p2 s0 s1).2.2 = r ∧ True) ∧ (RI r 0 1 ∧ (r = 0 → (∃ v9 : Int32, FLD u p0 0 3 (.int v9) ∧ RI v9 40 40) ∧ (∃ v9 : Int32, FLD u p1 7 10 (.int v9) ∧ RI v9 1 4) ∧ True) ∧ (¬ r = 0 → (∃ v9 : Int32, FLD u p1 7 10 (.int v9) ∧ RI v9 0 0) ∧ (∃ v9 : Int32, FLD u p0 0 3 (.int v9) ∧ RI v9 0 39) ∧ True))) ∧ HT cy GG Ps u ∧ FR wr_X0_beginsLine__11 wa_X0_beginsLine__11 Ps w0 u) (BB D cy (va_A w0 sz) (fun (u : va_W) => u)) (va_A w0 sz)) 0 0 (va_A w0 sz) := by
  refine Met.ofW (cc := cX0_beginsLine) (maxL := 3) (ret := (some .boolean)) (by decide) rfl ?_
  intro p e s m args below meth c s₁ B hml hv
  obtain ⟨rfl, hsz, hP, hK, hD0, hSD⟩ := hv
  have hx := B.exec
  have hb := B.bytes
  have hr := B.returns
  have hlocks := B.notSynchronized
  have hts : ∀ w ∈ gT, w.before _ s = true := fun w h => atoms_spec (ws := Cond.code yX0_beginsLine cX0_beginsLine 3 (some .boolean) :: gT) B.pre w (List.mem_cons_of_mem _ h)
  have hown : s.vm.findClass RX0 = some m.cls := findClass_of_methodNamed B.named
  subst hsz
  have hD := hD0.self (sz := s.heap.size)
  generalize hAe : va_A w0 s.heap.size = A at hD hSD ⊢
  have hA : ∀ q : Nat, s.heap.size ≤ q → A q := fun q h => by rw [← hAe]; exact Or.inr h
  have hl := lv_entry ([.ref p0, .ref p1, .int p2]) (n := 3) (Nat.le_of_ble_eq_true rfl)
  rw [lg_entry_eq]
  generalize (lg_sl ([.ref p0, .ref p1, .int p2]) ++ List.replicate (3 - (lg_sl ([.ref p0, .ref p1, .int p2])).length) Slot.unset).toArray = ls at hl ⊢
  have hl : lv_has ls 3 [(0, .ref p0), (1, .ref p1), (2, .int p2)] := hl
  refine nameQ (fun Q hQ => ?_)
  have hw : WD D cy GG A s wr_X0_beginsLine__11 wa_X0_beginsLine__11 Ps w0 Ps w0 s.heap [] := ⟨hT, hP, hD, va_S.rf, FR.rf, hT.1, [], (List.append_nil _).symm⟩
  obtain ⟨R9, hR⟩ : ∃ q9 : OS × OS × Int32, f_X0_beginsLine__11 p2 s0 s1 = q9 := ⟨_, rfl⟩
  have hE := hR
  refine lv_iload_n hx hb dX0_beginsLine_0 rfl (lv_at hl 2 rfl) ?_
  refine lv_iconst (v := 2) hx hb dX0_beginsLine_1 (by decide) ?_
  refine lv_icmp_eq (tgt := 27) hx hb dX0_beginsLine_2 (by decide) (fun c_2 => ?_) (fun c_2 => ?_)
  · have r_p2 : RI p2 141 2 := rc_eq1 r_p2 rl_2 (ti_eq c_2) (by decide)
    exact (r_p2.no (by decide)).elim
  · refine lv_iload_n hx hb dX0_beginsLine_5 rfl (lv_at hl 2 rfl) ?_
    refine lv_sipush (v := 141) hx hb dX0_beginsLine_6 (by decide) ?_
    refine lv_icmp_lt (tgt := 19) hx hb dX0_beginsLine_9 (by decide) (fun c_9 => ?_) (fun c_9 => ?_)
    · have r_p2 : RI p2 141 140 := rc_lt1 r_p2 rl_141 (ti_lt c_9) (by decide)
      exact (r_p2.no (by decide)).elim
    · refine lv_iload_n hx hb dX0_beginsLine_12 rfl (lv_at hl 2 rfl) ?_
      refine lv_sipush (v := 143) hx hb dX0_beginsLine_13 (by decide) ?_
      refine lv_icmp_le (tgt := 27) hx hb dX0_beginsLine_16 (by decide) (fun c_16 => ?_) (fun c_16 => ?_)
      · refine lv_aload_n hx hb dX0_beginsLine_27 rfl (lv_at hl 0 rfl) ?_
        refine tg_get (ci := 0) (ts := ty_BOOK) (C := RX0) (T := TX0) (N := 5) hx hb hts inX0 hown hK hw h_p0 rfl rfl 3 (by decide) (hts _ tw_145) (fun _ h9 => h9) (ft := vI 0 40) rfl dX0_beginsLine_28 (fun u_1 hv_u_1 m_u_1 => ?_)
        obtain ⟨vu_1, rfl, r_vu_1⟩ := hv_u_1
        have q_vu_1 : s0.1 3 = vu_1 := OV.eqI (V := vw_BOOK) hw.2.2.1 o_p0 m_u_1 (by decide)
        refine lv_bipush (v := 40) hx hb dX0_beginsLine_31 (by decide) ?_
        refine lv_icmp_lt (tgt := 41) hx hb dX0_beginsLine_33 (by decide) (fun c_33 => ?_) (fun c_33 => ?_)
        · have r_vu_1 : RI vu_1 0 39 := rc_lt1 r_vu_1 rl_40 (ti_lt c_33) (by decide)
          refine lv_aload_n hx hb dX0_beginsLine_41 rfl (lv_at hl 1 rfl) ?_
          refine tk_v (va_runV (As := []) (rest := []) ⟨hx, hb, hml, hown, hts⟩ (c_X7_pass__5 l D cy z s.heap.size Ps w0 hw.1 p1 f1_10 s1 h_p1 r_f1_10 m_f1_10 o_p1) (cwV 0 hts (gV tw_898 tw_425 tw_426 tw_2 tw_427) rfl rfl rfl (by decide +kernel) ⟨Nat.le_of_ble_eq_true rfl, Nat.le_of_ble_eq_true rfl⟩) (tg_preV hw hK hSD hA (ci := 7) (q := (RX7, TX7, 12)) rfl h_p1 rfl) rfl rfl hl.1 rfl (lv_room (Nat.le_of_ble_eq_true rfl)) dX0_beginsLine_42 ⟨Nat.le_of_ble_eq_true rfl, Nat.le_of_ble_eq_true rfl⟩) hw hA ⟨by decide, by decide⟩ (fun ws H locs hp_v_2 hw hF9 => ?_)
          have m_f1_10 := FLD.over hF9 m_f1_10 (by decide)
          have m_u_1 := FLD.over hF9 m_u_1 (by decide)
          obtain ⟨hfn, hp_v_2⟩ := hp_v_2
          have o_p0 := OV.over (V := vw_BOOK) hF9 o_p0 (by decide)
          obtain ⟨sg_3, q_sg_3⟩ : ∃ q9 : OS, (f_X7_pass__5 s1) = q9 := ⟨_, rfl⟩
          have o_p1 : OV vw_TAPE Ps ws p1 sg_3 := by rw [← q_sg_3]; exact hfn.1
          obtain ⟨v_4, m_v_4, r_v_4⟩ := (hp_v_2.1)
          refine lv_aload_n hx hb dX0_beginsLine_45 rfl (lv_at hl 1 rfl) ?_
          refine tg_memN (ci := 7) (C := RX7) (T := TX7) (N := 12) hx hb hts inX7 hown hK hw 10 m_v_4 rfl (by decide) (hSD.nest tn_102) (fun _ h9 => h9) dX0_beginsLine_46 ?_
          have q_v_4 : sg_3.1 10 = v_4 := OV.eqI (V := vw_TAPE) hw.2.2.1 o_p1 m_v_4 (by decide)
          refine lv_if_ne (tgt := 56) hx hb dX0_beginsLine_49 (by decide) (fun c_49 => ?_) (fun c_49 => ?_)
          · exact absurd (r_v_4.eq.trans rl_0.eq.symm) ((ti_ne c_49))
          · refine lv_iconst (v := 1) hx hb dX0_beginsLine_52 (by decide) ?_
            refine lv_goto (tgt := 57) hx hb dX0_beginsLine_53 (by decide) ?_
            simp only [f_X0_beginsLine__11, ↓reduceIte, eq_false c_2, eq_false c_9, eq_true c_16, q_vu_1, eq_true c_33, q_sg_3, q_v_4, eq_true c_49] at hE
            subst hQ
            exact W.zret (v := 1) hx hb hr (rfl) (fun t ht hW => ⟨⟨1, ws, rfl, ⟨⟨⟨(by rw [hR, ← hE]; exact o_p0), (by rw [hR, ← hE]; exact o_p1), (by rw [hR, ← hE]), trivial⟩, rl_1.to (by decide), (fun h0 => absurd h0 (by decide)), (fun h0 => ⟨⟨_, m_v_4, r_v_4⟩, ⟨_, m_u_1, r_vu_1⟩, trivial⟩)⟩, hw.1, hw.2.2.2.2.1⟩, by rw [ht]; exact hw.2.1, va_K.moved hW.alike hK, hw.2.2.1⟩, hw.2.2.2.1.F ht⟩) hw.2.2.2.1.2.2 dX0_beginsLine_57
        · have r_vu_1 : RI vu_1 40 40 := rc_le2 rl_40 r_vu_1 (ti_nlt c_33) (by decide)
          refine lv_aload_n hx hb dX0_beginsLine_36 rfl (lv_at hl 1 rfl) ?_
          refine lv_iconst (v := 4) hx hb dX0_beginsLine_37 (by decide) ?_
          refine tk_v (va_runV (As := [.int 4]) (rest := []) ⟨hx, hb, hml, hown, hts⟩ (c_X7_refuse__5 l D cy z s.heap.size Ps w0 hw.1 p1 4 f1_10 s1 h_p1 (rl_4.to (by decide)) r_f1_10 m_f1_10 o_p1) (cwV 1 hts (gV tw_897 tw_443 tw_444 tw_2 tw_445) rfl rfl rfl (by decide +kernel) ⟨Nat.le_of_ble_eq_true rfl, Nat.le_of_ble_eq_true rfl⟩) (tg_preV hw hK hSD hA (ci := 7) (q := (RX7, TX7, 12)) rfl h_p1 rfl) rfl rfl hl.1 rfl (lv_room (Nat.le_of_ble_eq_true rfl)) dX0_beginsLine_38 ⟨Nat.le_of_ble_eq_true rfl, Nat.le_of_ble_eq_true rfl⟩) hw hA ⟨by decide, by decide⟩ (fun ws H locs hp_v_5 hw hF9 => ?_)
          have m_u_1 := FLD.over hF9 m_u_1 (by decide)
          obtain ⟨hfn, hp_v_5⟩ := hp_v_5
          have o_p0 := OV.over (V := vw_BOOK) hF9 o_p0 (by decide)
          obtain ⟨sg_6, q_sg_6⟩ : ∃ q9 : OS, (f_X7_refuse__5 (4 : Int32) s1) = q9 := ⟨_, rfl⟩
          have o_p1 : OV vw_TAPE Ps ws p1 sg_6 := by rw [← q_sg_6]; exact hfn.1
          obtain ⟨v_7, m_v_7, r_v_7⟩ := (hp_v_5.1)
          refine lv_aload_n hx hb dX0_beginsLine_41 rfl (lv_at hl 1 rfl) ?_
          refine tk_vr (va_runV (As := []) (rest := []) ⟨hx, hb, hml, hown, hts⟩ (c_X7_pass__4 l D cy z H.size Ps ws hw.1 p1 v_7 sg_6 h_p1 r_v_7 m_v_7 o_p1) (cwV 0 hts (gV tw_898 tw_425 tw_426 tw_2 tw_427) rfl rfl rfl (by decide +kernel) ⟨Nat.le_of_ble_eq_true rfl, Nat.le_of_ble_eq_true rfl⟩) (tg_preV hw hK hSD hA (ci := 7) (q := (RX7, TX7, 12)) rfl h_p1 rfl) rfl rfl hl.1 rfl (lv_room (Nat.le_of_ble_eq_true rfl)) dX0_beginsLine_42 ⟨Nat.le_of_ble_eq_true rfl, Nat.le_of_ble_eq_true rfl⟩) hw hA (fun  H locs hp_v_8 hw => ?_)
          obtain ⟨hfn, hp_v_8⟩ := hp_v_8
          refine lv_aload_n hx hb dX0_beginsLine_45 rfl (lv_at hl 1 rfl) ?_
          refine tg_memN (ci := 7) (C := RX7) (T := TX7) (N := 12) hx hb hts inX7 hown hK hw 10 m_v_7 rfl (by decide) (hSD.nest tn_102) (fun _ h9 => h9) dX0_beginsLine_46 ?_
          have q_v_7 : sg_6.1 10 = v_7 := OV.eqI (V := vw_TAPE) hw.2.2.1 o_p1 m_v_7 (by decide)
          refine lv_if_ne (tgt := 56) hx hb dX0_beginsLine_49 (by decide) (fun c_49 => ?_) (fun c_49 => ?_)
          · refine lv_iconst (v := 0) hx hb dX0_beginsLine_56 (by decide) ?_
            simp only [f_X0_beginsLine__11, ↓reduceIte, eq_false c_2, eq_false c_9, eq_true c_16, q_vu_1, eq_false c_33, q_sg_6, q_v_7, eq_false c_49] at hE
            subst hQ
            exact W.zret (v := 0) hx hb hr (rfl) (fun t ht hW => ⟨⟨0, ws, rfl, ⟨⟨⟨(by rw [hR, ← hE]; exact o_p0), (by rw [hR, ← hE]; exact o_p1), (by rw [hR, ← hE]), trivial⟩, rl_0.to (by decide), (fun h0 => ⟨⟨_, m_u_1, r_vu_1⟩, ⟨_, m_v_7, r_v_7⟩, trivial⟩), (fun h0 => absurd rfl h0)⟩, hw.1, hw.2.2.2.2.1⟩, by rw [ht]; exact hw.2.1, va_K.moved hW.alike hK, hw.2.2.1⟩, hw.2.2.2.1.F ht⟩) hw.2.2.2.1.2.2 dX0_beginsLine_57
          · have r_v_7 : RI v_7 1 0 := rc_eq1 r_v_7 rl_0 (ti_eq c_49) (by decide)
            exact (r_v_7.no (by decide)).elim
      · have r_p2 : RI p2 144 143 := rc_lt2 rl_143 r_p2 (ti_nle c_16) (by decide)
        exact (r_p2.no (by decide)).elim
abbrev wr_X7_nameAhead__20 : List (Nat × Nat) := []
abbrev wa_X7_nameAhead__20 : List Nat := []
set_option maxHeartbeats 4000000 in
set_option maxRecDepth 100000 in
theorem c_X7_nameAhead__20 (l : Launch) (D : va_G) (cy : Nat → ClassId) (z : Nat → Nat) (sz : Nat) (Ps : PSI) (w0 : va_W) (hT : HT cy GG Ps w0) (p0 : Nat) (p1 : Nat) (p2 : Int32) (f0_10 : Int32) (s0 : OS) (s1 : OS) (h_p0 : (p0, 26) ∈ Ps) (h_p1 : (p1, 25) ∈ Ps) (r_p2 : RI p2 1 1) (r_f0_10 : RI f0_10 1 4) (m_f0_10 : FLD w0 p0 7 10 (.int f0_10)) (o_p0 : OV vw_TAPE Ps w0 p0 s0) (o_p1 : OV vw_POST Ps w0 p1 s1) : Met l yX7_nameAhead (Cond.code yX7_nameAhead cX7_nameAhead 4 (some .int) :: gT) ({ frames := 2, cells := 0, slots := 0, locals := 400 } : Room) (va_Pc [.ref p0, .ref p1, .int p2] (PRE D cy z w0 sz)) (va_Qi (fun (r : Int32) (u : Unit) => ((f_X7_nameAhead__18 p2 s0 s1) = r ∧ True) ∧ (RI r (-1) (-1) ∧ (r = 0 → True) ∧ (¬ r = 0 → True) ∧ (True) ∧ (r.toInt < 0 → FLTp w0 p0 ∧ True) ∧ (0 ≤ r.toInt → True))) (BB D cy (va_A w0 sz) (fun (u : Unit) => w0)) (va_A w0 sz)) 0 0 (va_A w0 sz) := by
  refine Met.ofW (cc := cX7_nameAhead) (maxL := 4) (ret := (some .int)) (by decide) rfl ?_
  intro p e s m args below meth c s₁ B hml hv
  obtain ⟨rfl, hsz, hP, hK, hD0, hSD⟩ := hv
  have hx := B.exec
  have hb := B.bytes
  have hr := B.returns
  have hlocks := B.notSynchronized
  have hts : ∀ w ∈ gT, w.before _ s = true := fun w h => atoms_spec (ws := Cond.code yX7_nameAhead cX7_nameAhead 4 (some .int) :: gT) B.pre w (List.mem_cons_of_mem _ h)
  have hown : s.vm.findClass RX7 = some m.cls := findClass_of_methodNamed B.named
  subst hsz
  have hD := hD0.self (sz := s.heap.size)
  generalize hAe : va_A w0 s.heap.size = A at hD hSD ⊢
  have hA : ∀ q : Nat, s.heap.size ≤ q → A q := fun q h => by rw [← hAe]; exact Or.inr h
  have hl := lv_entry ([.ref p0, .ref p1, .int p2]) (n := 4) (Nat.le_of_ble_eq_true rfl)
  rw [lg_entry_eq]
  generalize (lg_sl ([.ref p0, .ref p1, .int p2]) ++ List.replicate (4 - (lg_sl ([.ref p0, .ref p1, .int p2])).length) Slot.unset).toArray = ls at hl ⊢
  have hl : lv_has ls 4 [(0, .ref p0), (1, .ref p1), (2, .int p2)] := hl
  refine nameQ (fun Q hQ => ?_)
  have hw : WD D cy GG A s wr_X7_nameAhead__20 wa_X7_nameAhead__20 Ps w0 Ps w0 s.heap [] := ⟨hT, hP, hD, va_S.rf, FR.rf, hT.1, [], (List.append_nil _).symm⟩
  obtain ⟨R9, hR⟩ : ∃ q9 : Int32, f_X7_nameAhead__18 p2 s0 s1 = q9 := ⟨_, rfl⟩
  have hE := hR
  refine lv_aload_n hx hb dX7_nameAhead_0 rfl (lv_at hl 0 rfl) ?_
  refine tg_get (ci := 7) (ts := ty_TAPE) (C := RX7) (T := TX7) (N := 12) hx hb hts inX7 hown hK hw h_p0 rfl rfl 7 (by decide) (hts _ tw_98) (fun _ h9 => h9) (ft := vI (-2147483648) 2147483647) rfl dX7_nameAhead_1 (fun u_1 hv_u_1 m_u_1 => ?_)
  obtain ⟨vu_1, rfl, r_vu_1⟩ := hv_u_1
  have q_vu_1 : s0.1 7 = vu_1 := OV.eqI (V := vw_TAPE) hw.2.2.1 o_p0 m_u_1 (by decide)
  refine lv_iconst (v := 2) hx hb dX7_nameAhead_4 (by decide) ?_
  refine lv_icmp_eq (tgt := 15) hx hb dX7_nameAhead_5 (by decide) (fun c_5 => ?_) (fun c_5 => ?_)
  · have r_vu_1 : RI vu_1 2 2 := rc_eq1 r_vu_1 rl_2 (ti_eq c_5) (by decide)
    refine lv_aload_n hx hb dX7_nameAhead_15 rfl (lv_at hl 1 rfl) ?_
    refine lv_aload_n hx hb dX7_nameAhead_16 rfl (lv_at hl 0 rfl) ?_
    refine tg_get (ci := 7) (ts := ty_TAPE) (C := RX7) (T := TX7) (N := 12) hx hb hts inX7 hown hK hw h_p0 rfl rfl 8 (by decide) (hts _ tw_100) (fun _ h9 => h9) (ft := vJ (-9223372036854775808) 9223372036854775807) rfl dX7_nameAhead_17 (fun u_2 hv_u_2 m_u_2 => ?_)
    obtain ⟨vu_2, rfl, r_vu_2⟩ := hv_u_2
    have q_vu_2 : s0.2.1 8 = vu_2 := OV.eqL (V := vw_TAPE) hw.2.2.1 o_p0 m_u_2 (by decide)
    refine lv_iload_n hx hb dX7_nameAhead_20 rfl (lv_at hl 2 rfl) ?_
    refine tk_ir (va_runV (As := [.long vu_2, .int p2]) (rest := []) ⟨hx, hb, hml, hown, hts⟩ (c_X3_numberOf__6 l D cy z s.heap.size Ps w0 hw.1 p1 vu_2 p2 s1 h_p1 r_vu_2 r_p2 o_p1) (cwV 2 hts (gV tw_460 tw_461 tw_462 tw_11 tw_463) rfl rfl rfl (by decide +kernel) ⟨Nat.le_of_ble_eq_true rfl, Nat.le_of_ble_eq_true rfl⟩) (tg_preV hw hK hSD hA (ci := 3) (q := (RX3, TX3, 9)) rfl h_p1 rfl) rfl rfl hl.1 rfl (lv_room (Nat.le_of_ble_eq_true rfl)) dX7_nameAhead_21 ⟨Nat.le_of_ble_eq_true rfl, Nat.le_of_ble_eq_true rfl⟩) hw hA (fun v_3  H locs hp_v_3 hw => ?_)
    obtain ⟨hfn, hp_v_3⟩ := hp_v_3
    have q_v_3 : (f_X3_numberOf__5 vu_2 p2 s1) = v_3 := hfn.1
    have r_v_3 : RI v_3 (-1) 3 := hp_v_3.1
    refine lv_istore_n (lv' := [(3, .int v_3), (0, .ref p0), (1, .ref p1), (2, .int p2)]) hx hb dX7_nameAhead_24 rfl hl (by decide) rfl (fun ls hl => ?_)
    refine lv_iload_n hx hb dX7_nameAhead_25 rfl (lv_at hl 0 rfl) ?_
    refine lv_iconst (v := (-1)) hx hb dX7_nameAhead_26 (by decide) ?_
    refine lv_icmp_ne (tgt := 35) hx hb dX7_nameAhead_27 (by decide) (fun c_27 => ?_) (fun c_27 => ?_)
    · have r_v_3 : RI v_3 0 3 := rc_neL r_v_3 rl_m1 (ti_ne c_27) (by decide)
      refine lv_aload_n hx hb dX7_nameAhead_35 rfl (lv_at hl 1 rfl) ?_
      refine tg_mem (ci := 7) (C := RX7) (T := TX7) (N := 12) hx hb hts inX7 hown hK hw 10 m_f0_10 rfl (by decide) (hts _ tw_104) (fun _ h9 => h9) dX7_nameAhead_36 ?_
      have q_f0_10 : s0.1 10 = f0_10 := OV.eqI (V := vw_TAPE) hw.2.2.1 o_p0 m_f0_10 (by decide)
      refine lv_if_ne (tgt := 46) hx hb dX7_nameAhead_39 (by decide) (fun c_39 => ?_) (fun c_39 => ?_)
      · refine lv_iconst (v := (-1)) hx hb dX7_nameAhead_46 (by decide) ?_
        simp only [f_X7_nameAhead__18, ↓reduceIte, q_vu_1, eq_true c_5, q_vu_2, q_v_3, eq_false c_27, q_f0_10, eq_false c_39] at hE
        subst hQ
        have x_FLT_p0 : FLTp w0 p0 := ⟨_, m_f0_10, r_f0_10.to (by decide)⟩
        exact W.iret (v := (-1)) hx hb hr (fun t ht hW => ⟨⟨(-1), (), rfl, ⟨⟨(by rw [hR, ← hE]), trivial⟩, rl_m1.to (by decide), (fun _ => trivial), (fun h0 => trivial), trivial, (fun h0 => ⟨x_FLT_p0, trivial⟩), (fun _ => trivial)⟩, by rw [ht]; exact hw.2.1, va_K.moved hW.alike hK, hw.2.2.1⟩, hw.2.2.2.1.F ht⟩) hw.2.2.2.1.2.2 dX7_nameAhead_47
      · have r_f0_10 : RI f0_10 1 0 := rc_eq1 r_f0_10 rl_0 (ti_eq c_39) (by decide)
        exact (r_f0_10.no (by decide)).elim
    · have r_v_3 : RI v_3 (-1) (-1) := rc_eq1 r_v_3 rl_m1 (ti_eq c_27) (by decide)
      refine lv_aload_n hx hb dX7_nameAhead_30 rfl (lv_at hl 1 rfl) ?_
      refine lv_iconst (v := 3) hx hb dX7_nameAhead_31 (by decide) ?_
      refine tk_vr (va_runV (As := [.int 3]) (rest := []) ⟨hx, hb, hml, hown, hts⟩ (c_X7_refuse__6 l D cy z H.size Ps w0 hw.1 p0 3 f0_10 s0 h_p0 (rl_3.to (by decide)) r_f0_10 m_f0_10 o_p0) (cwV 1 hts (gV tw_442 tw_443 tw_444 tw_2 tw_445) rfl rfl rfl (by decide +kernel) ⟨Nat.le_of_ble_eq_true rfl, Nat.le_of_ble_eq_true rfl⟩) (tg_preV hw hK hSD hA (ci := 7) (q := (RX7, TX7, 12)) rfl h_p0 rfl) rfl rfl hl.1 rfl (lv_room (Nat.le_of_ble_eq_true rfl)) dX7_nameAhead_32 ⟨Nat.le_of_ble_eq_true rfl, Nat.le_of_ble_eq_true rfl⟩) hw hA (fun  H locs hp_v_4 hw => ?_)
      obtain ⟨hfn, hp_v_4⟩ := hp_v_4
      refine lv_aload_n hx hb dX7_nameAhead_35 rfl (lv_at hl 1 rfl) ?_
      refine tg_mem (ci := 7) (C := RX7) (T := TX7) (N := 12) hx hb hts inX7 hown hK hw 10 m_f0_10 rfl (by decide) (hts _ tw_104) (fun _ h9 => h9) dX7_nameAhead_36 ?_
      have q_f0_10 : s0.1 10 = f0_10 := OV.eqI (V := vw_TAPE) hw.2.2.1 o_p0 m_f0_10 (by decide)
      refine lv_if_ne (tgt := 46) hx hb dX7_nameAhead_39 (by decide) (fun c_39 => ?_) (fun c_39 => ?_)
      · refine lv_iconst (v := (-1)) hx hb dX7_nameAhead_46 (by decide) ?_
        simp only [f_X7_nameAhead__18, ↓reduceIte, q_vu_1, eq_true c_5, q_vu_2, q_v_3, eq_true c_27, q_f0_10, eq_false c_39] at hE
        subst hQ
        have x_FLT_p0 : FLTp w0 p0 := ⟨_, m_f0_10, r_f0_10.to (by decide)⟩
        exact W.iret (v := (-1)) hx hb hr (fun t ht hW => ⟨⟨(-1), (), rfl, ⟨⟨(by rw [hR, ← hE]), trivial⟩, rl_m1.to (by decide), (fun _ => trivial), (fun h0 => trivial), trivial, (fun h0 => ⟨x_FLT_p0, trivial⟩), (fun _ => trivial)⟩, by rw [ht]; exact hw.2.1, va_K.moved hW.alike hK, hw.2.2.1⟩, hw.2.2.2.1.F ht⟩) hw.2.2.2.1.2.2 dX7_nameAhead_47
      · have r_f0_10 : RI f0_10 1 0 := rc_eq1 r_f0_10 rl_0 (ti_eq c_39) (by decide)
        exact (r_f0_10.no (by decide)).elim
  · refine lv_aload_n hx hb dX7_nameAhead_8 rfl (lv_at hl 0 rfl) ?_
    refine lv_iconst (v := 1) hx hb dX7_nameAhead_9 (by decide) ?_
    refine tk_vr (va_runV (As := [.int 1]) (rest := []) ⟨hx, hb, hml, hown, hts⟩ (c_X7_refuse__6 l D cy z s.heap.size Ps w0 hw.1 p0 1 f0_10 s0 h_p0 (rl_1.to (by decide)) r_f0_10 m_f0_10 o_p0) (cwV 1 hts (gV tw_442 tw_443 tw_444 tw_2 tw_445) rfl rfl rfl (by decide +kernel) ⟨Nat.le_of_ble_eq_true rfl, Nat.le_of_ble_eq_true rfl⟩) (tg_preV hw hK hSD hA (ci := 7) (q := (RX7, TX7, 12)) rfl h_p0 rfl) rfl rfl hl.1 rfl (lv_room (Nat.le_of_ble_eq_true rfl)) dX7_nameAhead_10 ⟨Nat.le_of_ble_eq_true rfl, Nat.le_of_ble_eq_true rfl⟩) hw hA (fun  H locs hp_v_5 hw => ?_)
    obtain ⟨hfn, hp_v_5⟩ := hp_v_5
    refine lv_iconst (v := (-1)) hx hb dX7_nameAhead_13 (by decide) ?_
    simp only [f_X7_nameAhead__18, ↓reduceIte, q_vu_1, eq_false c_5] at hE
    subst hQ
    have x_FLT_p0 : FLTp w0 p0 := ⟨_, m_f0_10, r_f0_10.to (by decide)⟩
    exact W.iret (v := (-1)) hx hb hr (fun t ht hW => ⟨⟨(-1), (), rfl, ⟨⟨(by rw [hR, ← hE]), trivial⟩, rl_m1.to (by decide), (fun _ => trivial), (fun h0 => trivial), trivial, (fun h0 => ⟨x_FLT_p0, trivial⟩), (fun _ => trivial)⟩, by rw [ht]; exact hw.2.1, va_K.moved hW.alike hK, hw.2.2.1⟩, hw.2.2.2.1.F ht⟩) hw.2.2.2.1.2.2 dX7_nameAhead_14
abbrev wr_X7_takeName__17 : List (Nat × Nat) := []
abbrev wa_X7_takeName__17 : List Nat := []
set_option maxHeartbeats 4000000 in
set_option maxRecDepth 100000 in
theorem c_X7_takeName__17 (l : Launch) (D : va_G) (cy : Nat → ClassId) (z : Nat → Nat) (sz : Nat) (Ps : PSI) (w0 : va_W) (hT : HT cy GG Ps w0) (p0 : Nat) (p1 : Nat) (p2 : Int32) (f0_10 : Int32) (s0 : OS) (s1 : OS) (h_p0 : (p0, 26) ∈ Ps) (h_p1 : (p1, 25) ∈ Ps) (r_p2 : RI p2 1 1) (r_f0_10 : RI f0_10 1 4) (m_f0_10 : FLD w0 p0 7 10 (.int f0_10)) (o_p0 : OV vw_TAPE Ps w0 p0 s0) (o_p1 : OV vw_POST Ps w0 p1 s1) : Met l yX7_takeName (Cond.code yX7_takeName cX7_takeName 4 (some .int) :: gT) ({ frames := 3, cells := 0, slots := 0, locals := 600 } : Room) (va_Pc [.ref p0, .ref p1, .int p2] (PRE D cy z w0 sz)) (va_Qi (fun (r : Int32) (u : Unit) => ((f_X7_takeName__16 p2 s0 s1) = r ∧ True) ∧ (RI r (-1) (-1) ∧ (r = 0 → True) ∧ (¬ r = 0 → True) ∧ (True) ∧ (r.toInt < 0 → FLTp w0 p0 ∧ True) ∧ (0 ≤ r.toInt → True))) (BB D cy (va_A w0 sz) (fun (u : Unit) => w0)) (va_A w0 sz)) 0 0 (va_A w0 sz) := by
  refine Met.ofW (cc := cX7_takeName) (maxL := 4) (ret := (some .int)) (by decide) rfl ?_
  intro p e s m args below meth c s₁ B hml hv
  obtain ⟨rfl, hsz, hP, hK, hD0, hSD⟩ := hv
  have hx := B.exec
  have hb := B.bytes
  have hr := B.returns
  have hlocks := B.notSynchronized
  have hts : ∀ w ∈ gT, w.before _ s = true := fun w h => atoms_spec (ws := Cond.code yX7_takeName cX7_takeName 4 (some .int) :: gT) B.pre w (List.mem_cons_of_mem _ h)
  have hown : s.vm.findClass RX7 = some m.cls := findClass_of_methodNamed B.named
  subst hsz
  have hD := hD0.self (sz := s.heap.size)
  generalize hAe : va_A w0 s.heap.size = A at hD hSD ⊢
  have hA : ∀ q : Nat, s.heap.size ≤ q → A q := fun q h => by rw [← hAe]; exact Or.inr h
  have hl := lv_entry ([.ref p0, .ref p1, .int p2]) (n := 4) (Nat.le_of_ble_eq_true rfl)
  rw [lg_entry_eq]
  generalize (lg_sl ([.ref p0, .ref p1, .int p2]) ++ List.replicate (4 - (lg_sl ([.ref p0, .ref p1, .int p2])).length) Slot.unset).toArray = ls at hl ⊢
  have hl : lv_has ls 4 [(0, .ref p0), (1, .ref p1), (2, .int p2)] := hl
  refine nameQ (fun Q hQ => ?_)
  have hw : WD D cy GG A s wr_X7_takeName__17 wa_X7_takeName__17 Ps w0 Ps w0 s.heap [] := ⟨hT, hP, hD, va_S.rf, FR.rf, hT.1, [], (List.append_nil _).symm⟩
  obtain ⟨R9, hR⟩ : ∃ q9 : Int32, f_X7_takeName__16 p2 s0 s1 = q9 := ⟨_, rfl⟩
  have hE := hR
  refine lv_aload_n hx hb dX7_takeName_0 rfl (lv_at hl 0 rfl) ?_
  refine lv_aload_n hx hb dX7_takeName_1 rfl (lv_at hl 1 rfl) ?_
  refine lv_iload_n hx hb dX7_takeName_2 rfl (lv_at hl 2 rfl) ?_
  refine tk_ir (va_runV (As := [.ref p1, .int p2]) (rest := []) ⟨hx, hb, hml, hown, hts⟩ (c_X7_nameAhead__20 l D cy z s.heap.size Ps w0 hw.1 p0 p1 p2 f0_10 s0 s1 h_p0 h_p1 r_p2 r_f0_10 m_f0_10 o_p0 o_p1) (cwV 2 hts (gV tw_468 tw_457 tw_458 tw_2 tw_459) rfl rfl rfl (by decide +kernel) ⟨Nat.le_of_ble_eq_true rfl, Nat.le_of_ble_eq_true rfl⟩) (tg_preV hw hK hSD hA (ci := 7) (q := (RX7, TX7, 12)) rfl h_p0 rfl) rfl rfl hl.1 rfl (lv_room (Nat.le_of_ble_eq_true rfl)) dX7_takeName_3 ⟨Nat.le_of_ble_eq_true rfl, Nat.le_of_ble_eq_true rfl⟩) hw hA (fun v_1  H locs hp_v_1 hw => ?_)
  obtain ⟨hfn, hp_v_1⟩ := hp_v_1
  have q_v_1 : (f_X7_nameAhead__18 p2 s0 s1) = v_1 := hfn.1
  have r_v_1 : RI v_1 (-1) (-1) := hp_v_1.1
  by_cases c9_v_1 : v_1.toInt < 0
  · have r_v_1 : RI v_1 (-1) (-1) := by unfold RI at r_v_1 ⊢; omega
    have x_FLT_p0 := (hp_v_1.2.2.2.2.1 (by omega)).1
    obtain ⟨v_2, m_v_2, r_v_2⟩ := id x_FLT_p0
    refine lv_istore_n (lv' := [(3, .int v_1), (0, .ref p0), (1, .ref p1), (2, .int p2)]) hx hb dX7_takeName_6 rfl hl (by decide) rfl (fun ls hl => ?_)
    refine lv_aload_n hx hb dX7_takeName_7 rfl (lv_at hl 1 rfl) ?_
    refine tk_vr (va_runV (As := []) (rest := []) ⟨hx, hb, hml, hown, hts⟩ (c_X7_pass__4 l D cy z H.size Ps w0 hw.1 p0 v_2 s0 h_p0 r_v_2 m_v_2 o_p0) (cwV 0 hts (gV tw_424 tw_425 tw_426 tw_2 tw_427) rfl rfl rfl (by decide +kernel) ⟨Nat.le_of_ble_eq_true rfl, Nat.le_of_ble_eq_true rfl⟩) (tg_preV hw hK hSD hA (ci := 7) (q := (RX7, TX7, 12)) rfl h_p0 rfl) rfl rfl hl.1 rfl (lv_room (Nat.le_of_ble_eq_true rfl)) dX7_takeName_8 ⟨Nat.le_of_ble_eq_true rfl, Nat.le_of_ble_eq_true rfl⟩) hw hA (fun  H locs hp_v_3 hw => ?_)
    obtain ⟨hfn, hp_v_3⟩ := hp_v_3
    refine lv_iload_n hx hb dX7_takeName_11 rfl (lv_at hl 0 rfl) ?_
    simp only [f_X7_takeName__16, ↓reduceIte, q_v_1, eq_true c9_v_1] at hE
    subst hQ
    exact W.iret (v := v_1) hx hb hr (fun t ht hW => ⟨⟨v_1, (), rfl, ⟨⟨(by rw [hR, ← hE]), trivial⟩, r_v_1.to (by decide), (fun _ => trivial), (fun h0 => trivial), trivial, (fun h0 => ⟨x_FLT_p0, trivial⟩), (fun _ => trivial)⟩, by rw [ht]; exact hw.2.1, va_K.moved hW.alike hK, hw.2.2.1⟩, hw.2.2.2.1.F ht⟩) hw.2.2.2.1.2.2 dX7_takeName_12
  · exact absurd c9_v_1 (by unfold RI at r_v_1; omega)
abbrev wr_X0_readOther__1 : List (Nat × Nat) := [(0, 3), (7, 5), (7, 6), (7, 7), (7, 8), (7, 9), (7, 10), (7, 11)]
abbrev wa_X0_readOther__1 : List Nat := [18, 19, 20]
set_option maxHeartbeats 4000000 in
set_option maxRecDepth 100000 in
theorem c_X0_readOther__1 (l : Launch) (D : va_G) (cy : Nat → ClassId) (z : Nat → Nat) (sz : Nat) (Ps : PSI) (w0 : va_W) (hT : HT cy GG Ps w0) (p0 : Nat) (p1 : Nat) (p2 : Nat) (p3 : Int32) (s0 : OS) (s1 : OS) (s2 : OS) (h_p0 : (p0, 31) ∈ Ps) (h_p1 : (p1, 26) ∈ Ps) (h_p2 : (p2, 25) ∈ Ps) (r_p3 : RI p3 141 143) (x_BG_p0 : BG Ps w0 p0) (o_p0 : OV vw_BOOK Ps w0 p0 s0) (o_p1 : OV vw_TAPE Ps w0 p1 s1) (o_p2 : OV vw_POST Ps w0 p2 s2) : Met l yX0_readOther (Cond.code yX0_readOther cX0_readOther 5 none :: gT) ({ frames := 4, cells := 0, slots := 0, locals := 800 } : Room) (va_Pc [.ref p0, .ref p1, .ref p2, .int p3] (PRE D cy z w0 sz)) (va_Qv (fun (u : va_W) => ((OV vw_BOOK Ps u p0 ((f_X0_readOther__1 p3 s0 s1 s2).1) ∧ OV vw_TAPE Ps u p1 ((f_X0_readOther__1 p3 s0 s1 s2).2.1) ∧ OV vw_POST Ps u p2 ((f_X0_readOther__1 p3 s0 s1 s2).2.2) ∧ True) ∧ ((∃ v9 : Int32, FLD u p0 0 3 (.int v9) ∧ RI v9 1 40) ∧ JB Ps u p1 p0 ∧ True)) ∧ HT cy GG Ps u ∧ FR wr_X0_readOther__1 wa_X0_readOther__1 Ps w0 u) (BB D cy (va_A w0 sz) (fun (u : va_W) => u)) (va_A w0 sz)) 0 0 (va_A w0 sz) := by
  refine Met.ofW (cc := cX0_readOther) (maxL := 5) (ret := none) (by decide) rfl ?_
  intro p e s m args below meth c s₁ B hml hv
  obtain ⟨rfl, hsz, hP, hK, hD0, hSD⟩ := hv
  have hx := B.exec
  have hb := B.bytes
  have hr := B.returns
  have hlocks := B.notSynchronized
  have hts : ∀ w ∈ gT, w.before _ s = true := fun w h => atoms_spec (ws := Cond.code yX0_readOther cX0_readOther 5 none :: gT) B.pre w (List.mem_cons_of_mem _ h)
  have hown : s.vm.findClass RX0 = some m.cls := findClass_of_methodNamed B.named
  subst hsz
  have hD := hD0.self (sz := s.heap.size)
  generalize hAe : va_A w0 s.heap.size = A at hD hSD ⊢
  have hA : ∀ q : Nat, s.heap.size ≤ q → A q := fun q h => by rw [← hAe]; exact Or.inr h
  have hl := lv_entry ([.ref p0, .ref p1, .ref p2, .int p3]) (n := 5) (Nat.le_of_ble_eq_true rfl)
  rw [lg_entry_eq]
  generalize (lg_sl ([.ref p0, .ref p1, .ref p2, .int p3]) ++ List.replicate (5 - (lg_sl ([.ref p0, .ref p1, .ref p2, .int p3])).length) Slot.unset).toArray = ls at hl ⊢
  have hl : lv_has ls 5 [(0, .ref p0), (1, .ref p1), (2, .ref p2), (3, .int p3)] := hl
  refine nameQ (fun Q hQ => ?_)
  have hw : WD D cy GG A s wr_X0_readOther__1 wa_X0_readOther__1 Ps w0 Ps w0 s.heap [] := ⟨hT, hP, hD, va_S.rf, FR.rf, hT.1, [], (List.append_nil _).symm⟩
  obtain ⟨R9, hR⟩ : ∃ q9 : OS × OS × OS, f_X0_readOther__1 p3 s0 s1 s2 = q9 := ⟨_, rfl⟩
  have hE := hR
  refine lv_iload_n hx hb dX0_readOther_0 rfl (lv_at hl 3 rfl) ?_
  refine lv_sipush (v := 143) hx hb dX0_readOther_1 (by decide) ?_
  refine lv_icmp_ne (tgt := 21) hx hb dX0_readOther_4 (by decide) (fun c_4 => ?_) (fun c_4 => ?_)
  · have r_p3 : RI p3 141 142 := rc_neU r_p3 rl_143 (ti_ne c_4) (by decide)
    refine lv_aload_n hx hb dX0_readOther_21 rfl (lv_at hl 1 rfl) ?_
    refine lv_aload_n hx hb dX0_readOther_22 rfl (lv_at hl 2 rfl) ?_
    refine lv_iconst (v := 2) hx hb dX0_readOther_23 (by decide) ?_
    refine tk_i (va_runV (As := [.ref p2, .int 2]) (rest := []) ⟨hx, hb, hml, hown, hts⟩ (c_X7_takeName__15 l D cy z s.heap.size Ps w0 hw.1 p1 p2 2 s1 s2 h_p1 h_p2 rl_2 o_p1 o_p2) (cwV 2 hts (gV tw_903 tw_465 tw_466 tw_2 tw_467) rfl rfl rfl (by decide +kernel) ⟨Nat.le_of_ble_eq_true rfl, Nat.le_of_ble_eq_true rfl⟩) (tg_preV hw hK hSD hA (ci := 7) (q := (RX7, TX7, 12)) rfl h_p1 rfl) rfl rfl hl.1 rfl (lv_room (Nat.le_of_ble_eq_true rfl)) dX0_readOther_24 ⟨Nat.le_of_ble_eq_true rfl, Nat.le_of_ble_eq_true rfl⟩) hw hA ⟨by decide, by decide⟩ (fun v_1 ws H locs hp_v_1 hw hF9 => ?_)
    have x_BG_p0 := B3.over hF9 x_BG_p0 (by decide)
    obtain ⟨hfn, hp_v_1⟩ := hp_v_1
    have o_p0 := OV.over (V := vw_BOOK) hF9 o_p0 (by decide)
    obtain ⟨sg_2, q_sg_2⟩ : ∃ q9 : OS, (f_X7_takeName__12 (2 : Int32) s1 s2).1 = q9 := ⟨_, rfl⟩
    have o_p1 : OV vw_TAPE Ps ws p1 sg_2 := by rw [← q_sg_2]; exact hfn.1
    obtain ⟨sg_3, q_sg_3⟩ : ∃ q9 : OS, (f_X7_takeName__12 (2 : Int32) s1 s2).2.1 = q9 := ⟨_, rfl⟩
    have o_p2 : OV vw_POST Ps ws p2 sg_3 := by rw [← q_sg_3]; exact hfn.2.1
    have q_v_1 : (f_X7_takeName__12 (2 : Int32) s1 s2).2.2 = v_1 := hfn.2.2.1
    have r_v_1 : RI v_1 (-1) 5 := hp_v_1.1
    by_cases c9_v_1 : v_1.toInt < 0
    · have r_v_1 : RI v_1 (-1) (-1) := by unfold RI at r_v_1 ⊢; omega
      have x_FLT_p1 := (hp_v_1.2.2.2.2.1 (by omega)).1
      obtain ⟨v_4, m_v_4, r_v_4⟩ := id x_FLT_p1
      refine lv_istore (lv' := [(4, .int v_1), (0, .ref p0), (1, .ref p1), (2, .ref p2), (3, .int p3)]) hx hb dX0_readOther_27 hl (by decide) rfl (fun ls hl => ?_)
      refine lv_aload_n hx hb dX0_readOther_29 rfl (lv_at hl 1 rfl) ?_
      refine lv_iload_n hx hb dX0_readOther_30 rfl (lv_at hl 4 rfl) ?_
      refine lv_iload hx hb dX0_readOther_31 (lv_at hl 0 rfl) ?_
      refine lv_iload_n hx hb dX0_readOther_33 rfl (lv_at hl 4 rfl) ?_
      refine lv_sipush (v := 142) hx hb dX0_readOther_34 (by decide) ?_
      refine lv_icmp_ne (tgt := 49) hx hb dX0_readOther_37 (by decide) (fun c_37 => ?_) (fun c_37 => ?_)
      · have r_p3 : RI p3 141 141 := rc_neU r_p3 rl_142 (ti_ne c_37) (by decide)
        refine lv_iconst (v := (-1)) hx hb dX0_readOther_49 (by decide) ?_
        refine tk_v (va_runV (As := [.int p3, .int v_1, .int (-1)]) (rest := []) ⟨hx, hb, hml, hown, hts⟩ (c_X0_addLine__4 l D cy z H.size Ps ws hw.1 p0 p3 v_1 (-1) s0 h_p0 (r_p3.to (by decide)) (r_v_1.to (by decide)) (rl_m1.to (by decide)) o_p0) (cwV 3 hts (gV tw_904 tw_906 ts_28 tw_7 tw_907) rfl rfl rfl (by decide +kernel) ⟨Nat.le_of_ble_eq_true rfl, Nat.le_of_ble_eq_true rfl⟩) (tg_preV hw hK hSD hA (ci := 0) (q := (RX0, TX0, 5)) rfl h_p0 rfl) rfl rfl hl.1 rfl (lv_room (Nat.le_of_ble_eq_true rfl)) dX0_readOther_50 ⟨Nat.le_of_ble_eq_true rfl, Nat.le_of_ble_eq_true rfl⟩) hw hA ⟨by decide, by decide⟩ (fun ws H locs hp_v_5 hw hF9 => ?_)
        have m_v_4 := FLD.over hF9 m_v_4 (by decide)
        have x_FLT_p1 := FLTp.over hF9 x_FLT_p1 (by decide)
        obtain ⟨hfn, hp_v_5⟩ := hp_v_5
        have o_p1 := OV.over (V := vw_TAPE) hF9 o_p1 (by decide)
        have o_p2 := OV.over (V := vw_POST) hF9 o_p2 (by decide)
        obtain ⟨sg_6, q_sg_6⟩ : ∃ q9 : OS, (f_X0_addLine__3 p3 v_1 ((-1) : Int32) s0) = q9 := ⟨_, rfl⟩
        have o_p0 : OV vw_BOOK Ps ws p0 sg_6 := by rw [← q_sg_6]; exact hfn.1
        obtain ⟨v_7, m_v_7, r_v_7⟩ := (hp_v_5.1)
        have x_JB_p1_p0 : JB Ps ws p1 p0 := Or.inl ⟨_, m_v_4, r_v_4.to (by decide)⟩
        simp only [f_X0_readOther__1, ↓reduceIte, eq_false c_4, q_sg_2, q_sg_3, q_v_1, eq_true c9_v_1, eq_false c_37, q_sg_6] at hE
        subst hQ
        exact W.vret hx hb hr (fun t ht hW => ⟨⟨ws, rfl, ⟨⟨⟨(by rw [hR, ← hE]; exact o_p0), (by rw [hR, ← hE]; exact o_p1), (by rw [hR, ← hE]; exact o_p2), trivial⟩, ⟨⟨_, m_v_7, r_v_7⟩, x_JB_p1_p0, trivial⟩⟩, hw.1, hw.2.2.2.2.1⟩, by rw [ht]; exact hw.2.1, va_K.moved hW.alike hK, hw.2.2.1⟩, hw.2.2.2.1.F ht⟩) hw.2.2.2.1.2.2 dX0_readOther_53
      · have r_p3 : RI p3 142 142 := rc_eq1 r_p3 rl_142 (ti_eq c_37) (by decide)
        refine lv_aload_n hx hb dX0_readOther_40 rfl (lv_at hl 2 rfl) ?_
        refine lv_aload_n hx hb dX0_readOther_41 rfl (lv_at hl 3 rfl) ?_
        refine lv_iconst (v := 1) hx hb dX0_readOther_42 (by decide) ?_
        refine tk_ir (va_runV (As := [.ref p2, .int 1]) (rest := [.int v_1, .int p3, .ref p0]) ⟨hx, hb, hml, hown, hts⟩ (c_X7_takeName__17 l D cy z H.size Ps ws hw.1 p1 p2 1 v_4 sg_2 sg_3 h_p1 h_p2 rl_1 r_v_4 m_v_4 o_p1 o_p2) (cwV 2 hts (gV tw_903 tw_465 tw_466 tw_2 tw_467) rfl rfl rfl (by decide +kernel) ⟨Nat.le_of_ble_eq_true rfl, Nat.le_of_ble_eq_true rfl⟩) (tg_preV hw hK hSD hA (ci := 7) (q := (RX7, TX7, 12)) rfl h_p1 rfl) rfl rfl hl.1 rfl (lv_room (Nat.le_of_ble_eq_true rfl)) dX0_readOther_43 ⟨Nat.le_of_ble_eq_true rfl, Nat.le_of_ble_eq_true rfl⟩) hw hA (fun v_8  H locs hp_v_8 hw => ?_)
        obtain ⟨hfn, hp_v_8⟩ := hp_v_8
        have q_v_8 : (f_X7_takeName__16 (1 : Int32) sg_2 sg_3) = v_8 := hfn.1
        have r_v_8 : RI v_8 (-1) (-1) := hp_v_8.1
        by_cases c9_v_8 : v_8.toInt < 0
        · have r_v_8 : RI v_8 (-1) (-1) := by unfold RI at r_v_8 ⊢; omega
          have x_FLT_p1 := (hp_v_8.2.2.2.2.1 (by omega)).1
          obtain ⟨v_9, m_v_9, r_v_9⟩ := id x_FLT_p1
          refine lv_goto (tgt := 50) hx hb dX0_readOther_46 (by decide) ?_
          refine tk_v (va_runV (As := [.int p3, .int v_1, .int v_8]) (rest := []) ⟨hx, hb, hml, hown, hts⟩ (c_X0_addLine__4 l D cy z H.size Ps ws hw.1 p0 p3 v_1 v_8 s0 h_p0 (r_p3.to (by decide)) (r_v_1.to (by decide)) (r_v_8.to (by decide)) o_p0) (cwV 3 hts (gV tw_904 tw_906 ts_28 tw_7 tw_907) rfl rfl rfl (by decide +kernel) ⟨Nat.le_of_ble_eq_true rfl, Nat.le_of_ble_eq_true rfl⟩) (tg_preV hw hK hSD hA (ci := 0) (q := (RX0, TX0, 5)) rfl h_p0 rfl) rfl rfl hl.1 rfl (lv_room (Nat.le_of_ble_eq_true rfl)) dX0_readOther_50 ⟨Nat.le_of_ble_eq_true rfl, Nat.le_of_ble_eq_true rfl⟩) hw hA ⟨by decide, by decide⟩ (fun ws H locs hp_v_10 hw hF9 => ?_)
          have m_v_9 := FLD.over hF9 m_v_9 (by decide)
          have x_FLT_p1 := FLTp.over hF9 x_FLT_p1 (by decide)
          obtain ⟨hfn, hp_v_10⟩ := hp_v_10
          have o_p1 := OV.over (V := vw_TAPE) hF9 o_p1 (by decide)
          have o_p2 := OV.over (V := vw_POST) hF9 o_p2 (by decide)
          obtain ⟨sg_11, q_sg_11⟩ : ∃ q9 : OS, (f_X0_addLine__3 p3 v_1 v_8 s0) = q9 := ⟨_, rfl⟩
          have o_p0 : OV vw_BOOK Ps ws p0 sg_11 := by rw [← q_sg_11]; exact hfn.1
          obtain ⟨v_12, m_v_12, r_v_12⟩ := (hp_v_10.1)
          have x_JB_p1_p0 : JB Ps ws p1 p0 := Or.inl ⟨_, m_v_9, r_v_9.to (by decide)⟩
          simp only [f_X0_readOther__1, ↓reduceIte, eq_false c_4, q_sg_2, q_sg_3, q_v_1, eq_true c9_v_1, eq_true c_37, q_v_8, eq_true c9_v_8, q_sg_11] at hE
          subst hQ
          exact W.vret hx hb hr (fun t ht hW => ⟨⟨ws, rfl, ⟨⟨⟨(by rw [hR, ← hE]; exact o_p0), (by rw [hR, ← hE]; exact o_p1), (by rw [hR, ← hE]; exact o_p2), trivial⟩, ⟨⟨_, m_v_12, r_v_12⟩, x_JB_p1_p0, trivial⟩⟩, hw.1, hw.2.2.2.2.1⟩, by rw [ht]; exact hw.2.1, va_K.moved hW.alike hK, hw.2.2.1⟩, hw.2.2.2.1.F ht⟩) hw.2.2.2.1.2.2 dX0_readOther_53
        · exact absurd c9_v_8 (by unfold RI at r_v_8; omega)
    · have r_v_1 : RI v_1 0 5 := by unfold RI at r_v_1 ⊢; omega
      refine lv_istore (lv' := [(4, .int v_1), (0, .ref p0), (1, .ref p1), (2, .ref p2), (3, .int p3)]) hx hb dX0_readOther_27 hl (by decide) rfl (fun ls hl => ?_)
      refine lv_aload_n hx hb dX0_readOther_29 rfl (lv_at hl 1 rfl) ?_
      refine lv_iload_n hx hb dX0_readOther_30 rfl (lv_at hl 4 rfl) ?_
      refine lv_iload hx hb dX0_readOther_31 (lv_at hl 0 rfl) ?_
      refine lv_iload_n hx hb dX0_readOther_33 rfl (lv_at hl 4 rfl) ?_
      refine lv_sipush (v := 142) hx hb dX0_readOther_34 (by decide) ?_
      refine lv_icmp_ne (tgt := 49) hx hb dX0_readOther_37 (by decide) (fun c_37 => ?_) (fun c_37 => ?_)
      · have r_p3 : RI p3 141 141 := rc_neU r_p3 rl_142 (ti_ne c_37) (by decide)
        refine lv_iconst (v := (-1)) hx hb dX0_readOther_49 (by decide) ?_
        have x_GB_p3_v_1___1_ : gb p3 v_1 (-1) := by have k1 := r_p3; have k2 := r_v_1; have k3 := rl_m1; unfold RI at k1 k2 k3; unfold gb; omega
        refine tk_v (va_runV (As := [.int p3, .int v_1, .int (-1)]) (rest := []) ⟨hx, hb, hml, hown, hts⟩ (c_X0_addLine__3 l D cy z H.size Ps ws hw.1 p0 p3 v_1 (-1) s0 h_p0 (r_p3.to (by decide)) (r_v_1.to (by decide)) (rl_m1.to (by decide)) x_BG_p0 x_GB_p3_v_1___1_ o_p0) (cwV 3 hts (gV tw_904 tw_906 ts_28 tw_7 tw_907) rfl rfl rfl (by decide +kernel) ⟨Nat.le_of_ble_eq_true rfl, Nat.le_of_ble_eq_true rfl⟩) (tg_preV hw hK hSD hA (ci := 0) (q := (RX0, TX0, 5)) rfl h_p0 rfl) rfl rfl hl.1 rfl (lv_room (Nat.le_of_ble_eq_true rfl)) dX0_readOther_50 ⟨Nat.le_of_ble_eq_true rfl, Nat.le_of_ble_eq_true rfl⟩) hw hA ⟨by decide, by decide⟩ (fun ws H locs hp_v_13 hw hF9 => ?_)
        obtain ⟨hfn, hp_v_13⟩ := hp_v_13
        have o_p1 := OV.over (V := vw_TAPE) hF9 o_p1 (by decide)
        have o_p2 := OV.over (V := vw_POST) hF9 o_p2 (by decide)
        obtain ⟨sg_14, q_sg_14⟩ : ∃ q9 : OS, (f_X0_addLine__3 p3 v_1 ((-1) : Int32) s0) = q9 := ⟨_, rfl⟩
        have o_p0 : OV vw_BOOK Ps ws p0 sg_14 := by rw [← q_sg_14]; exact hfn.1
        obtain ⟨v_15, m_v_15, r_v_15⟩ := (hp_v_13.1)
        have x_BG_p0 := (hp_v_13.2.1)
        have x_JB_p1_p0 : JB Ps ws p1 p0 := Or.inr x_BG_p0
        simp only [f_X0_readOther__1, ↓reduceIte, eq_false c_4, q_sg_2, q_sg_3, q_v_1, eq_false c9_v_1, eq_false c_37, q_sg_14] at hE
        subst hQ
        exact W.vret hx hb hr (fun t ht hW => ⟨⟨ws, rfl, ⟨⟨⟨(by rw [hR, ← hE]; exact o_p0), (by rw [hR, ← hE]; exact o_p1), (by rw [hR, ← hE]; exact o_p2), trivial⟩, ⟨⟨_, m_v_15, r_v_15⟩, x_JB_p1_p0, trivial⟩⟩, hw.1, hw.2.2.2.2.1⟩, by rw [ht]; exact hw.2.1, va_K.moved hW.alike hK, hw.2.2.1⟩, hw.2.2.2.1.F ht⟩) hw.2.2.2.1.2.2 dX0_readOther_53
      · have r_p3 : RI p3 142 142 := rc_eq1 r_p3 rl_142 (ti_eq c_37) (by decide)
        refine lv_aload_n hx hb dX0_readOther_40 rfl (lv_at hl 2 rfl) ?_
        refine lv_aload_n hx hb dX0_readOther_41 rfl (lv_at hl 3 rfl) ?_
        refine lv_iconst (v := 1) hx hb dX0_readOther_42 (by decide) ?_
        refine tk_i (va_runV (As := [.ref p2, .int 1]) (rest := [.int v_1, .int p3, .ref p0]) ⟨hx, hb, hml, hown, hts⟩ (c_X7_takeName__12 l D cy z H.size Ps ws hw.1 p1 p2 1 sg_2 sg_3 h_p1 h_p2 rl_1 o_p1 o_p2) (cwV 2 hts (gV tw_903 tw_465 tw_466 tw_2 tw_467) rfl rfl rfl (by decide +kernel) ⟨Nat.le_of_ble_eq_true rfl, Nat.le_of_ble_eq_true rfl⟩) (tg_preV hw hK hSD hA (ci := 7) (q := (RX7, TX7, 12)) rfl h_p1 rfl) rfl rfl hl.1 rfl (lv_room (Nat.le_of_ble_eq_true rfl)) dX0_readOther_43 ⟨Nat.le_of_ble_eq_true rfl, Nat.le_of_ble_eq_true rfl⟩) hw hA ⟨by decide, by decide⟩ (fun v_16 ws H locs hp_v_16 hw hF9 => ?_)
        have x_BG_p0 := B3.over hF9 x_BG_p0 (by decide)
        obtain ⟨hfn, hp_v_16⟩ := hp_v_16
        have o_p0 := OV.over (V := vw_BOOK) hF9 o_p0 (by decide)
        obtain ⟨sg_17, q_sg_17⟩ : ∃ q9 : OS, (f_X7_takeName__12 (1 : Int32) sg_2 sg_3).1 = q9 := ⟨_, rfl⟩
        have o_p1 : OV vw_TAPE Ps ws p1 sg_17 := by rw [← q_sg_17]; exact hfn.1
        obtain ⟨sg_18, q_sg_18⟩ : ∃ q9 : OS, (f_X7_takeName__12 (1 : Int32) sg_2 sg_3).2.1 = q9 := ⟨_, rfl⟩
        have o_p2 : OV vw_POST Ps ws p2 sg_18 := by rw [← q_sg_18]; exact hfn.2.1
        have q_v_16 : (f_X7_takeName__12 (1 : Int32) sg_2 sg_3).2.2 = v_16 := hfn.2.2.1
        have r_v_16 : RI v_16 (-1) 3 := hp_v_16.1
        by_cases c9_v_16 : v_16.toInt < 0
        · have r_v_16 : RI v_16 (-1) (-1) := by unfold RI at r_v_16 ⊢; omega
          have x_FLT_p1 := (hp_v_16.2.2.2.2.1 (by omega)).1
          obtain ⟨v_19, m_v_19, r_v_19⟩ := id x_FLT_p1
          refine lv_goto (tgt := 50) hx hb dX0_readOther_46 (by decide) ?_
          have x_GB_p3_v_1_v_16 : gb p3 v_1 v_16 := by have k1 := r_p3; have k2 := r_v_1; have k3 := r_v_16; unfold RI at k1 k2 k3; unfold gb; omega
          refine tk_v (va_runV (As := [.int p3, .int v_1, .int v_16]) (rest := []) ⟨hx, hb, hml, hown, hts⟩ (c_X0_addLine__3 l D cy z H.size Ps ws hw.1 p0 p3 v_1 v_16 s0 h_p0 (r_p3.to (by decide)) (r_v_1.to (by decide)) (r_v_16.to (by decide)) x_BG_p0 x_GB_p3_v_1_v_16 o_p0) (cwV 3 hts (gV tw_904 tw_906 ts_28 tw_7 tw_907) rfl rfl rfl (by decide +kernel) ⟨Nat.le_of_ble_eq_true rfl, Nat.le_of_ble_eq_true rfl⟩) (tg_preV hw hK hSD hA (ci := 0) (q := (RX0, TX0, 5)) rfl h_p0 rfl) rfl rfl hl.1 rfl (lv_room (Nat.le_of_ble_eq_true rfl)) dX0_readOther_50 ⟨Nat.le_of_ble_eq_true rfl, Nat.le_of_ble_eq_true rfl⟩) hw hA ⟨by decide, by decide⟩ (fun ws H locs hp_v_20 hw hF9 => ?_)
          have m_v_19 := FLD.over hF9 m_v_19 (by decide)
          have x_FLT_p1 := FLTp.over hF9 x_FLT_p1 (by decide)
          obtain ⟨hfn, hp_v_20⟩ := hp_v_20
          have o_p1 := OV.over (V := vw_TAPE) hF9 o_p1 (by decide)
          have o_p2 := OV.over (V := vw_POST) hF9 o_p2 (by decide)
          obtain ⟨sg_21, q_sg_21⟩ : ∃ q9 : OS, (f_X0_addLine__3 p3 v_1 v_16 s0) = q9 := ⟨_, rfl⟩
          have o_p0 : OV vw_BOOK Ps ws p0 sg_21 := by rw [← q_sg_21]; exact hfn.1
          obtain ⟨v_22, m_v_22, r_v_22⟩ := (hp_v_20.1)
          have x_BG_p0 := (hp_v_20.2.1)
          have x_JB_p1_p0 : JB Ps ws p1 p0 := Or.inr x_BG_p0
          simp only [f_X0_readOther__1, ↓reduceIte, eq_false c_4, q_sg_2, q_sg_3, q_v_1, eq_false c9_v_1, eq_true c_37, q_sg_17, q_sg_18, q_v_16, eq_true c9_v_16, q_sg_21] at hE
          subst hQ
          exact W.vret hx hb hr (fun t ht hW => ⟨⟨ws, rfl, ⟨⟨⟨(by rw [hR, ← hE]; exact o_p0), (by rw [hR, ← hE]; exact o_p1), (by rw [hR, ← hE]; exact o_p2), trivial⟩, ⟨⟨_, m_v_22, r_v_22⟩, x_JB_p1_p0, trivial⟩⟩, hw.1, hw.2.2.2.2.1⟩, by rw [ht]; exact hw.2.1, va_K.moved hW.alike hK, hw.2.2.1⟩, hw.2.2.2.1.F ht⟩) hw.2.2.2.1.2.2 dX0_readOther_53
        · have r_v_16 : RI v_16 0 3 := by unfold RI at r_v_16 ⊢; omega
          refine lv_goto (tgt := 50) hx hb dX0_readOther_46 (by decide) ?_
          have x_GB_p3_v_1_v_16 : gb p3 v_1 v_16 := by have k1 := r_p3; have k2 := r_v_1; have k3 := r_v_16; unfold RI at k1 k2 k3; unfold gb; omega
          refine tk_v (va_runV (As := [.int p3, .int v_1, .int v_16]) (rest := []) ⟨hx, hb, hml, hown, hts⟩ (c_X0_addLine__3 l D cy z H.size Ps ws hw.1 p0 p3 v_1 v_16 s0 h_p0 (r_p3.to (by decide)) (r_v_1.to (by decide)) (r_v_16.to (by decide)) x_BG_p0 x_GB_p3_v_1_v_16 o_p0) (cwV 3 hts (gV tw_904 tw_906 ts_28 tw_7 tw_907) rfl rfl rfl (by decide +kernel) ⟨Nat.le_of_ble_eq_true rfl, Nat.le_of_ble_eq_true rfl⟩) (tg_preV hw hK hSD hA (ci := 0) (q := (RX0, TX0, 5)) rfl h_p0 rfl) rfl rfl hl.1 rfl (lv_room (Nat.le_of_ble_eq_true rfl)) dX0_readOther_50 ⟨Nat.le_of_ble_eq_true rfl, Nat.le_of_ble_eq_true rfl⟩) hw hA ⟨by decide, by decide⟩ (fun ws H locs hp_v_23 hw hF9 => ?_)
          obtain ⟨hfn, hp_v_23⟩ := hp_v_23
          have o_p1 := OV.over (V := vw_TAPE) hF9 o_p1 (by decide)
          have o_p2 := OV.over (V := vw_POST) hF9 o_p2 (by decide)
          obtain ⟨sg_24, q_sg_24⟩ : ∃ q9 : OS, (f_X0_addLine__3 p3 v_1 v_16 s0) = q9 := ⟨_, rfl⟩
          have o_p0 : OV vw_BOOK Ps ws p0 sg_24 := by rw [← q_sg_24]; exact hfn.1
          obtain ⟨v_25, m_v_25, r_v_25⟩ := (hp_v_23.1)
          have x_BG_p0 := (hp_v_23.2.1)
          have x_JB_p1_p0 : JB Ps ws p1 p0 := Or.inr x_BG_p0
          simp only [f_X0_readOther__1, ↓reduceIte, eq_false c_4, q_sg_2, q_sg_3, q_v_1, eq_false c9_v_1, eq_true c_37, q_sg_17, q_sg_18, q_v_16, eq_false c9_v_16, q_sg_24] at hE
          subst hQ
          exact W.vret hx hb hr (fun t ht hW => ⟨⟨ws, rfl, ⟨⟨⟨(by rw [hR, ← hE]; exact o_p0), (by rw [hR, ← hE]; exact o_p1), (by rw [hR, ← hE]; exact o_p2), trivial⟩, ⟨⟨_, m_v_25, r_v_25⟩, x_JB_p1_p0, trivial⟩⟩, hw.1, hw.2.2.2.2.1⟩, by rw [ht]; exact hw.2.1, va_K.moved hW.alike hK, hw.2.2.1⟩, hw.2.2.2.1.F ht⟩) hw.2.2.2.1.2.2 dX0_readOther_53
  · have r_p3 : RI p3 143 143 := rc_eq1 r_p3 rl_143 (ti_eq c_4) (by decide)
    refine lv_aload_n hx hb dX0_readOther_7 rfl (lv_at hl 0 rfl) ?_
    refine lv_iload_n hx hb dX0_readOther_8 rfl (lv_at hl 3 rfl) ?_
    refine lv_aload_n hx hb dX0_readOther_9 rfl (lv_at hl 1 rfl) ?_
    refine lv_iconst (v := 1) hx hb dX0_readOther_10 (by decide) ?_
    refine lv_bipush (v := 60) hx hb dX0_readOther_11 (by decide) ?_
    refine tk_i (va_runV (As := [.int 1, .int 60]) (rest := [.int p3, .ref p0]) ⟨hx, hb, hml, hown, hts⟩ (c_X7_takeNumber__5 l D cy z s.heap.size Ps w0 hw.1 p1 1 60 s1 h_p1 (rl_1.to (by decide)) (rl_60.to (by decide)) o_p1) (cwV 2 hts (gV tw_912 tw_478 tw_479 tw_2 tw_480) rfl rfl rfl (by decide +kernel) ⟨Nat.le_of_ble_eq_true rfl, Nat.le_of_ble_eq_true rfl⟩) (tg_preV hw hK hSD hA (ci := 7) (q := (RX7, TX7, 12)) rfl h_p1 rfl) rfl rfl hl.1 rfl (lv_room (Nat.le_of_ble_eq_true rfl)) dX0_readOther_13 ⟨Nat.le_of_ble_eq_true rfl, Nat.le_of_ble_eq_true rfl⟩) hw hA ⟨by decide, by decide⟩ (fun v_26 ws H locs hp_v_26 hw hF9 => ?_)
    have x_BG_p0 := B3.over hF9 x_BG_p0 (by decide)
    obtain ⟨hfn, hp_v_26⟩ := hp_v_26
    have o_p0 := OV.over (V := vw_BOOK) hF9 o_p0 (by decide)
    have o_p2 := OV.over (V := vw_POST) hF9 o_p2 (by decide)
    obtain ⟨sg_27, q_sg_27⟩ : ∃ q9 : OS, (f_X7_takeNumber__5 (1 : Int32) (60 : Int32) s1).1 = q9 := ⟨_, rfl⟩
    have o_p1 : OV vw_TAPE Ps ws p1 sg_27 := by rw [← q_sg_27]; exact hfn.1
    have q_v_26 : (f_X7_takeNumber__5 (1 : Int32) (60 : Int32) s1).2 = v_26 := hfn.2.1
    have r_v_26 : RI v_26 (-2147483648) 2147483647 := hp_v_26.1
    refine lv_iconst (v := (-1)) hx hb dX0_readOther_16 (by decide) ?_
    have x_GB_p3_v_26___1_ : gb p3 v_26 (-1) := by have k1 := r_p3; have k2 := r_v_26; have k3 := rl_m1; unfold RI at k1 k2 k3; unfold gb; omega
    refine tk_v (va_runV (As := [.int p3, .int v_26, .int (-1)]) (rest := []) ⟨hx, hb, hml, hown, hts⟩ (c_X0_addLine__3 l D cy z H.size Ps ws hw.1 p0 p3 v_26 (-1) s0 h_p0 (r_p3.to (by decide)) r_v_26 (rl_m1.to (by decide)) x_BG_p0 x_GB_p3_v_26___1_ o_p0) (cwV 3 hts (gV tw_904 tw_906 ts_28 tw_7 tw_907) rfl rfl rfl (by decide +kernel) ⟨Nat.le_of_ble_eq_true rfl, Nat.le_of_ble_eq_true rfl⟩) (tg_preV hw hK hSD hA (ci := 0) (q := (RX0, TX0, 5)) rfl h_p0 rfl) rfl rfl hl.1 rfl (lv_room (Nat.le_of_ble_eq_true rfl)) dX0_readOther_17 ⟨Nat.le_of_ble_eq_true rfl, Nat.le_of_ble_eq_true rfl⟩) hw hA ⟨by decide, by decide⟩ (fun ws H locs hp_v_28 hw hF9 => ?_)
    obtain ⟨hfn, hp_v_28⟩ := hp_v_28
    have o_p1 := OV.over (V := vw_TAPE) hF9 o_p1 (by decide)
    have o_p2 := OV.over (V := vw_POST) hF9 o_p2 (by decide)
    obtain ⟨sg_29, q_sg_29⟩ : ∃ q9 : OS, (f_X0_addLine__3 p3 v_26 ((-1) : Int32) s0) = q9 := ⟨_, rfl⟩
    have o_p0 : OV vw_BOOK Ps ws p0 sg_29 := by rw [← q_sg_29]; exact hfn.1
    obtain ⟨v_30, m_v_30, r_v_30⟩ := (hp_v_28.1)
    have x_BG_p0 := (hp_v_28.2.1)
    have x_JB_p1_p0 : JB Ps ws p1 p0 := Or.inr x_BG_p0
    simp only [f_X0_readOther__1, ↓reduceIte, eq_true c_4, q_sg_27, q_v_26, q_sg_29] at hE
    subst hQ
    exact W.vret hx hb hr (fun t ht hW => ⟨⟨ws, rfl, ⟨⟨⟨(by rw [hR, ← hE]; exact o_p0), (by rw [hR, ← hE]; exact o_p1), (by rw [hR, ← hE]; exact o_p2), trivial⟩, ⟨⟨_, m_v_30, r_v_30⟩, x_JB_p1_p0, trivial⟩⟩, hw.1, hw.2.2.2.2.1⟩, by rw [ht]; exact hw.2.1, va_K.moved hW.alike hK, hw.2.2.1⟩, hw.2.2.2.1.F ht⟩) hw.2.2.2.1.2.2 dX0_readOther_20
abbrev wr_X0_beginsLine__12 : List (Nat × Nat) := [(7, 10), (7, 11)]
abbrev wa_X0_beginsLine__12 : List Nat := []
set_option maxHeartbeats 4000000 in
set_option maxRecDepth 100000 in
theorem c_X0_beginsLine__12 (l : Launch) (D : va_G) (cy : Nat → ClassId) (z : Nat → Nat) (sz : Nat) (Ps : PSI) (w0 : va_W) (hT : HT cy GG Ps w0) (p0 : Nat) (p1 : Nat) (p2 : Int32) (f1_10 : Int32) (s0 : OS) (s1 : OS) (h_p0 : (p0, 31) ∈ Ps) (h_p1 : (p1, 26) ∈ Ps) (r_p2 : RI p2 144 2147483647) (r_f1_10 : RI f1_10 0 0) (m_f1_10 : FLD w0 p1 7 10 (.int f1_10)) (o_p0 : OV vw_BOOK Ps w0 p0 s0) (o_p1 : OV vw_TAPE Ps w0 p1 s1) : Met l yX0_beginsLine (Cond.code yX0_beginsLine cX0_beginsLine 3 (some .boolean) :: gT) ({ frames := 2, cells := 0, slots := 0, locals := 400 } : Room) (va_Pc [.ref p0, .ref p1, .int p2] (PRE D cy z w0 sz)) (va_Qi (fun (r : Int32) (u : va_W) => ((OV vw_BOOK Ps u p0 ((f_X0_beginsLine__7 p2 s0 s1).1) ∧ OV vw_TAPE Ps u p1 ((f_X0_beginsLine__7 p2 s0 s1).2.1) ∧ (f_X0_beginsLine__7 p2 s0 s1).2.2 = r ∧ True) ∧ (RI r 0 0 ∧ (r = 0 → (∃ v9 : Int32, FLD u p1 7 10 (.int v9) ∧ RI v9 1 4) ∧ True) ∧ (¬ r = 0 → True))) ∧ HT cy GG Ps u ∧ FR wr_X0_beginsLine__12 wa_X0_beginsLine__12 Ps w0 u) (BB D cy (va_A w0 sz) (fun (u : va_W) => u)) (va_A w0 sz)) 0 0 (va_A w0 sz) := by
  refine Met.ofW (cc := cX0_beginsLine) (maxL := 3) (ret := (some .boolean)) (by decide) rfl ?_
  intro p e s m args below meth c s₁ B hml hv
  obtain ⟨rfl, hsz, hP, hK, hD0, hSD⟩ := hv
  have hx := B.exec
  have hb := B.bytes
  have hr := B.returns
  have hlocks := B.notSynchronized
  have hts : ∀ w ∈ gT, w.before _ s = true := fun w h => atoms_spec (ws := Cond.code yX0_beginsLine cX0_beginsLine 3 (some .boolean) :: gT) B.pre w (List.mem_cons_of_mem _ h)
  have hown : s.vm.findClass RX0 = some m.cls := findClass_of_methodNamed B.named
  subst hsz
  have hD := hD0.self (sz := s.heap.size)
  generalize hAe : va_A w0 s.heap.size = A at hD hSD ⊢
  have hA : ∀ q : Nat, s.heap.size ≤ q → A q := fun q h => by rw [← hAe]; exact Or.inr h
  have hl := lv_entry ([.ref p0, .ref p1, .int p2]) (n := 3) (Nat.le_of_ble_eq_true rfl)
  rw [lg_entry_eq]
  generalize (lg_sl ([.ref p0, .ref p1, .int p2]) ++ List.replicate (3 - (lg_sl ([.ref p0, .ref p1, .int p2])).length) Slot.unset).toArray = ls at hl ⊢
  have hl : lv_has ls 3 [(0, .ref p0), (1, .ref p1), (2, .int p2)] := hl
  refine nameQ (fun Q hQ => ?_)
  have hw : WD D cy GG A s wr_X0_beginsLine__12 wa_X0_beginsLine__12 Ps w0 Ps w0 s.heap [] := ⟨hT, hP, hD, va_S.rf, FR.rf, hT.1, [], (List.append_nil _).symm⟩
  obtain ⟨R9, hR⟩ : ∃ q9 : OS × OS × Int32, f_X0_beginsLine__7 p2 s0 s1 = q9 := ⟨_, rfl⟩
  have hE := hR
  refine lv_iload_n hx hb dX0_beginsLine_0 rfl (lv_at hl 2 rfl) ?_
  refine lv_iconst (v := 2) hx hb dX0_beginsLine_1 (by decide) ?_
  refine lv_icmp_eq (tgt := 27) hx hb dX0_beginsLine_2 (by decide) (fun c_2 => ?_) (fun c_2 => ?_)
  · have r_p2 : RI p2 144 2 := rc_eq1 r_p2 rl_2 (ti_eq c_2) (by decide)
    exact (r_p2.no (by decide)).elim
  · refine lv_iload_n hx hb dX0_beginsLine_5 rfl (lv_at hl 2 rfl) ?_
    refine lv_sipush (v := 141) hx hb dX0_beginsLine_6 (by decide) ?_
    refine lv_icmp_lt (tgt := 19) hx hb dX0_beginsLine_9 (by decide) (fun c_9 => ?_) (fun c_9 => ?_)
    · have r_p2 : RI p2 144 140 := rc_lt1 r_p2 rl_141 (ti_lt c_9) (by decide)
      exact (r_p2.no (by decide)).elim
    · refine lv_iload_n hx hb dX0_beginsLine_12 rfl (lv_at hl 2 rfl) ?_
      refine lv_sipush (v := 143) hx hb dX0_beginsLine_13 (by decide) ?_
      refine lv_icmp_le (tgt := 27) hx hb dX0_beginsLine_16 (by decide) (fun c_16 => ?_) (fun c_16 => ?_)
      · have r_p2 : RI p2 144 143 := rc_le1 r_p2 rl_143 (ti_le c_16) (by decide)
        exact (r_p2.no (by decide)).elim
      · refine lv_aload_n hx hb dX0_beginsLine_19 rfl (lv_at hl 1 rfl) ?_
        refine lv_iconst (v := 1) hx hb dX0_beginsLine_20 (by decide) ?_
        refine tk_v (va_runV (As := [.int 1]) (rest := []) ⟨hx, hb, hml, hown, hts⟩ (c_X7_refuse__5 l D cy z s.heap.size Ps w0 hw.1 p1 1 f1_10 s1 h_p1 (rl_1.to (by decide)) r_f1_10 m_f1_10 o_p1) (cwV 1 hts (gV tw_897 tw_443 tw_444 tw_2 tw_445) rfl rfl rfl (by decide +kernel) ⟨Nat.le_of_ble_eq_true rfl, Nat.le_of_ble_eq_true rfl⟩) (tg_preV hw hK hSD hA (ci := 7) (q := (RX7, TX7, 12)) rfl h_p1 rfl) rfl rfl hl.1 rfl (lv_room (Nat.le_of_ble_eq_true rfl)) dX0_beginsLine_21 ⟨Nat.le_of_ble_eq_true rfl, Nat.le_of_ble_eq_true rfl⟩) hw hA ⟨by decide, by decide⟩ (fun ws H locs hp_v_1 hw hF9 => ?_)
        obtain ⟨hfn, hp_v_1⟩ := hp_v_1
        have o_p0 := OV.over (V := vw_BOOK) hF9 o_p0 (by decide)
        obtain ⟨sg_2, q_sg_2⟩ : ∃ q9 : OS, (f_X7_refuse__5 (1 : Int32) s1) = q9 := ⟨_, rfl⟩
        have o_p1 : OV vw_TAPE Ps ws p1 sg_2 := by rw [← q_sg_2]; exact hfn.1
        obtain ⟨v_3, m_v_3, r_v_3⟩ := (hp_v_1.1)
        refine lv_goto (tgt := 41) hx hb dX0_beginsLine_24 (by decide) ?_
        refine lv_aload_n hx hb dX0_beginsLine_41 rfl (lv_at hl 1 rfl) ?_
        refine tk_vr (va_runV (As := []) (rest := []) ⟨hx, hb, hml, hown, hts⟩ (c_X7_pass__4 l D cy z H.size Ps ws hw.1 p1 v_3 sg_2 h_p1 r_v_3 m_v_3 o_p1) (cwV 0 hts (gV tw_898 tw_425 tw_426 tw_2 tw_427) rfl rfl rfl (by decide +kernel) ⟨Nat.le_of_ble_eq_true rfl, Nat.le_of_ble_eq_true rfl⟩) (tg_preV hw hK hSD hA (ci := 7) (q := (RX7, TX7, 12)) rfl h_p1 rfl) rfl rfl hl.1 rfl (lv_room (Nat.le_of_ble_eq_true rfl)) dX0_beginsLine_42 ⟨Nat.le_of_ble_eq_true rfl, Nat.le_of_ble_eq_true rfl⟩) hw hA (fun  H locs hp_v_4 hw => ?_)
        obtain ⟨hfn, hp_v_4⟩ := hp_v_4
        refine lv_aload_n hx hb dX0_beginsLine_45 rfl (lv_at hl 1 rfl) ?_
        refine tg_memN (ci := 7) (C := RX7) (T := TX7) (N := 12) hx hb hts inX7 hown hK hw 10 m_v_3 rfl (by decide) (hSD.nest tn_102) (fun _ h9 => h9) dX0_beginsLine_46 ?_
        have q_v_3 : sg_2.1 10 = v_3 := OV.eqI (V := vw_TAPE) hw.2.2.1 o_p1 m_v_3 (by decide)
        refine lv_if_ne (tgt := 56) hx hb dX0_beginsLine_49 (by decide) (fun c_49 => ?_) (fun c_49 => ?_)
        · refine lv_iconst (v := 0) hx hb dX0_beginsLine_56 (by decide) ?_
          simp only [f_X0_beginsLine__7, ↓reduceIte, eq_false c_2, eq_false c_9, eq_false c_16, q_sg_2, q_v_3, eq_false c_49] at hE
          subst hQ
          exact W.zret (v := 0) hx hb hr (rfl) (fun t ht hW => ⟨⟨0, ws, rfl, ⟨⟨⟨(by rw [hR, ← hE]; exact o_p0), (by rw [hR, ← hE]; exact o_p1), (by rw [hR, ← hE]), trivial⟩, rl_0.to (by decide), (fun h0 => ⟨⟨_, m_v_3, r_v_3⟩, trivial⟩), (fun _ => trivial)⟩, hw.1, hw.2.2.2.2.1⟩, by rw [ht]; exact hw.2.1, va_K.moved hW.alike hK, hw.2.2.1⟩, hw.2.2.2.1.F ht⟩) hw.2.2.2.1.2.2 dX0_beginsLine_57
        · have r_v_3 : RI v_3 1 0 := rc_eq1 r_v_3 rl_0 (ti_eq c_49) (by decide)
          exact (r_v_3.no (by decide)).elim
abbrev wr_X7_startText__5 : List (Nat × Nat) := [(7, 3), (7, 4), (7, 5), (7, 6), (7, 7), (7, 8), (7, 9), (7, 10), (7, 11)]
abbrev wa_X7_startText__5 : List Nat := []
set_option maxHeartbeats 4000000 in
set_option maxRecDepth 100000 in
theorem c_X7_startText__5 (l : Launch) (D : va_G) (cy : Nat → ClassId) (z : Nat → Nat) (sz : Nat) (Ps : PSI) (w0 : va_W) (hT : HT cy GG Ps w0) (p0 : Nat) (p1 : Int32) (s0 : OS) (h_p0 : (p0, 26) ∈ Ps) (r_p1 : RI p1 400 400) (o_p0 : OV vw_TAPE Ps w0 p0 s0) : Met l yX7_startText (Cond.code yX7_startText cX7_startText 2 none :: gT) ({ frames := 3, cells := 0, slots := 0, locals := 600 } : Room) (va_Pc [.ref p0, .int p1] (PRE D cy z w0 sz)) (va_Qv (fun (u : va_W) => ((OV vw_TAPE Ps u p0 ((f_X7_startText__3 p1 s0)) ∧ True) ∧ ((∃ v9 : Int32, FLD u p0 7 10 (.int v9) ∧ RI v9 0 0) ∧ True)) ∧ HT cy GG Ps u ∧ FR wr_X7_startText__5 wa_X7_startText__5 Ps w0 u) (BB D cy (va_A w0 sz) (fun (u : va_W) => u)) (va_A w0 sz)) 0 0 (va_A w0 sz) := by
  refine Met.ofW (cc := cX7_startText) (maxL := 2) (ret := none) (by decide) rfl ?_
  intro p e s m args below meth c s₁ B hml hv
  obtain ⟨rfl, hsz, hP, hK, hD0, hSD⟩ := hv
  have hx := B.exec
  have hb := B.bytes
  have hr := B.returns
  have hlocks := B.notSynchronized
  have hts : ∀ w ∈ gT, w.before _ s = true := fun w h => atoms_spec (ws := Cond.code yX7_startText cX7_startText 2 none :: gT) B.pre w (List.mem_cons_of_mem _ h)
  have hown : s.vm.findClass RX7 = some m.cls := findClass_of_methodNamed B.named
  subst hsz
  have hD := hD0.self (sz := s.heap.size)
  generalize hAe : va_A w0 s.heap.size = A at hD hSD ⊢
  have hA : ∀ q : Nat, s.heap.size ≤ q → A q := fun q h => by rw [← hAe]; exact Or.inr h
  have hl := lv_entry ([.ref p0, .int p1]) (n := 2) (Nat.le_of_ble_eq_true rfl)
  rw [lg_entry_eq]
  generalize (lg_sl ([.ref p0, .int p1]) ++ List.replicate (2 - (lg_sl ([.ref p0, .int p1])).length) Slot.unset).toArray = ls at hl ⊢
  have hl : lv_has ls 2 [(0, .ref p0), (1, .int p1)] := hl
  refine nameQ (fun Q hQ => ?_)
  have hw : WD D cy GG A s wr_X7_startText__5 wa_X7_startText__5 Ps w0 Ps w0 s.heap [] := ⟨hT, hP, hD, va_S.rf, FR.rf, hT.1, [], (List.append_nil _).symm⟩
  obtain ⟨R9, hR⟩ : ∃ q9 : OS, f_X7_startText__3 p1 s0 = q9 := ⟨_, rfl⟩
  have hE := hR
  have B33 : ∀ (y0 : Int32) (s0 : OS) (ws : va_W) (H : Heap) (locs : List Loc) (ls : Array Slot), RI p1 400 400 → RI y0 0 940 → OV vw_TAPE Ps ws p0 s0 → f_X7_startText__3_33 p1 y0 s0 = R9 → WD D cy GG A s wr_X7_startText__5 wa_X7_startText__5 Ps w0 Ps ws H locs → lv_has ls 2 [(0, .ref p0), (1, .int p1)] → W p l e (headSpec (Cond.code yX7_startText cX7_startText 2 none :: gT) ({ frames := 3, cells := 0, slots := 0, locals := 600 } : Room)).room s m ([.ref p0, .int p1] : List Value).toArray below meth c H locs 0 0 Q (F0 m 33 ls [.int y0, .ref p0]) := by
    intro y0 s0 ws H locs ls r_p1 r_y0 o_p0 hE hw hl
    refine tg_put (ci := 7) (ts := ty_TAPE) (v := .int y0) (ty := .int) (C := RX7) (T := TX7) (N := 12) hx hb hts inX7 tyX7 tyX7_ok nmX7 hown hK hw h_p0 rfl rfl 3 (by decide) (hts _ tw_91) (fun _ h9 => h9) rfl (by decide +kernel) rfl rfl (ft := vI 0 940) rfl ⟨_, rfl, r_y0⟩ (by decide) dX7_startText_33 (fun ws H locs hw n_k_1 hF9 => ?_)
    obtain ⟨sg_2, q_sg_2⟩ : ∃ q9 : OS, sI s0 3 y0 = q9 := ⟨_, rfl⟩
    have o_p0 : OV vw_TAPE Ps ws p0 sg_2 := by rw [← q_sg_2]; exact OV.putI (V := vw_TAPE) hF9 n_k_1 o_p0 (by decide)
    refine lv_aload_n hx hb dX7_startText_36 rfl (lv_at hl 0 rfl) ?_
    refine lv_iconst (v := 0) hx hb dX7_startText_37 (by decide) ?_
    refine tg_put (ci := 7) (ts := ty_TAPE) (v := .int 0) (ty := .int) (C := RX7) (T := TX7) (N := 12) hx hb hts inX7 tyX7 tyX7_ok nmX7 hown hK hw h_p0 rfl rfl 6 (by decide) (hts _ tw_94) (fun _ h9 => h9) rfl (by decide +kernel) rfl rfl (ft := vI 0 940) rfl ⟨_, rfl, (rl_0.to (by decide))⟩ (by decide) dX7_startText_38 (fun ws H locs hw n_k_3 hF9 => ?_)
    have n_k_1 := FLD.over hF9 n_k_1 (by decide)
    obtain ⟨sg_4, q_sg_4⟩ : ∃ q9 : OS, sI sg_2 6 (0 : Int32) = q9 := ⟨_, rfl⟩
    have o_p0 : OV vw_TAPE Ps ws p0 sg_4 := by rw [← q_sg_4]; exact OV.putI (V := vw_TAPE) hF9 n_k_3 o_p0 (by decide)
    refine lv_aload_n hx hb dX7_startText_41 rfl (lv_at hl 0 rfl) ?_
    refine lv_iconst (v := 0) hx hb dX7_startText_42 (by decide) ?_
    refine tg_put (ci := 7) (ts := ty_TAPE) (v := .int 0) (ty := .int) (C := RX7) (T := TX7) (N := 12) hx hb hts inX7 tyX7 tyX7_ok nmX7 hown hK hw h_p0 rfl rfl 10 (by decide) (hts _ tw_104) (fun _ h9 => h9) rfl (by decide +kernel) rfl rfl (ft := vI 0 4) rfl ⟨_, rfl, (rl_0.to (by decide))⟩ (by decide) dX7_startText_43 (fun ws H locs hw n_k_5 hF9 => ?_)
    have n_k_1 := FLD.over hF9 n_k_1 (by decide)
    have n_k_3 := FLD.over hF9 n_k_3 (by decide)
    obtain ⟨sg_6, q_sg_6⟩ : ∃ q9 : OS, sI sg_4 10 (0 : Int32) = q9 := ⟨_, rfl⟩
    have o_p0 : OV vw_TAPE Ps ws p0 sg_6 := by rw [← q_sg_6]; exact OV.putI (V := vw_TAPE) hF9 n_k_5 o_p0 (by decide)
    refine lv_aload_n hx hb dX7_startText_46 rfl (lv_at hl 0 rfl) ?_
    refine lv_iconst (v := 0) hx hb dX7_startText_47 (by decide) ?_
    refine tg_put (ci := 7) (ts := ty_TAPE) (v := .int 0) (ty := .int) (C := RX7) (T := TX7) (N := 12) hx hb hts inX7 tyX7 tyX7_ok nmX7 hown hK hw h_p0 rfl rfl 11 (by decide) (hts _ tw_108) (fun _ h9 => h9) rfl (by decide +kernel) rfl rfl (ft := vI (-2147483648) 2147483647) rfl ⟨_, rfl, (rl_0.to (by decide))⟩ (by decide) dX7_startText_48 (fun ws H locs hw n_k_7 hF9 => ?_)
    have n_k_1 := FLD.over hF9 n_k_1 (by decide)
    have n_k_3 := FLD.over hF9 n_k_3 (by decide)
    have n_k_5 := FLD.over hF9 n_k_5 (by decide)
    obtain ⟨sg_8, q_sg_8⟩ : ∃ q9 : OS, sI sg_6 11 (0 : Int32) = q9 := ⟨_, rfl⟩
    have o_p0 : OV vw_TAPE Ps ws p0 sg_8 := by rw [← q_sg_8]; exact OV.putI (V := vw_TAPE) hF9 n_k_7 o_p0 (by decide)
    refine lv_aload_n hx hb dX7_startText_51 rfl (lv_at hl 0 rfl) ?_
    refine tk_v (va_runV (As := []) (rest := []) ⟨hx, hb, hml, hown, hts⟩ (c_X7_pass__5 l D cy z H.size Ps ws hw.1 p0 0 sg_8 h_p0 rl_0 n_k_5 o_p0) (cwV 0 hts (gV tw_424 tw_425 tw_426 tw_2 tw_427) rfl rfl rfl (by decide +kernel) ⟨Nat.le_of_ble_eq_true rfl, Nat.le_of_ble_eq_true rfl⟩) (tg_preV hw hK hSD hA (ci := 7) (q := (RX7, TX7, 12)) rfl h_p0 rfl) rfl rfl hl.1 rfl (lv_room (Nat.le_of_ble_eq_true rfl)) dX7_startText_52 ⟨Nat.le_of_ble_eq_true rfl, Nat.le_of_ble_eq_true rfl⟩) hw hA ⟨by decide, by decide⟩ (fun ws H locs hp_v_9 hw hF9 => ?_)
    have n_k_1 := FLD.over hF9 n_k_1 (by decide)
    have n_k_5 := FLD.over hF9 n_k_5 (by decide)
    have n_k_7 := FLD.over hF9 n_k_7 (by decide)
    obtain ⟨hfn, hp_v_9⟩ := hp_v_9
    obtain ⟨sg_10, q_sg_10⟩ : ∃ q9 : OS, (f_X7_pass__5 sg_8) = q9 := ⟨_, rfl⟩
    have o_p0 : OV vw_TAPE Ps ws p0 sg_10 := by rw [← q_sg_10]; exact hfn.1
    obtain ⟨v_11, m_v_11, r_v_11⟩ := (hp_v_9.1)
    simp only [f_X7_startText__3_33, ↓reduceIte, q_sg_2, q_sg_4, q_sg_6, q_sg_8, q_sg_10] at hE
    subst hQ
    exact W.vret hx hb hr (fun t ht hW => ⟨⟨ws, rfl, ⟨⟨⟨(by rw [hR, ← hE]; exact o_p0), trivial⟩, ⟨⟨_, m_v_11, r_v_11⟩, trivial⟩⟩, hw.1, hw.2.2.2.2.1⟩, by rw [ht]; exact hw.2.1, va_K.moved hW.alike hK, hw.2.2.1⟩, hw.2.2.2.1.F ht⟩) hw.2.2.2.1.2.2 dX7_startText_55
  have B14 : ∀ (y0 : Int32) (s0 : OS) (ws : va_W) (H : Heap) (locs : List Loc) (ls : Array Slot), RI p1 400 400 → RI y0 0 1 → OV vw_TAPE Ps ws p0 s0 → f_X7_startText__3_14 p1 y0 s0 = R9 → WD D cy GG A s wr_X7_startText__5 wa_X7_startText__5 Ps w0 Ps ws H locs → lv_has ls 2 [(0, .ref p0), (1, .int p1)] → W p l e (headSpec (Cond.code yX7_startText cX7_startText 2 none :: gT) ({ frames := 3, cells := 0, slots := 0, locals := 600 } : Room)).room s m ([.ref p0, .int p1] : List Value).toArray below meth c H locs 0 0 Q (F0 m 14 ls [.int y0, .ref p0]) := by
    intro y0 s0 ws H locs ls r_p1 r_y0 o_p0 hE hw hl
    refine tg_put (ci := 7) (ts := ty_TAPE) (v := .int y0) (ty := .boolean) (C := RX7) (T := TX7) (N := 12) hx hb hts inX7 tyX7 tyX7_ok nmX7 hown hK hw h_p0 rfl rfl 4 (by decide) (hts _ tw_92) (fun _ h9 => h9) rfl (by decide +kernel) (tq_nz r_y0) (tq_fz r_y0) (ft := vI 0 1) rfl ⟨_, rfl, r_y0⟩ (by decide) dX7_startText_14 (fun ws H locs hw n_k_12 hF9 => ?_)
    obtain ⟨sg_13, q_sg_13⟩ : ∃ q9 : OS, sI s0 4 y0 = q9 := ⟨_, rfl⟩
    have o_p0 : OV vw_TAPE Ps ws p0 sg_13 := by rw [← q_sg_13]; exact OV.putI (V := vw_TAPE) hF9 n_k_12 o_p0 (by decide)
    refine lv_aload_n hx hb dX7_startText_17 rfl (lv_at hl 0 rfl) ?_
    refine lv_aload_n hx hb dX7_startText_18 rfl (lv_at hl 0 rfl) ?_
    refine tg_mem (ci := 7) (C := RX7) (T := TX7) (N := 12) hx hb hts inX7 hown hK hw 4 n_k_12 rfl (by decide) (hts _ tw_92) (fun _ h9 => h9) dX7_startText_19 ?_
    refine lv_if_eq (tgt := 29) hx hb dX7_startText_22 (by decide) (fun c_22 => ?_) (fun c_22 => ?_)
    · have r_y0 : RI y0 0 0 := rc_eq1 r_y0 rl_0 (ti_eq c_22) (by decide)
      refine lv_aload_n hx hb dX7_startText_29 rfl (lv_at hl 0 rfl) ?_
      refine tg_get (ci := 7) (ts := ty_TAPE) (C := RX7) (T := TX7) (N := 12) hx hb hts inX7 hown hK hw h_p0 rfl rfl 2 (by decide) (hts _ tw_89) (fun _ h9 => h9) (ft := vI 0 940) rfl dX7_startText_30 (fun u_14 hv_u_14 m_u_14 => ?_)
      obtain ⟨vu_14, rfl, r_vu_14⟩ := hv_u_14
      have q_vu_14 : sg_13.1 2 = vu_14 := OV.eqI (V := vw_TAPE) hw.2.2.1 o_p0 m_u_14 (by decide)
      simp only [f_X7_startText__3_14, ↓reduceIte, q_sg_13, eq_true c_22, q_vu_14] at hE
      exact B33 vu_14 sg_13 ws _ _ ls r_p1 r_vu_14 o_p0 hE hw hl
    · have r_y0 : RI y0 1 1 := rc_neL r_y0 rl_0 (ti_ne c_22) (by decide)
      refine lv_iload_n hx hb dX7_startText_25 rfl (lv_at hl 1 rfl) ?_
      refine lv_goto (tgt := 33) hx hb dX7_startText_26 (by decide) ?_
      simp only [f_X7_startText__3_14, ↓reduceIte, q_sg_13, eq_false c_22] at hE
      exact B33 p1 sg_13 ws _ _ ls r_p1 (r_p1.to (by decide)) o_p0 hE hw hl
  refine lv_aload_n hx hb dX7_startText_0 rfl (lv_at hl 0 rfl) ?_
  refine lv_aload_n hx hb dX7_startText_1 rfl (lv_at hl 0 rfl) ?_
  refine tg_get (ci := 7) (ts := ty_TAPE) (C := RX7) (T := TX7) (N := 12) hx hb hts inX7 hown hK hw h_p0 rfl rfl 2 (by decide) (hts _ tw_89) (fun _ h9 => h9) (ft := vI 0 940) rfl dX7_startText_2 (fun u_15 hv_u_15 m_u_15 => ?_)
  obtain ⟨vu_15, rfl, r_vu_15⟩ := hv_u_15
  have q_vu_15 : s0.1 2 = vu_15 := OV.eqI (V := vw_TAPE) hw.2.2.1 o_p0 m_u_15 (by decide)
  refine lv_iload_n hx hb dX7_startText_5 rfl (lv_at hl 1 rfl) ?_
  refine lv_icmp_le (tgt := 13) hx hb dX7_startText_6 (by decide) (fun c_6 => ?_) (fun c_6 => ?_)
  · have r_vu_15 : RI vu_15 0 400 := rc_le1 r_vu_15 r_p1 (ti_le c_6) (by decide)
    refine lv_iconst (v := 0) hx hb dX7_startText_13 (by decide) ?_
    simp only [f_X7_startText__3, ↓reduceIte, q_vu_15, eq_true c_6] at hE
    exact B14 0 s0 w0 _ _ ls r_p1 (rl_0.to (by decide)) o_p0 hE hw hl
  · have r_vu_15 : RI vu_15 401 940 := rc_lt2 r_p1 r_vu_15 (ti_nle c_6) (by decide)
    refine lv_iconst (v := 1) hx hb dX7_startText_9 (by decide) ?_
    refine lv_goto (tgt := 14) hx hb dX7_startText_10 (by decide) ?_
    simp only [f_X7_startText__3, ↓reduceIte, q_vu_15, eq_false c_6] at hE
    exact B14 1 s0 w0 _ _ ls r_p1 (rl_1.to (by decide)) o_p0 hE hw hl
abbrev wr_X0_read__1 : List (Nat × Nat) := [(0, 3), (7, 3), (7, 4), (7, 5), (7, 6), (7, 7), (7, 8), (7, 9), (7, 10), (7, 11)]
abbrev wa_X0_read__1 : List Nat := [18, 19, 20]
set_option maxHeartbeats 4000000 in
set_option maxRecDepth 100000 in
theorem c_X0_read__1 (l : Launch) (D : va_G) (cy : Nat → ClassId) (z : Nat → Nat) (sz : Nat) (Ps : PSI) (w0 : va_W) (hT : HT cy GG Ps w0) (p0 : Nat) (p1 : Nat) (p2 : Nat) (s0 : OS) (s1 : OS) (s2 : OS) (h_p0 : (p0, 31) ∈ Ps) (h_p1 : (p1, 26) ∈ Ps) (h_p2 : (p2, 25) ∈ Ps) (o_p0 : OV vw_BOOK Ps w0 p0 s0) (o_p1 : OV vw_TAPE Ps w0 p1 s1) (o_p2 : OV vw_POST Ps w0 p2 s2) : Met l yX0_read (Cond.code yX0_read cX0_read 6 none :: gT) ({ frames := 5, cells := 0, slots := 0, locals := 1000 } : Room) (va_Pc [.ref p0, .ref p1, .ref p2] (PRE D cy z w0 sz)) (va_Qv (fun (u : va_W) => ((OV vw_BOOK Ps u p0 ((f_X0_read__1 s0 s1 s2).1) ∧ OV vw_TAPE Ps u p1 ((f_X0_read__1 s0 s1 s2).2.1) ∧ OV vw_POST Ps u p2 ((f_X0_read__1 s0 s1 s2).2.2) ∧ True) ∧ (JB Ps u p1 p0 ∧ True)) ∧ HT cy GG Ps u ∧ FR wr_X0_read__1 wa_X0_read__1 Ps w0 u) (BB D cy (va_A w0 sz) (fun (u : va_W) => u)) (va_A w0 sz)) 0 0 (va_A w0 sz) := by
  refine Met.ofW (cc := cX0_read) (maxL := 6) (ret := none) (by decide) rfl ?_
  intro p e s m args below meth c s₁ B hml hv
  obtain ⟨rfl, hsz, hP, hK, hD0, hSD⟩ := hv
  have hx := B.exec
  have hb := B.bytes
  have hr := B.returns
  have hlocks := B.notSynchronized
  have hts : ∀ w ∈ gT, w.before _ s = true := fun w h => atoms_spec (ws := Cond.code yX0_read cX0_read 6 none :: gT) B.pre w (List.mem_cons_of_mem _ h)
  have hown : s.vm.findClass RX0 = some m.cls := findClass_of_methodNamed B.named
  subst hsz
  have hD := hD0.self (sz := s.heap.size)
  generalize hAe : va_A w0 s.heap.size = A at hD hSD ⊢
  have hA : ∀ q : Nat, s.heap.size ≤ q → A q := fun q h => by rw [← hAe]; exact Or.inr h
  have hl := lv_entry ([.ref p0, .ref p1, .ref p2]) (n := 6) (Nat.le_of_ble_eq_true rfl)
  rw [lg_entry_eq]
  generalize (lg_sl ([.ref p0, .ref p1, .ref p2]) ++ List.replicate (6 - (lg_sl ([.ref p0, .ref p1, .ref p2])).length) Slot.unset).toArray = ls at hl ⊢
  have hl : lv_has ls 6 [(0, .ref p0), (1, .ref p1), (2, .ref p2)] := hl
  refine nameQ (fun Q hQ => ?_)
  have hw : WD D cy GG A s wr_X0_read__1 wa_X0_read__1 Ps w0 Ps w0 s.heap [] := ⟨hT, hP, hD, va_S.rf, FR.rf, hT.1, [], (List.append_nil _).symm⟩
  obtain ⟨R9, hR⟩ : ∃ q9 : OS × OS × OS, f_X0_read__1 s0 s1 s2 = q9 := ⟨_, rfl⟩
  have hE := hR
  have B14 : ∀ (nf : Nat) (x3 : Int32) (s0 : OS) (s1 : OS) (s2 : OS) (ws : va_W) (H : Heap) (locs : List Loc) (ls : Array Slot), 41 - x3.toInt < (nf : Int) → RI x3 0 41 → JB Ps ws p1 p0 → OV vw_BOOK Ps ws p0 s0 → OV vw_TAPE Ps ws p1 s1 → OV vw_POST Ps ws p2 s2 → f_X0_read__1_14 nf x3 s0 s1 s2 = R9 → WD D cy GG A s wr_X0_read__1 wa_X0_read__1 Ps w0 Ps ws H locs → lv_has ls 6 [(0, .ref p0), (1, .ref p1), (2, .ref p2), (3, .int x3)] → W p l e (headSpec (Cond.code yX0_read cX0_read 6 none :: gT) ({ frames := 5, cells := 0, slots := 0, locals := 1000 } : Room)).room s m ([.ref p0, .ref p1, .ref p2] : List Value).toArray below meth c H locs 0 0 Q (F0 m 14 ls []) := by
    intro nf14
    induction nf14 with
    | zero =>
      intro x3 s0 s1 s2 ws H locs ls hn14 r_x3 x_JB_p1_p0 o_p0 o_p1 o_p2 hE hw hl
      exact absurd hn14 (by have q0 := r_x3.1; have u0 := r_x3.2; omega)
    | succ nf14 ih14 =>
      intro x3 s0 s1 s2 ws H locs ls hn14 r_x3 x_JB_p1_p0 o_p0 o_p1 o_p2 hE hw hl
      refine lv_iload_n hx hb dX0_read_14 rfl (lv_at hl 3 rfl) ?_
      refine lv_bipush (v := 40) hx hb dX0_read_15 (by decide) ?_
      refine lv_icmp_gt (tgt := 99) hx hb dX0_read_17 (by decide) (fun c_17 => ?_) (fun c_17 => ?_)
      · have r_x3 : RI x3 41 41 := rc_lt2 rl_40 r_x3 (ti_lt c_17) (by decide)
        simp only [f_X0_read__1_14, ↓reduceIte, eq_true c_17] at hE
        subst hQ
        exact W.vret hx hb hr (fun t ht hW => ⟨⟨ws, rfl, ⟨⟨⟨(by rw [hR, ← hE]; exact o_p0), (by rw [hR, ← hE]; exact o_p1), (by rw [hR, ← hE]; exact o_p2), trivial⟩, ⟨x_JB_p1_p0, trivial⟩⟩, hw.1, hw.2.2.2.2.1⟩, by rw [ht]; exact hw.2.1, va_K.moved hW.alike hK, hw.2.2.1⟩, hw.2.2.2.1.F ht⟩) hw.2.2.2.1.2.2 dX0_read_99
      · have r_x3 : RI x3 0 40 := rc_le1 r_x3 rl_40 (ti_nlt c_17) (by decide)
        refine lv_aload_n hx hb dX0_read_20 rfl (lv_at hl 1 rfl) ?_
        rcases x_JB_p1_p0 with x_FLT_p1 | x_BG_p0
        · obtain ⟨v_1, m_v_1, r_v_1⟩ := id x_FLT_p1
          have f9_v_1 := flt_nz hw.2.2.1 m_v_1 o_p1 r_v_1
          refine tk_ir (va_runV (As := []) (rest := []) ⟨hx, hb, hml, hown, hts⟩ (c_X7_goesOn__4 l D cy z H.size Ps ws hw.1 p1 v_1 s1 h_p1 r_v_1 m_v_1 o_p1) (cwV 0 hts (gV tw_891 tw_439 tw_440 tw_2 tw_441) rfl rfl rfl (by decide +kernel) ⟨Nat.le_of_ble_eq_true rfl, Nat.le_of_ble_eq_true rfl⟩) (tg_preV hw hK hSD hA (ci := 7) (q := (RX7, TX7, 12)) rfl h_p1 rfl) rfl rfl hl.1 rfl (lv_room (Nat.le_of_ble_eq_true rfl)) dX0_read_21 ⟨Nat.le_of_ble_eq_true rfl, Nat.le_of_ble_eq_true rfl⟩) hw hA (fun v_2  H locs hp_v_2 hw => ?_)
          obtain ⟨hfn, hp_v_2⟩ := hp_v_2
          have q_v_2 : (f_X7_goesOn__4 s1) = v_2 := hfn.1
          have r_v_2 : RI v_2 0 0 := hp_v_2.1
          refine lv_if_eq (tgt := 99) hx hb dX0_read_24 (by decide) (fun c_24 => ?_) (fun c_24 => ?_)
          · have x_JB_p1_p0 : JB Ps ws p1 p0 := Or.inl ⟨_, m_v_1, r_v_1.to (by decide)⟩
            simp only [f_X0_read__1_14, ↓reduceIte, eq_false c_17, gs_b0 f9_v_1, pon_b0 f9_v_1, q_v_2, eq_true c_24] at hE
            subst hQ
            exact W.vret hx hb hr (fun t ht hW => ⟨⟨ws, rfl, ⟨⟨⟨(by rw [hR, ← hE]; exact o_p0), (by rw [hR, ← hE]; exact o_p1), (by rw [hR, ← hE]; exact o_p2), trivial⟩, ⟨x_JB_p1_p0, trivial⟩⟩, hw.1, hw.2.2.2.2.1⟩, by rw [ht]; exact hw.2.1, va_K.moved hW.alike hK, hw.2.2.1⟩, hw.2.2.2.1.F ht⟩) hw.2.2.2.1.2.2 dX0_read_99
          · exact absurd (r_v_2.eq.trans rl_0.eq.symm) ((ti_ne c_24))
        · refine tk_i (va_runV (As := []) (rest := []) ⟨hx, hb, hml, hown, hts⟩ (c_X7_goesOn__3 l D cy z H.size Ps ws hw.1 p1 s1 h_p1 o_p1) (cwV 0 hts (gV tw_891 tw_439 tw_440 tw_2 tw_441) rfl rfl rfl (by decide +kernel) ⟨Nat.le_of_ble_eq_true rfl, Nat.le_of_ble_eq_true rfl⟩) (tg_preV hw hK hSD hA (ci := 7) (q := (RX7, TX7, 12)) rfl h_p1 rfl) rfl rfl hl.1 rfl (lv_room (Nat.le_of_ble_eq_true rfl)) dX0_read_21 ⟨Nat.le_of_ble_eq_true rfl, Nat.le_of_ble_eq_true rfl⟩) hw hA ⟨by decide, by decide⟩ (fun v_3 ws H locs hp_v_3 hw hF9 => ?_)
          have x_BG_p0 := B3.over hF9 x_BG_p0 (by decide)
          obtain ⟨hfn, hp_v_3⟩ := hp_v_3
          have o_p0 := OV.over (V := vw_BOOK) hF9 o_p0 (by decide)
          have o_p2 := OV.over (V := vw_POST) hF9 o_p2 (by decide)
          obtain ⟨sg_4, q_sg_4⟩ : ∃ q9 : OS, (f_X7_goesOn__3 s1).1 = q9 := ⟨_, rfl⟩
          have o_p1 : OV vw_TAPE Ps ws p1 sg_4 := by rw [← q_sg_4]; exact hfn.1
          have q_v_3 : (f_X7_goesOn__3 s1).2 = v_3 := hfn.2.1
          have r_v_3 : RI v_3 0 1 := hp_v_3.1
          by_cases c9_v_3 : v_3 = 0
          · have r_v_3 : RI v_3 0 0 := by rw [c9_v_3]; exact rl_0
            refine lv_if_eq (tgt := 99) hx hb dX0_read_24 (by decide) (fun c_24 => ?_) (fun c_24 => ?_)
            · have x_JB_p1_p0 : JB Ps ws p1 p0 := Or.inr x_BG_p0
              simp only [f_X0_read__1_14, ↓reduceIte, eq_false c_17, q_sg_4, q_v_3, eq_true c9_v_3, eq_true c_24] at hE
              subst hQ
              exact W.vret hx hb hr (fun t ht hW => ⟨⟨ws, rfl, ⟨⟨⟨(by rw [hR, ← hE]; exact o_p0), (by rw [hR, ← hE]; exact o_p1), (by rw [hR, ← hE]; exact o_p2), trivial⟩, ⟨x_JB_p1_p0, trivial⟩⟩, hw.1, hw.2.2.2.2.1⟩, by rw [ht]; exact hw.2.1, va_K.moved hW.alike hK, hw.2.2.1⟩, hw.2.2.2.1.F ht⟩) hw.2.2.2.1.2.2 dX0_read_99
            · exact absurd (r_v_3.eq.trans rl_0.eq.symm) ((ti_ne c_24))
          · have r_v_3 : RI v_3 1 1 := rc_neL r_v_3 rl_0 (ti_ne c9_v_3) (by decide)
            obtain ⟨v_5, m_v_5, r_v_5⟩ := ((hp_v_3.2.2 c9_v_3).1)
            refine lv_if_eq (tgt := 99) hx hb dX0_read_24 (by decide) (fun c_24 => ?_) (fun c_24 => ?_)
            · have r_v_3 : RI v_3 1 0 := rc_eq1 r_v_3 rl_0 (ti_eq c_24) (by decide)
              exact (r_v_3.no (by decide)).elim
            · refine lv_aload_n hx hb dX0_read_27 rfl (lv_at hl 1 rfl) ?_
              refine tg_getN (ci := 7) (ts := ty_TAPE) (C := RX7) (T := TX7) (N := 12) hx hb hts inX7 hown hK hw h_p1 rfl rfl 7 (by decide) (hSD.nest tn_95) (fun _ h9 => h9) (ft := vI (-2147483648) 2147483647) rfl dX0_read_28 (fun u_6 hv_u_6 m_u_6 => ?_)
              obtain ⟨vu_6, rfl, r_vu_6⟩ := hv_u_6
              have q_vu_6 : sg_4.1 7 = vu_6 := OV.eqI (V := vw_TAPE) hw.2.2.1 o_p1 m_u_6 (by decide)
              refine lv_istore (lv' := [(4, .int vu_6), (0, .ref p0), (1, .ref p1), (2, .ref p2), (3, .int x3)]) hx hb dX0_read_31 hl (by decide) rfl (fun ls hl => ?_)
              rcases (show ((-2147483648) ≤ vu_6.toInt ∧ vu_6.toInt ≤ 1) ∨ (2 ≤ vu_6.toInt ∧ vu_6.toInt ≤ 2) ∨ (3 ≤ vu_6.toInt ∧ vu_6.toInt ≤ 140) ∨ (141 ≤ vu_6.toInt ∧ vu_6.toInt ≤ 143) ∨ (144 ≤ vu_6.toInt ∧ vu_6.toInt ≤ 2147483647) by have k1 := r_vu_6.1; have k2 := r_vu_6.2; omega) with h_9 | h_9 | h_9 | h_9 | h_9
              · have r_vu_6 : RI vu_6 (-2147483648) 1 := h_9
                have k9_9 := h_9
                refine lv_iload hx hb dX0_read_33 (lv_at hl 0 rfl) ?_
                refine lv_iconst (v := 2) hx hb dX0_read_35 (by decide) ?_
                refine lv_icmp_ne (tgt := 48) hx hb dX0_read_36 (by decide) (fun c_36 => ?_) (fun c_36 => ?_)
                · refine lv_iconst (v := (-1)) hx hb dX0_read_48 (by decide) ?_
                  refine lv_istore (lv' := [(5, .int (-1)), (4, .int vu_6), (0, .ref p0), (1, .ref p1), (2, .ref p2), (3, .int x3)]) hx hb dX0_read_49 hl (by decide) rfl (fun ls hl => ?_)
                  refine lv_aload_n hx hb dX0_read_51 rfl (lv_at hl 2 rfl) ?_
                  refine lv_aload_n hx hb dX0_read_52 rfl (lv_at hl 3 rfl) ?_
                  refine lv_iload hx hb dX0_read_53 (lv_at hl 1 rfl) ?_
                  refine tk_i (va_runV (As := [.ref p1, .int vu_6]) (rest := []) ⟨hx, hb, hml, hown, hts⟩ (c_X0_beginsLine__7 l D cy z H.size Ps ws hw.1 p0 p1 vu_6 v_5 s0 sg_4 h_p0 h_p1 r_vu_6 r_v_5 m_v_5 o_p0 o_p1) (cwV 2 hts (gV tw_893 tw_895 ts_26 tw_7 tw_896) rfl rfl rfl (by decide +kernel) ⟨Nat.le_of_ble_eq_true rfl, Nat.le_of_ble_eq_true rfl⟩) (tg_preV hw hK hSD hA (ci := 0) (q := (RX0, TX0, 5)) rfl h_p0 rfl) rfl rfl hl.1 rfl (lv_room (Nat.le_of_ble_eq_true rfl)) dX0_read_55 ⟨Nat.le_of_ble_eq_true rfl, Nat.le_of_ble_eq_true rfl⟩) hw hA ⟨by decide, by decide⟩ (fun v_7 ws H locs hp_v_7 hw hF9 => ?_)
                  have m_u_6 := FLD.over hF9 m_u_6 (by decide)
                  have x_BG_p0 := B3.over hF9 x_BG_p0 (by decide)
                  obtain ⟨hfn, hp_v_7⟩ := hp_v_7
                  have o_p2 := OV.over (V := vw_POST) hF9 o_p2 (by decide)
                  obtain ⟨sg_8, q_sg_8⟩ : ∃ q9 : OS, (f_X0_beginsLine__7 vu_6 s0 sg_4).1 = q9 := ⟨_, rfl⟩
                  have o_p0 : OV vw_BOOK Ps ws p0 sg_8 := by rw [← q_sg_8]; exact hfn.1
                  obtain ⟨sg_9, q_sg_9⟩ : ∃ q9 : OS, (f_X0_beginsLine__7 vu_6 s0 sg_4).2.1 = q9 := ⟨_, rfl⟩
                  have o_p1 : OV vw_TAPE Ps ws p1 sg_9 := by rw [← q_sg_9]; exact hfn.2.1
                  have q_v_7 : (f_X0_beginsLine__7 vu_6 s0 sg_4).2.2 = v_7 := hfn.2.2.1
                  have r_v_7 : RI v_7 0 0 := hp_v_7.1
                  by_cases c9_v_7 : v_7 = 0
                  · have r_v_7 : RI v_7 0 0 := by rw [c9_v_7]; exact rl_0
                    obtain ⟨v_10, m_v_10, r_v_10⟩ := ((hp_v_7.2.1 c9_v_7).1)
                    refine lv_if_ne (tgt := 62) hx hb dX0_read_58 (by decide) (fun c_58 => ?_) (fun c_58 => ?_)
                    · exact absurd (r_v_7.eq.trans rl_0.eq.symm) ((ti_ne c_58))
                    · have x_JB_p1_p0 : JB Ps ws p1 p0 := Or.inr x_BG_p0
                      simp only [f_X0_read__1_14, ↓reduceIte, eq_false c_17, q_sg_4, q_v_3, eq_false c9_v_3, eq_false c_24, q_vu_6, eq_true k9_9, eq_false c_36, q_sg_8, q_sg_9, q_v_7, eq_true c9_v_7, eq_true c_58] at hE
                      subst hQ
                      exact W.vret hx hb hr (fun t ht hW => ⟨⟨ws, rfl, ⟨⟨⟨(by rw [hR, ← hE]; exact o_p0), (by rw [hR, ← hE]; exact o_p1), (by rw [hR, ← hE]; exact o_p2), trivial⟩, ⟨x_JB_p1_p0, trivial⟩⟩, hw.1, hw.2.2.2.2.1⟩, by rw [ht]; exact hw.2.1, va_K.moved hW.alike hK, hw.2.2.1⟩, hw.2.2.2.1.F ht⟩) hw.2.2.2.1.2.2 dX0_read_61
                  · exact absurd (Int32.toInt_inj.mp (by rw [Int32.toInt_zero]; unfold RI at r_v_7; omega)) c9_v_7
                · have r_vu_6 : RI vu_6 2 1 := rc_eq1 r_vu_6 rl_2 (ti_eq c_36) (by decide)
                  exact (r_vu_6.no (by decide)).elim
              · have r_vu_6 : RI vu_6 2 2 := h_9
                have n9_0 : ¬ ((-2147483648) ≤ vu_6.toInt ∧ vu_6.toInt ≤ 1) := by omega
                have k9_9 := h_9
                refine lv_iload hx hb dX0_read_33 (lv_at hl 0 rfl) ?_
                refine lv_iconst (v := 2) hx hb dX0_read_35 (by decide) ?_
                refine lv_icmp_ne (tgt := 48) hx hb dX0_read_36 (by decide) (fun c_36 => ?_) (fun c_36 => ?_)
                · exact absurd (r_vu_6.eq.trans rl_2.eq.symm) ((ti_ne c_36))
                · refine lv_aload_n hx hb dX0_read_39 rfl (lv_at hl 2 rfl) ?_
                  refine lv_aload_n hx hb dX0_read_40 rfl (lv_at hl 3 rfl) ?_
                  refine lv_iconst (v := 3) hx hb dX0_read_41 (by decide) ?_
                  refine tk_i (va_runV (As := [.ref p2, .int 3]) (rest := []) ⟨hx, hb, hml, hown, hts⟩ (c_X7_nameAhead__19 l D cy z H.size Ps ws hw.1 p1 p2 3 v_5 sg_4 s2 h_p1 h_p2 rl_3 r_v_5 m_v_5 o_p1 o_p2) (cwV 2 hts (gV tw_892 tw_457 tw_458 tw_2 tw_459) rfl rfl rfl (by decide +kernel) ⟨Nat.le_of_ble_eq_true rfl, Nat.le_of_ble_eq_true rfl⟩) (tg_preV hw hK hSD hA (ci := 7) (q := (RX7, TX7, 12)) rfl h_p1 rfl) rfl rfl hl.1 rfl (lv_room (Nat.le_of_ble_eq_true rfl)) dX0_read_42 ⟨Nat.le_of_ble_eq_true rfl, Nat.le_of_ble_eq_true rfl⟩) hw hA ⟨by decide, by decide⟩ (fun v_11 ws H locs hp_v_11 hw hF9 => ?_)
                  have m_u_6 := FLD.over hF9 m_u_6 (by decide)
                  have x_BG_p0 := B3.over hF9 x_BG_p0 (by decide)
                  obtain ⟨hfn, hp_v_11⟩ := hp_v_11
                  have o_p0 := OV.over (V := vw_BOOK) hF9 o_p0 (by decide)
                  obtain ⟨sg_12, q_sg_12⟩ : ∃ q9 : OS, (f_X7_nameAhead__12 (3 : Int32) sg_4 s2).1 = q9 := ⟨_, rfl⟩
                  have o_p1 : OV vw_TAPE Ps ws p1 sg_12 := by rw [← q_sg_12]; exact hfn.1
                  obtain ⟨sg_13, q_sg_13⟩ : ∃ q9 : OS, (f_X7_nameAhead__12 (3 : Int32) sg_4 s2).2.1 = q9 := ⟨_, rfl⟩
                  have o_p2 : OV vw_POST Ps ws p2 sg_13 := by rw [← q_sg_13]; exact hfn.2.1
                  have q_v_11 : (f_X7_nameAhead__12 (3 : Int32) sg_4 s2).2.2 = v_11 := hfn.2.2.1
                  have r_v_11 : RI v_11 (-1) 7 := hp_v_11.1
                  by_cases c9_v_11 : v_11.toInt < 0
                  · have r_v_11 : RI v_11 (-1) (-1) := by unfold RI at r_v_11 ⊢; omega
                    have x_FLT_p1 := (hp_v_11.2.2.2.2.1 (by omega)).1
                    obtain ⟨v_14, m_v_14, r_v_14⟩ := id x_FLT_p1
                    refine lv_goto (tgt := 49) hx hb dX0_read_45 (by decide) ?_
                    refine lv_istore (lv' := [(5, .int v_11), (4, .int vu_6), (0, .ref p0), (1, .ref p1), (2, .ref p2), (3, .int x3)]) hx hb dX0_read_49 hl (by decide) rfl (fun ls hl => ?_)
                    refine lv_aload_n hx hb dX0_read_51 rfl (lv_at hl 2 rfl) ?_
                    refine lv_aload_n hx hb dX0_read_52 rfl (lv_at hl 3 rfl) ?_
                    refine lv_iload hx hb dX0_read_53 (lv_at hl 1 rfl) ?_
                    refine tk_ir (va_runV (As := [.ref p1, .int vu_6]) (rest := []) ⟨hx, hb, hml, hown, hts⟩ (c_X0_beginsLine__8 l D cy z H.size Ps ws hw.1 p0 p1 vu_6 v_14 s0 sg_12 h_p0 h_p1 r_vu_6 r_v_14 m_v_14 o_p0 o_p1) (cwV 2 hts (gV tw_893 tw_895 ts_26 tw_7 tw_896) rfl rfl rfl (by decide +kernel) ⟨Nat.le_of_ble_eq_true rfl, Nat.le_of_ble_eq_true rfl⟩) (tg_preV hw hK hSD hA (ci := 0) (q := (RX0, TX0, 5)) rfl h_p0 rfl) rfl rfl hl.1 rfl (lv_room (Nat.le_of_ble_eq_true rfl)) dX0_read_55 ⟨Nat.le_of_ble_eq_true rfl, Nat.le_of_ble_eq_true rfl⟩) hw hA (fun v_15  H locs hp_v_15 hw => ?_)
                    obtain ⟨hfn, hp_v_15⟩ := hp_v_15
                    have q_v_15 : (f_X0_beginsLine__8 vu_6 s0 sg_12) = v_15 := hfn.1
                    have r_v_15 : RI v_15 0 0 := hp_v_15.1
                    refine lv_if_ne (tgt := 62) hx hb dX0_read_58 (by decide) (fun c_58 => ?_) (fun c_58 => ?_)
                    · exact absurd (r_v_15.eq.trans rl_0.eq.symm) ((ti_ne c_58))
                    · have x_JB_p1_p0 : JB Ps ws p1 p0 := Or.inr x_BG_p0
                      simp only [f_X0_read__1_14, ↓reduceIte, eq_false c_17, q_sg_4, q_v_3, eq_false c9_v_3, eq_false c_24, q_vu_6, eq_false n9_0, eq_true k9_9, eq_true c_36, q_sg_12, q_sg_13, q_v_11, eq_true c9_v_11, q_v_15, eq_true c_58] at hE
                      subst hQ
                      exact W.vret hx hb hr (fun t ht hW => ⟨⟨ws, rfl, ⟨⟨⟨(by rw [hR, ← hE]; exact o_p0), (by rw [hR, ← hE]; exact o_p1), (by rw [hR, ← hE]; exact o_p2), trivial⟩, ⟨x_JB_p1_p0, trivial⟩⟩, hw.1, hw.2.2.2.2.1⟩, by rw [ht]; exact hw.2.1, va_K.moved hW.alike hK, hw.2.2.1⟩, hw.2.2.2.1.F ht⟩) hw.2.2.2.1.2.2 dX0_read_61
                  · have r_v_11 : RI v_11 0 7 := by unfold RI at r_v_11 ⊢; omega
                    refine lv_goto (tgt := 49) hx hb dX0_read_45 (by decide) ?_
                    refine lv_istore (lv' := [(5, .int v_11), (4, .int vu_6), (0, .ref p0), (1, .ref p1), (2, .ref p2), (3, .int x3)]) hx hb dX0_read_49 hl (by decide) rfl (fun ls hl => ?_)
                    refine lv_aload_n hx hb dX0_read_51 rfl (lv_at hl 2 rfl) ?_
                    refine lv_aload_n hx hb dX0_read_52 rfl (lv_at hl 3 rfl) ?_
                    refine lv_iload hx hb dX0_read_53 (lv_at hl 1 rfl) ?_
                    refine tk_i (va_runV (As := [.ref p1, .int vu_6]) (rest := []) ⟨hx, hb, hml, hown, hts⟩ (c_X0_beginsLine__9 l D cy z H.size Ps ws hw.1 p0 p1 vu_6 s0 sg_12 h_p0 h_p1 r_vu_6 o_p0 o_p1) (cwV 2 hts (gV tw_893 tw_895 ts_26 tw_7 tw_896) rfl rfl rfl (by decide +kernel) ⟨Nat.le_of_ble_eq_true rfl, Nat.le_of_ble_eq_true rfl⟩) (tg_preV hw hK hSD hA (ci := 0) (q := (RX0, TX0, 5)) rfl h_p0 rfl) rfl rfl hl.1 rfl (lv_room (Nat.le_of_ble_eq_true rfl)) dX0_read_55 ⟨Nat.le_of_ble_eq_true rfl, Nat.le_of_ble_eq_true rfl⟩) hw hA ⟨by decide, by decide⟩ (fun v_16 ws H locs hp_v_16 hw hF9 => ?_)
                    have x_BG_p0 := B3.over hF9 x_BG_p0 (by decide)
                    obtain ⟨hfn, hp_v_16⟩ := hp_v_16
                    have o_p2 := OV.over (V := vw_POST) hF9 o_p2 (by decide)
                    obtain ⟨sg_17, q_sg_17⟩ : ∃ q9 : OS, (f_X0_beginsLine__9 vu_6 s0 sg_12).1 = q9 := ⟨_, rfl⟩
                    have o_p0 : OV vw_BOOK Ps ws p0 sg_17 := by rw [← q_sg_17]; exact hfn.1
                    obtain ⟨sg_18, q_sg_18⟩ : ∃ q9 : OS, (f_X0_beginsLine__9 vu_6 s0 sg_12).2.1 = q9 := ⟨_, rfl⟩
                    have o_p1 : OV vw_TAPE Ps ws p1 sg_18 := by rw [← q_sg_18]; exact hfn.2.1
                    have q_v_16 : (f_X0_beginsLine__9 vu_6 s0 sg_12).2.2 = v_16 := hfn.2.2.1
                    have r_v_16 : RI v_16 0 1 := hp_v_16.1
                    by_cases c9_v_16 : v_16 = 0
                    · have r_v_16 : RI v_16 0 0 := by rw [c9_v_16]; exact rl_0
                      obtain ⟨v_19, m_v_19, r_v_19⟩ := ((hp_v_16.2.1 c9_v_16).1)
                      refine lv_if_ne (tgt := 62) hx hb dX0_read_58 (by decide) (fun c_58 => ?_) (fun c_58 => ?_)
                      · exact absurd (r_v_16.eq.trans rl_0.eq.symm) ((ti_ne c_58))
                      · have x_JB_p1_p0 : JB Ps ws p1 p0 := Or.inr x_BG_p0
                        simp only [f_X0_read__1_14, ↓reduceIte, eq_false c_17, q_sg_4, q_v_3, eq_false c9_v_3, eq_false c_24, q_vu_6, eq_false n9_0, eq_true k9_9, eq_true c_36, q_sg_12, q_sg_13, q_v_11, eq_false c9_v_11, q_sg_17, q_sg_18, q_v_16, eq_true c9_v_16, eq_true c_58] at hE
                        subst hQ
                        exact W.vret hx hb hr (fun t ht hW => ⟨⟨ws, rfl, ⟨⟨⟨(by rw [hR, ← hE]; exact o_p0), (by rw [hR, ← hE]; exact o_p1), (by rw [hR, ← hE]; exact o_p2), trivial⟩, ⟨x_JB_p1_p0, trivial⟩⟩, hw.1, hw.2.2.2.2.1⟩, by rw [ht]; exact hw.2.1, va_K.moved hW.alike hK, hw.2.2.1⟩, hw.2.2.2.1.F ht⟩) hw.2.2.2.1.2.2 dX0_read_61
                    · have r_v_16 : RI v_16 1 1 := rc_neL r_v_16 rl_0 (ti_ne c9_v_16) (by decide)
                      obtain ⟨v_20, m_v_20, r_v_20⟩ := ((hp_v_16.2.2 c9_v_16).1)
                      obtain ⟨v_21, m_v_21, r_v_21⟩ := ((hp_v_16.2.2 c9_v_16).2.1)
                      refine lv_if_ne (tgt := 62) hx hb dX0_read_58 (by decide) (fun c_58 => ?_) (fun c_58 => ?_)
                      · refine lv_iload hx hb dX0_read_62 (lv_at hl 0 rfl) ?_
                        refine lv_iconst (v := (-1)) hx hb dX0_read_64 (by decide) ?_
                        refine lv_icmp_eq (tgt := 79) hx hb dX0_read_65 (by decide) (fun c_65 => ?_) (fun c_65 => ?_)
                        · have r_v_11 : RI v_11 0 (-1) := rc_eq1 r_v_11 rl_m1 (ti_eq c_65) (by decide)
                          exact (r_v_11.no (by decide)).elim
                        · refine lv_aload_n hx hb dX0_read_68 rfl (lv_at hl 2 rfl) ?_
                          refine lv_aload_n hx hb dX0_read_69 rfl (lv_at hl 3 rfl) ?_
                          refine lv_aload_n hx hb dX0_read_70 rfl (lv_at hl 4 rfl) ?_
                          refine lv_iload hx hb dX0_read_71 (lv_at hl 0 rfl) ?_
                          refine tk_v (va_runV (As := [.ref p1, .ref p2, .int v_11]) (rest := []) ⟨hx, hb, hml, hown, hts⟩ (c_X0_readVerb__1 l D cy z H.size Ps ws hw.1 p0 p1 p2 v_11 sg_17 sg_18 sg_13 h_p0 h_p1 h_p2 r_v_11 x_BG_p0 o_p0 o_p1 o_p2) (cwV 3 hts (gV tw_899 tw_901 ts_27 tw_7 tw_902) rfl rfl rfl (by decide +kernel) ⟨Nat.le_of_ble_eq_true rfl, Nat.le_of_ble_eq_true rfl⟩) (tg_preV hw hK hSD hA (ci := 0) (q := (RX0, TX0, 5)) rfl h_p0 rfl) rfl rfl hl.1 rfl (lv_room (Nat.le_of_ble_eq_true rfl)) dX0_read_73 ⟨Nat.le_of_ble_eq_true rfl, Nat.le_of_ble_eq_true rfl⟩) hw hA ⟨by decide, by decide⟩ (fun ws H locs hp_v_22 hw hF9 => ?_)
                          obtain ⟨hfn, hp_v_22⟩ := hp_v_22
                          obtain ⟨sg_23, q_sg_23⟩ : ∃ q9 : OS, (f_X0_readVerb__1 v_11 sg_17 sg_18 sg_13).1 = q9 := ⟨_, rfl⟩
                          have o_p0 : OV vw_BOOK Ps ws p0 sg_23 := by rw [← q_sg_23]; exact hfn.1
                          obtain ⟨sg_24, q_sg_24⟩ : ∃ q9 : OS, (f_X0_readVerb__1 v_11 sg_17 sg_18 sg_13).2.1 = q9 := ⟨_, rfl⟩
                          have o_p1 : OV vw_TAPE Ps ws p1 sg_24 := by rw [← q_sg_24]; exact hfn.2.1
                          obtain ⟨sg_25, q_sg_25⟩ : ∃ q9 : OS, (f_X0_readVerb__1 v_11 sg_17 sg_18 sg_13).2.2 = q9 := ⟨_, rfl⟩
                          have o_p2 : OV vw_POST Ps ws p2 sg_25 := by rw [← q_sg_25]; exact hfn.2.2.1
                          obtain ⟨v_26, m_v_26, r_v_26⟩ := (hp_v_22.1)
                          have x_JB_p1_p0 := (hp_v_22.2.1)
                          refine lv_goto (tgt := 87) hx hb dX0_read_76 (by decide) ?_
                          rcases x_JB_p1_p0 with x_FLT_p1 | x_BG_p0
                          · obtain ⟨v_27, m_v_27, r_v_27⟩ := id x_FLT_p1
                            have f9_v_27 := flt_nz hw.2.2.1 m_v_27 o_p1 r_v_27
                            refine lv_aload_n hx hb dX0_read_87 rfl (lv_at hl 3 rfl) ?_
                            refine lv_bipush (v := 59) hx hb dX0_read_88 (by decide) ?_
                            refine tk_vr (va_runV (As := [.int 59]) (rest := []) ⟨hx, hb, hml, hown, hts⟩ (c_X7_passOnly__4 l D cy z H.size Ps ws hw.1 p1 59 v_27 sg_24 h_p1 (rl_59.to (by decide)) r_v_27 m_v_27 o_p1) (cwV 1 hts (gV tw_913 tw_514 tw_515 tw_2 tw_516) rfl rfl rfl (by decide +kernel) ⟨Nat.le_of_ble_eq_true rfl, Nat.le_of_ble_eq_true rfl⟩) (tg_preV hw hK hSD hA (ci := 7) (q := (RX7, TX7, 12)) rfl h_p1 rfl) rfl rfl hl.1 rfl (lv_room (Nat.le_of_ble_eq_true rfl)) dX0_read_90 ⟨Nat.le_of_ble_eq_true rfl, Nat.le_of_ble_eq_true rfl⟩) hw hA (fun  H locs hp_v_28 hw => ?_)
                            obtain ⟨hfn, hp_v_28⟩ := hp_v_28
                            obtain ⟨v_29, e_v_29⟩ : ∃ q9 : Int32, q9 = x3 + Int32.ofInt 1 := ⟨_, rfl⟩
                            obtain ⟨t_v_29, r_v_29⟩ := tq_add (lo := 1) (hi := 41) r_x3 (show RI (Int32.ofInt 1) 1 1 by unfold RI; decide +kernel) (by decide +kernel) e_v_29
                            have t_v_29 : v_29.toInt = x3.toInt + 1 := t_v_29
                            refine lv_iinc (v := v_29) (lv' := [(3, .int v_29), (5, .int v_11), (4, .int vu_6), (0, .ref p0), (1, .ref p1), (2, .ref p2)]) hx hb dX0_read_93 hl (k := 5) rfl e_v_29.symm (by decide) rfl (fun ls hl => ?_)
                            have q_v_29 : x3 + (1 : Int32) = v_29 := by rw [e_v_29, show Int32.ofInt 1 = (1 : Int32) by decide]
                            refine lv_goto (tgt := 14) hx hb dX0_read_96 (by decide) ?_
                            simp only [f_X0_read__1_14, ↓reduceIte, eq_false c_17, q_sg_4, q_v_3, eq_false c9_v_3, eq_false c_24, q_vu_6, eq_false n9_0, eq_true k9_9, eq_true c_36, q_sg_12, q_sg_13, q_v_11, eq_false c9_v_11, q_sg_17, q_sg_18, q_v_16, eq_false c9_v_16, eq_false c_58, eq_false c_65, q_sg_23, q_sg_24, q_sg_25, gs_b0 f9_v_27, pon_b0 f9_v_27, q_v_29] at hE
                            have x_JB_p1_p0 : JB Ps ws p1 p0 := Or.inl ⟨_, m_v_27, r_v_27.to (by decide)⟩
                            exact ih14 v_29 sg_23 sg_24 sg_25 ws _ _ ls (by have q0 := r_v_29.1; have u0 := r_v_29.2; have o0 := r_x3.1; have p0 := r_x3.2; omega) (r_v_29.to (by decide)) x_JB_p1_p0 o_p0 o_p1 o_p2 hE hw (lv_sub hl [3, 4, 5, 0] rfl)
                          · refine lv_aload_n hx hb dX0_read_87 rfl (lv_at hl 3 rfl) ?_
                            refine lv_bipush (v := 59) hx hb dX0_read_88 (by decide) ?_
                            refine tk_v (va_runV (As := [.int 59]) (rest := []) ⟨hx, hb, hml, hown, hts⟩ (c_X7_passOnly__3 l D cy z H.size Ps ws hw.1 p1 59 sg_24 h_p1 (rl_59.to (by decide)) o_p1) (cwV 1 hts (gV tw_913 tw_514 tw_515 tw_2 tw_516) rfl rfl rfl (by decide +kernel) ⟨Nat.le_of_ble_eq_true rfl, Nat.le_of_ble_eq_true rfl⟩) (tg_preV hw hK hSD hA (ci := 7) (q := (RX7, TX7, 12)) rfl h_p1 rfl) rfl rfl hl.1 rfl (lv_room (Nat.le_of_ble_eq_true rfl)) dX0_read_90 ⟨Nat.le_of_ble_eq_true rfl, Nat.le_of_ble_eq_true rfl⟩) hw hA ⟨by decide, by decide⟩ (fun ws H locs hp_v_30 hw hF9 => ?_)
                            have m_v_26 := FLD.over hF9 m_v_26 (by decide)
                            have x_BG_p0 := B3.over hF9 x_BG_p0 (by decide)
                            obtain ⟨hfn, hp_v_30⟩ := hp_v_30
                            have o_p0 := OV.over (V := vw_BOOK) hF9 o_p0 (by decide)
                            have o_p2 := OV.over (V := vw_POST) hF9 o_p2 (by decide)
                            obtain ⟨sg_31, q_sg_31⟩ : ∃ q9 : OS, (f_X7_passOnly__3 (59 : Int32) sg_24) = q9 := ⟨_, rfl⟩
                            have o_p1 : OV vw_TAPE Ps ws p1 sg_31 := by rw [← q_sg_31]; exact hfn.1
                            obtain ⟨v_32, e_v_32⟩ : ∃ q9 : Int32, q9 = x3 + Int32.ofInt 1 := ⟨_, rfl⟩
                            obtain ⟨t_v_32, r_v_32⟩ := tq_add (lo := 1) (hi := 41) r_x3 (show RI (Int32.ofInt 1) 1 1 by unfold RI; decide +kernel) (by decide +kernel) e_v_32
                            have t_v_32 : v_32.toInt = x3.toInt + 1 := t_v_32
                            refine lv_iinc (v := v_32) (lv' := [(3, .int v_32), (5, .int v_11), (4, .int vu_6), (0, .ref p0), (1, .ref p1), (2, .ref p2)]) hx hb dX0_read_93 hl (k := 5) rfl e_v_32.symm (by decide) rfl (fun ls hl => ?_)
                            have q_v_32 : x3 + (1 : Int32) = v_32 := by rw [e_v_32, show Int32.ofInt 1 = (1 : Int32) by decide]
                            refine lv_goto (tgt := 14) hx hb dX0_read_96 (by decide) ?_
                            simp only [f_X0_read__1_14, ↓reduceIte, eq_false c_17, q_sg_4, q_v_3, eq_false c9_v_3, eq_false c_24, q_vu_6, eq_false n9_0, eq_true k9_9, eq_true c_36, q_sg_12, q_sg_13, q_v_11, eq_false c9_v_11, q_sg_17, q_sg_18, q_v_16, eq_false c9_v_16, eq_false c_58, eq_false c_65, q_sg_23, q_sg_24, q_sg_25, q_sg_31, q_v_32] at hE
                            have x_JB_p1_p0 : JB Ps ws p1 p0 := Or.inr x_BG_p0
                            exact ih14 v_32 sg_23 sg_31 sg_25 ws _ _ ls (by have q0 := r_v_32.1; have u0 := r_v_32.2; have o0 := r_x3.1; have p0 := r_x3.2; omega) (r_v_32.to (by decide)) x_JB_p1_p0 o_p0 o_p1 o_p2 hE hw (lv_sub hl [3, 4, 5, 0] rfl)
                      · have r_v_16 : RI v_16 1 0 := rc_eq1 r_v_16 rl_0 (ti_eq c_58) (by decide)
                        exact (r_v_16.no (by decide)).elim
              · have r_vu_6 : RI vu_6 3 140 := h_9
                have n9_0 : ¬ ((-2147483648) ≤ vu_6.toInt ∧ vu_6.toInt ≤ 1) := by omega
                have n9_1 : ¬ (2 ≤ vu_6.toInt ∧ vu_6.toInt ≤ 2) := by omega
                have k9_9 := h_9
                refine lv_iload hx hb dX0_read_33 (lv_at hl 0 rfl) ?_
                refine lv_iconst (v := 2) hx hb dX0_read_35 (by decide) ?_
                refine lv_icmp_ne (tgt := 48) hx hb dX0_read_36 (by decide) (fun c_36 => ?_) (fun c_36 => ?_)
                · refine lv_iconst (v := (-1)) hx hb dX0_read_48 (by decide) ?_
                  refine lv_istore (lv' := [(5, .int (-1)), (4, .int vu_6), (0, .ref p0), (1, .ref p1), (2, .ref p2), (3, .int x3)]) hx hb dX0_read_49 hl (by decide) rfl (fun ls hl => ?_)
                  refine lv_aload_n hx hb dX0_read_51 rfl (lv_at hl 2 rfl) ?_
                  refine lv_aload_n hx hb dX0_read_52 rfl (lv_at hl 3 rfl) ?_
                  refine lv_iload hx hb dX0_read_53 (lv_at hl 1 rfl) ?_
                  refine tk_i (va_runV (As := [.ref p1, .int vu_6]) (rest := []) ⟨hx, hb, hml, hown, hts⟩ (c_X0_beginsLine__10 l D cy z H.size Ps ws hw.1 p0 p1 vu_6 v_5 s0 sg_4 h_p0 h_p1 r_vu_6 r_v_5 m_v_5 o_p0 o_p1) (cwV 2 hts (gV tw_893 tw_895 ts_26 tw_7 tw_896) rfl rfl rfl (by decide +kernel) ⟨Nat.le_of_ble_eq_true rfl, Nat.le_of_ble_eq_true rfl⟩) (tg_preV hw hK hSD hA (ci := 0) (q := (RX0, TX0, 5)) rfl h_p0 rfl) rfl rfl hl.1 rfl (lv_room (Nat.le_of_ble_eq_true rfl)) dX0_read_55 ⟨Nat.le_of_ble_eq_true rfl, Nat.le_of_ble_eq_true rfl⟩) hw hA ⟨by decide, by decide⟩ (fun v_33 ws H locs hp_v_33 hw hF9 => ?_)
                  have m_u_6 := FLD.over hF9 m_u_6 (by decide)
                  have x_BG_p0 := B3.over hF9 x_BG_p0 (by decide)
                  obtain ⟨hfn, hp_v_33⟩ := hp_v_33
                  have o_p2 := OV.over (V := vw_POST) hF9 o_p2 (by decide)
                  obtain ⟨sg_34, q_sg_34⟩ : ∃ q9 : OS, (f_X0_beginsLine__7 vu_6 s0 sg_4).1 = q9 := ⟨_, rfl⟩
                  have o_p0 : OV vw_BOOK Ps ws p0 sg_34 := by rw [← q_sg_34]; exact hfn.1
                  obtain ⟨sg_35, q_sg_35⟩ : ∃ q9 : OS, (f_X0_beginsLine__7 vu_6 s0 sg_4).2.1 = q9 := ⟨_, rfl⟩
                  have o_p1 : OV vw_TAPE Ps ws p1 sg_35 := by rw [← q_sg_35]; exact hfn.2.1
                  have q_v_33 : (f_X0_beginsLine__7 vu_6 s0 sg_4).2.2 = v_33 := hfn.2.2.1
                  have r_v_33 : RI v_33 0 0 := hp_v_33.1
                  by_cases c9_v_33 : v_33 = 0
                  · have r_v_33 : RI v_33 0 0 := by rw [c9_v_33]; exact rl_0
                    obtain ⟨v_36, m_v_36, r_v_36⟩ := ((hp_v_33.2.1 c9_v_33).1)
                    refine lv_if_ne (tgt := 62) hx hb dX0_read_58 (by decide) (fun c_58 => ?_) (fun c_58 => ?_)
                    · exact absurd (r_v_33.eq.trans rl_0.eq.symm) ((ti_ne c_58))
                    · have x_JB_p1_p0 : JB Ps ws p1 p0 := Or.inr x_BG_p0
                      simp only [f_X0_read__1_14, ↓reduceIte, eq_false c_17, q_sg_4, q_v_3, eq_false c9_v_3, eq_false c_24, q_vu_6, eq_false n9_0, eq_false n9_1, eq_true k9_9, eq_false c_36, q_sg_34, q_sg_35, q_v_33, eq_true c9_v_33, eq_true c_58] at hE
                      subst hQ
                      exact W.vret hx hb hr (fun t ht hW => ⟨⟨ws, rfl, ⟨⟨⟨(by rw [hR, ← hE]; exact o_p0), (by rw [hR, ← hE]; exact o_p1), (by rw [hR, ← hE]; exact o_p2), trivial⟩, ⟨x_JB_p1_p0, trivial⟩⟩, hw.1, hw.2.2.2.2.1⟩, by rw [ht]; exact hw.2.1, va_K.moved hW.alike hK, hw.2.2.1⟩, hw.2.2.2.1.F ht⟩) hw.2.2.2.1.2.2 dX0_read_61
                  · exact absurd (Int32.toInt_inj.mp (by rw [Int32.toInt_zero]; unfold RI at r_v_33; omega)) c9_v_33
                · have r_vu_6 : RI vu_6 3 2 := rc_eq1 r_vu_6 rl_2 (ti_eq c_36) (by decide)
                  exact (r_vu_6.no (by decide)).elim
              · have r_vu_6 : RI vu_6 141 143 := h_9
                have n9_0 : ¬ ((-2147483648) ≤ vu_6.toInt ∧ vu_6.toInt ≤ 1) := by omega
                have n9_1 : ¬ (2 ≤ vu_6.toInt ∧ vu_6.toInt ≤ 2) := by omega
                have n9_2 : ¬ (3 ≤ vu_6.toInt ∧ vu_6.toInt ≤ 140) := by omega
                have k9_9 := h_9
                refine lv_iload hx hb dX0_read_33 (lv_at hl 0 rfl) ?_
                refine lv_iconst (v := 2) hx hb dX0_read_35 (by decide) ?_
                refine lv_icmp_ne (tgt := 48) hx hb dX0_read_36 (by decide) (fun c_36 => ?_) (fun c_36 => ?_)
                · refine lv_iconst (v := (-1)) hx hb dX0_read_48 (by decide) ?_
                  refine lv_istore (lv' := [(5, .int (-1)), (4, .int vu_6), (0, .ref p0), (1, .ref p1), (2, .ref p2), (3, .int x3)]) hx hb dX0_read_49 hl (by decide) rfl (fun ls hl => ?_)
                  refine lv_aload_n hx hb dX0_read_51 rfl (lv_at hl 2 rfl) ?_
                  refine lv_aload_n hx hb dX0_read_52 rfl (lv_at hl 3 rfl) ?_
                  refine lv_iload hx hb dX0_read_53 (lv_at hl 1 rfl) ?_
                  refine tk_i (va_runV (As := [.ref p1, .int vu_6]) (rest := []) ⟨hx, hb, hml, hown, hts⟩ (c_X0_beginsLine__11 l D cy z H.size Ps ws hw.1 p0 p1 vu_6 v_5 s0 sg_4 h_p0 h_p1 r_vu_6 r_v_5 m_v_5 o_p0 o_p1) (cwV 2 hts (gV tw_893 tw_895 ts_26 tw_7 tw_896) rfl rfl rfl (by decide +kernel) ⟨Nat.le_of_ble_eq_true rfl, Nat.le_of_ble_eq_true rfl⟩) (tg_preV hw hK hSD hA (ci := 0) (q := (RX0, TX0, 5)) rfl h_p0 rfl) rfl rfl hl.1 rfl (lv_room (Nat.le_of_ble_eq_true rfl)) dX0_read_55 ⟨Nat.le_of_ble_eq_true rfl, Nat.le_of_ble_eq_true rfl⟩) hw hA ⟨by decide, by decide⟩ (fun v_37 ws H locs hp_v_37 hw hF9 => ?_)
                  have x_BG_p0 := B3.over hF9 x_BG_p0 (by decide)
                  obtain ⟨hfn, hp_v_37⟩ := hp_v_37
                  have o_p2 := OV.over (V := vw_POST) hF9 o_p2 (by decide)
                  obtain ⟨sg_38, q_sg_38⟩ : ∃ q9 : OS, (f_X0_beginsLine__11 vu_6 s0 sg_4).1 = q9 := ⟨_, rfl⟩
                  have o_p0 : OV vw_BOOK Ps ws p0 sg_38 := by rw [← q_sg_38]; exact hfn.1
                  obtain ⟨sg_39, q_sg_39⟩ : ∃ q9 : OS, (f_X0_beginsLine__11 vu_6 s0 sg_4).2.1 = q9 := ⟨_, rfl⟩
                  have o_p1 : OV vw_TAPE Ps ws p1 sg_39 := by rw [← q_sg_39]; exact hfn.2.1
                  have q_v_37 : (f_X0_beginsLine__11 vu_6 s0 sg_4).2.2 = v_37 := hfn.2.2.1
                  have r_v_37 : RI v_37 0 1 := hp_v_37.1
                  by_cases c9_v_37 : v_37 = 0
                  · have r_v_37 : RI v_37 0 0 := by rw [c9_v_37]; exact rl_0
                    obtain ⟨v_40, m_v_40, r_v_40⟩ := ((hp_v_37.2.1 c9_v_37).1)
                    obtain ⟨v_41, m_v_41, r_v_41⟩ := ((hp_v_37.2.1 c9_v_37).2.1)
                    refine lv_if_ne (tgt := 62) hx hb dX0_read_58 (by decide) (fun c_58 => ?_) (fun c_58 => ?_)
                    · exact absurd (r_v_37.eq.trans rl_0.eq.symm) ((ti_ne c_58))
                    · have x_JB_p1_p0 : JB Ps ws p1 p0 := Or.inr x_BG_p0
                      simp only [f_X0_read__1_14, ↓reduceIte, eq_false c_17, q_sg_4, q_v_3, eq_false c9_v_3, eq_false c_24, q_vu_6, eq_false n9_0, eq_false n9_1, eq_false n9_2, eq_true k9_9, eq_false c_36, q_sg_38, q_sg_39, q_v_37, eq_true c9_v_37, eq_true c_58] at hE
                      subst hQ
                      exact W.vret hx hb hr (fun t ht hW => ⟨⟨ws, rfl, ⟨⟨⟨(by rw [hR, ← hE]; exact o_p0), (by rw [hR, ← hE]; exact o_p1), (by rw [hR, ← hE]; exact o_p2), trivial⟩, ⟨x_JB_p1_p0, trivial⟩⟩, hw.1, hw.2.2.2.2.1⟩, by rw [ht]; exact hw.2.1, va_K.moved hW.alike hK, hw.2.2.1⟩, hw.2.2.2.1.F ht⟩) hw.2.2.2.1.2.2 dX0_read_61
                  · have r_v_37 : RI v_37 1 1 := rc_neL r_v_37 rl_0 (ti_ne c9_v_37) (by decide)
                    obtain ⟨v_42, m_v_42, r_v_42⟩ := ((hp_v_37.2.2 c9_v_37).1)
                    obtain ⟨v_43, m_v_43, r_v_43⟩ := ((hp_v_37.2.2 c9_v_37).2.1)
                    refine lv_if_ne (tgt := 62) hx hb dX0_read_58 (by decide) (fun c_58 => ?_) (fun c_58 => ?_)
                    · refine lv_iload hx hb dX0_read_62 (lv_at hl 0 rfl) ?_
                      refine lv_iconst (v := (-1)) hx hb dX0_read_64 (by decide) ?_
                      refine lv_icmp_eq (tgt := 79) hx hb dX0_read_65 (by decide) (fun _ => ?_) (fun c9 => absurd (by decide) c9)
                      refine lv_aload_n hx hb dX0_read_79 rfl (lv_at hl 2 rfl) ?_
                      refine lv_aload_n hx hb dX0_read_80 rfl (lv_at hl 3 rfl) ?_
                      refine lv_aload_n hx hb dX0_read_81 rfl (lv_at hl 4 rfl) ?_
                      refine lv_iload hx hb dX0_read_82 (lv_at hl 1 rfl) ?_
                      refine tk_v (va_runV (As := [.ref p1, .ref p2, .int vu_6]) (rest := []) ⟨hx, hb, hml, hown, hts⟩ (c_X0_readOther__1 l D cy z H.size Ps ws hw.1 p0 p1 p2 vu_6 sg_38 sg_39 s2 h_p0 h_p1 h_p2 r_vu_6 x_BG_p0 o_p0 o_p1 o_p2) (cwV 3 hts (gV tw_908 tw_910 ts_29 tw_7 tw_911) rfl rfl rfl (by decide +kernel) ⟨Nat.le_of_ble_eq_true rfl, Nat.le_of_ble_eq_true rfl⟩) (tg_preV hw hK hSD hA (ci := 0) (q := (RX0, TX0, 5)) rfl h_p0 rfl) rfl rfl hl.1 rfl (lv_room (Nat.le_of_ble_eq_true rfl)) dX0_read_84 ⟨Nat.le_of_ble_eq_true rfl, Nat.le_of_ble_eq_true rfl⟩) hw hA ⟨by decide, by decide⟩ (fun ws H locs hp_v_44 hw hF9 => ?_)
                      obtain ⟨hfn, hp_v_44⟩ := hp_v_44
                      obtain ⟨sg_45, q_sg_45⟩ : ∃ q9 : OS, (f_X0_readOther__1 vu_6 sg_38 sg_39 s2).1 = q9 := ⟨_, rfl⟩
                      have o_p0 : OV vw_BOOK Ps ws p0 sg_45 := by rw [← q_sg_45]; exact hfn.1
                      obtain ⟨sg_46, q_sg_46⟩ : ∃ q9 : OS, (f_X0_readOther__1 vu_6 sg_38 sg_39 s2).2.1 = q9 := ⟨_, rfl⟩
                      have o_p1 : OV vw_TAPE Ps ws p1 sg_46 := by rw [← q_sg_46]; exact hfn.2.1
                      obtain ⟨sg_47, q_sg_47⟩ : ∃ q9 : OS, (f_X0_readOther__1 vu_6 sg_38 sg_39 s2).2.2 = q9 := ⟨_, rfl⟩
                      have o_p2 : OV vw_POST Ps ws p2 sg_47 := by rw [← q_sg_47]; exact hfn.2.2.1
                      obtain ⟨v_48, m_v_48, r_v_48⟩ := (hp_v_44.1)
                      have x_JB_p1_p0 := (hp_v_44.2.1)
                      rcases x_JB_p1_p0 with x_FLT_p1 | x_BG_p0
                      · obtain ⟨v_49, m_v_49, r_v_49⟩ := id x_FLT_p1
                        have f9_v_49 := flt_nz hw.2.2.1 m_v_49 o_p1 r_v_49
                        refine lv_aload_n hx hb dX0_read_87 rfl (lv_at hl 3 rfl) ?_
                        refine lv_bipush (v := 59) hx hb dX0_read_88 (by decide) ?_
                        refine tk_vr (va_runV (As := [.int 59]) (rest := []) ⟨hx, hb, hml, hown, hts⟩ (c_X7_passOnly__4 l D cy z H.size Ps ws hw.1 p1 59 v_49 sg_46 h_p1 (rl_59.to (by decide)) r_v_49 m_v_49 o_p1) (cwV 1 hts (gV tw_913 tw_514 tw_515 tw_2 tw_516) rfl rfl rfl (by decide +kernel) ⟨Nat.le_of_ble_eq_true rfl, Nat.le_of_ble_eq_true rfl⟩) (tg_preV hw hK hSD hA (ci := 7) (q := (RX7, TX7, 12)) rfl h_p1 rfl) rfl rfl hl.1 rfl (lv_room (Nat.le_of_ble_eq_true rfl)) dX0_read_90 ⟨Nat.le_of_ble_eq_true rfl, Nat.le_of_ble_eq_true rfl⟩) hw hA (fun  H locs hp_v_50 hw => ?_)
                        obtain ⟨hfn, hp_v_50⟩ := hp_v_50
                        obtain ⟨v_51, e_v_51⟩ : ∃ q9 : Int32, q9 = x3 + Int32.ofInt 1 := ⟨_, rfl⟩
                        obtain ⟨t_v_51, r_v_51⟩ := tq_add (lo := 1) (hi := 41) r_x3 (show RI (Int32.ofInt 1) 1 1 by unfold RI; decide +kernel) (by decide +kernel) e_v_51
                        have t_v_51 : v_51.toInt = x3.toInt + 1 := t_v_51
                        refine lv_iinc (v := v_51) (lv' := [(3, .int v_51), (5, .int (-1)), (4, .int vu_6), (0, .ref p0), (1, .ref p1), (2, .ref p2)]) hx hb dX0_read_93 hl (k := 5) rfl e_v_51.symm (by decide) rfl (fun ls hl => ?_)
                        have q_v_51 : x3 + (1 : Int32) = v_51 := by rw [e_v_51, show Int32.ofInt 1 = (1 : Int32) by decide]
                        refine lv_goto (tgt := 14) hx hb dX0_read_96 (by decide) ?_
                        simp only [f_X0_read__1_14, ↓reduceIte, eq_false c_17, q_sg_4, q_v_3, eq_false c9_v_3, eq_false c_24, q_vu_6, eq_false n9_0, eq_false n9_1, eq_false n9_2, eq_true k9_9, eq_false c_36, q_sg_38, q_sg_39, q_v_37, eq_false c9_v_37, eq_false c_58, q_sg_45, q_sg_46, q_sg_47, gs_b0 f9_v_49, pon_b0 f9_v_49, q_v_51] at hE
                        have x_JB_p1_p0 : JB Ps ws p1 p0 := Or.inl ⟨_, m_v_49, r_v_49.to (by decide)⟩
                        exact ih14 v_51 sg_45 sg_46 sg_47 ws _ _ ls (by have q0 := r_v_51.1; have u0 := r_v_51.2; have o0 := r_x3.1; have p0 := r_x3.2; omega) (r_v_51.to (by decide)) x_JB_p1_p0 o_p0 o_p1 o_p2 hE hw (lv_sub hl [3, 4, 5, 0] rfl)
                      · refine lv_aload_n hx hb dX0_read_87 rfl (lv_at hl 3 rfl) ?_
                        refine lv_bipush (v := 59) hx hb dX0_read_88 (by decide) ?_
                        refine tk_v (va_runV (As := [.int 59]) (rest := []) ⟨hx, hb, hml, hown, hts⟩ (c_X7_passOnly__3 l D cy z H.size Ps ws hw.1 p1 59 sg_46 h_p1 (rl_59.to (by decide)) o_p1) (cwV 1 hts (gV tw_913 tw_514 tw_515 tw_2 tw_516) rfl rfl rfl (by decide +kernel) ⟨Nat.le_of_ble_eq_true rfl, Nat.le_of_ble_eq_true rfl⟩) (tg_preV hw hK hSD hA (ci := 7) (q := (RX7, TX7, 12)) rfl h_p1 rfl) rfl rfl hl.1 rfl (lv_room (Nat.le_of_ble_eq_true rfl)) dX0_read_90 ⟨Nat.le_of_ble_eq_true rfl, Nat.le_of_ble_eq_true rfl⟩) hw hA ⟨by decide, by decide⟩ (fun ws H locs hp_v_52 hw hF9 => ?_)
                        have m_v_48 := FLD.over hF9 m_v_48 (by decide)
                        have x_BG_p0 := B3.over hF9 x_BG_p0 (by decide)
                        obtain ⟨hfn, hp_v_52⟩ := hp_v_52
                        have o_p0 := OV.over (V := vw_BOOK) hF9 o_p0 (by decide)
                        have o_p2 := OV.over (V := vw_POST) hF9 o_p2 (by decide)
                        obtain ⟨sg_53, q_sg_53⟩ : ∃ q9 : OS, (f_X7_passOnly__3 (59 : Int32) sg_46) = q9 := ⟨_, rfl⟩
                        have o_p1 : OV vw_TAPE Ps ws p1 sg_53 := by rw [← q_sg_53]; exact hfn.1
                        obtain ⟨v_54, e_v_54⟩ : ∃ q9 : Int32, q9 = x3 + Int32.ofInt 1 := ⟨_, rfl⟩
                        obtain ⟨t_v_54, r_v_54⟩ := tq_add (lo := 1) (hi := 41) r_x3 (show RI (Int32.ofInt 1) 1 1 by unfold RI; decide +kernel) (by decide +kernel) e_v_54
                        have t_v_54 : v_54.toInt = x3.toInt + 1 := t_v_54
                        refine lv_iinc (v := v_54) (lv' := [(3, .int v_54), (5, .int (-1)), (4, .int vu_6), (0, .ref p0), (1, .ref p1), (2, .ref p2)]) hx hb dX0_read_93 hl (k := 5) rfl e_v_54.symm (by decide) rfl (fun ls hl => ?_)
                        have q_v_54 : x3 + (1 : Int32) = v_54 := by rw [e_v_54, show Int32.ofInt 1 = (1 : Int32) by decide]
                        refine lv_goto (tgt := 14) hx hb dX0_read_96 (by decide) ?_
                        simp only [f_X0_read__1_14, ↓reduceIte, eq_false c_17, q_sg_4, q_v_3, eq_false c9_v_3, eq_false c_24, q_vu_6, eq_false n9_0, eq_false n9_1, eq_false n9_2, eq_true k9_9, eq_false c_36, q_sg_38, q_sg_39, q_v_37, eq_false c9_v_37, eq_false c_58, q_sg_45, q_sg_46, q_sg_47, q_sg_53, q_v_54] at hE
                        have x_JB_p1_p0 : JB Ps ws p1 p0 := Or.inr x_BG_p0
                        exact ih14 v_54 sg_45 sg_53 sg_47 ws _ _ ls (by have q0 := r_v_54.1; have u0 := r_v_54.2; have o0 := r_x3.1; have p0 := r_x3.2; omega) (r_v_54.to (by decide)) x_JB_p1_p0 o_p0 o_p1 o_p2 hE hw (lv_sub hl [3, 4, 5, 0] rfl)
                    · have r_v_37 : RI v_37 1 0 := rc_eq1 r_v_37 rl_0 (ti_eq c_58) (by decide)
                      exact (r_v_37.no (by decide)).elim
                · have r_vu_6 : RI vu_6 141 2 := rc_eq1 r_vu_6 rl_2 (ti_eq c_36) (by decide)
                  exact (r_vu_6.no (by decide)).elim
              · have r_vu_6 : RI vu_6 144 2147483647 := h_9
                have n9_0 : ¬ ((-2147483648) ≤ vu_6.toInt ∧ vu_6.toInt ≤ 1) := by omega
                have n9_1 : ¬ (2 ≤ vu_6.toInt ∧ vu_6.toInt ≤ 2) := by omega
                have n9_2 : ¬ (3 ≤ vu_6.toInt ∧ vu_6.toInt ≤ 140) := by omega
                have n9_3 : ¬ (141 ≤ vu_6.toInt ∧ vu_6.toInt ≤ 143) := by omega
                refine lv_iload hx hb dX0_read_33 (lv_at hl 0 rfl) ?_
                refine lv_iconst (v := 2) hx hb dX0_read_35 (by decide) ?_
                refine lv_icmp_ne (tgt := 48) hx hb dX0_read_36 (by decide) (fun c_36 => ?_) (fun c_36 => ?_)
                · refine lv_iconst (v := (-1)) hx hb dX0_read_48 (by decide) ?_
                  refine lv_istore (lv' := [(5, .int (-1)), (4, .int vu_6), (0, .ref p0), (1, .ref p1), (2, .ref p2), (3, .int x3)]) hx hb dX0_read_49 hl (by decide) rfl (fun ls hl => ?_)
                  refine lv_aload_n hx hb dX0_read_51 rfl (lv_at hl 2 rfl) ?_
                  refine lv_aload_n hx hb dX0_read_52 rfl (lv_at hl 3 rfl) ?_
                  refine lv_iload hx hb dX0_read_53 (lv_at hl 1 rfl) ?_
                  refine tk_i (va_runV (As := [.ref p1, .int vu_6]) (rest := []) ⟨hx, hb, hml, hown, hts⟩ (c_X0_beginsLine__12 l D cy z H.size Ps ws hw.1 p0 p1 vu_6 v_5 s0 sg_4 h_p0 h_p1 r_vu_6 r_v_5 m_v_5 o_p0 o_p1) (cwV 2 hts (gV tw_893 tw_895 ts_26 tw_7 tw_896) rfl rfl rfl (by decide +kernel) ⟨Nat.le_of_ble_eq_true rfl, Nat.le_of_ble_eq_true rfl⟩) (tg_preV hw hK hSD hA (ci := 0) (q := (RX0, TX0, 5)) rfl h_p0 rfl) rfl rfl hl.1 rfl (lv_room (Nat.le_of_ble_eq_true rfl)) dX0_read_55 ⟨Nat.le_of_ble_eq_true rfl, Nat.le_of_ble_eq_true rfl⟩) hw hA ⟨by decide, by decide⟩ (fun v_55 ws H locs hp_v_55 hw hF9 => ?_)
                  have m_u_6 := FLD.over hF9 m_u_6 (by decide)
                  have x_BG_p0 := B3.over hF9 x_BG_p0 (by decide)
                  obtain ⟨hfn, hp_v_55⟩ := hp_v_55
                  have o_p2 := OV.over (V := vw_POST) hF9 o_p2 (by decide)
                  obtain ⟨sg_56, q_sg_56⟩ : ∃ q9 : OS, (f_X0_beginsLine__7 vu_6 s0 sg_4).1 = q9 := ⟨_, rfl⟩
                  have o_p0 : OV vw_BOOK Ps ws p0 sg_56 := by rw [← q_sg_56]; exact hfn.1
                  obtain ⟨sg_57, q_sg_57⟩ : ∃ q9 : OS, (f_X0_beginsLine__7 vu_6 s0 sg_4).2.1 = q9 := ⟨_, rfl⟩
                  have o_p1 : OV vw_TAPE Ps ws p1 sg_57 := by rw [← q_sg_57]; exact hfn.2.1
                  have q_v_55 : (f_X0_beginsLine__7 vu_6 s0 sg_4).2.2 = v_55 := hfn.2.2.1
                  have r_v_55 : RI v_55 0 0 := hp_v_55.1
                  by_cases c9_v_55 : v_55 = 0
                  · have r_v_55 : RI v_55 0 0 := by rw [c9_v_55]; exact rl_0
                    obtain ⟨v_58, m_v_58, r_v_58⟩ := ((hp_v_55.2.1 c9_v_55).1)
                    refine lv_if_ne (tgt := 62) hx hb dX0_read_58 (by decide) (fun c_58 => ?_) (fun c_58 => ?_)
                    · exact absurd (r_v_55.eq.trans rl_0.eq.symm) ((ti_ne c_58))
                    · have x_JB_p1_p0 : JB Ps ws p1 p0 := Or.inr x_BG_p0
                      simp only [f_X0_read__1_14, ↓reduceIte, eq_false c_17, q_sg_4, q_v_3, eq_false c9_v_3, eq_false c_24, q_vu_6, eq_false n9_0, eq_false n9_1, eq_false n9_2, eq_false n9_3, eq_false c_36, q_sg_56, q_sg_57, q_v_55, eq_true c9_v_55, eq_true c_58] at hE
                      subst hQ
                      exact W.vret hx hb hr (fun t ht hW => ⟨⟨ws, rfl, ⟨⟨⟨(by rw [hR, ← hE]; exact o_p0), (by rw [hR, ← hE]; exact o_p1), (by rw [hR, ← hE]; exact o_p2), trivial⟩, ⟨x_JB_p1_p0, trivial⟩⟩, hw.1, hw.2.2.2.2.1⟩, by rw [ht]; exact hw.2.1, va_K.moved hW.alike hK, hw.2.2.1⟩, hw.2.2.2.1.F ht⟩) hw.2.2.2.1.2.2 dX0_read_61
                  · exact absurd (Int32.toInt_inj.mp (by rw [Int32.toInt_zero]; unfold RI at r_v_55; omega)) c9_v_55
                · have r_vu_6 : RI vu_6 144 2 := rc_eq1 r_vu_6 rl_2 (ti_eq c_36) (by decide)
                  exact (r_vu_6.no (by decide)).elim
  refine lv_aload_n hx hb dX0_read_0 rfl (lv_at hl 1 rfl) ?_
  refine lv_sipush (v := 400) hx hb dX0_read_1 (by decide) ?_
  refine tk_v (va_runV (As := [.int 400]) (rest := []) ⟨hx, hb, hml, hown, hts⟩ (c_X7_startText__5 l D cy z s.heap.size Ps w0 hw.1 p1 400 s1 h_p1 rl_400 o_p1) (cwV 1 hts (gV tw_890 tw_421 tw_422 tw_2 tw_423) rfl rfl rfl (by decide +kernel) ⟨Nat.le_of_ble_eq_true rfl, Nat.le_of_ble_eq_true rfl⟩) (tg_preV hw hK hSD hA (ci := 7) (q := (RX7, TX7, 12)) rfl h_p1 rfl) rfl rfl hl.1 rfl (lv_room (Nat.le_of_ble_eq_true rfl)) dX0_read_4 ⟨Nat.le_of_ble_eq_true rfl, Nat.le_of_ble_eq_true rfl⟩) hw hA ⟨by decide, by decide⟩ (fun ws H locs hp_v_59 hw hF9 => ?_)
  obtain ⟨hfn, hp_v_59⟩ := hp_v_59
  have o_p0 := OV.over (V := vw_BOOK) hF9 o_p0 (by decide)
  have o_p2 := OV.over (V := vw_POST) hF9 o_p2 (by decide)
  obtain ⟨sg_60, q_sg_60⟩ : ∃ q9 : OS, (f_X7_startText__3 (400 : Int32) s1) = q9 := ⟨_, rfl⟩
  have o_p1 : OV vw_TAPE Ps ws p1 sg_60 := by rw [← q_sg_60]; exact hfn.1
  obtain ⟨v_61, m_v_61, r_v_61⟩ := (hp_v_59.1)
  refine lv_aload_n hx hb dX0_read_7 rfl (lv_at hl 0 rfl) ?_
  refine lv_iconst (v := 0) hx hb dX0_read_8 (by decide) ?_
  refine tg_put (ci := 0) (ts := ty_BOOK) (v := .int 0) (ty := .int) (C := RX0) (T := TX0) (N := 5) hx hb hts inX0 tyX0 tyX0_ok nmX0 hown hK hw h_p0 rfl rfl 3 (by decide) (hts _ tw_145) (fun _ h9 => h9) rfl (by decide +kernel) rfl rfl (ft := vI 0 40) rfl ⟨_, rfl, (rl_0.to (by decide))⟩ (by decide) dX0_read_9 (fun ws H locs hw n_k_62 hF9 => ?_)
  have m_v_61 := FLD.over hF9 m_v_61 (by decide)
  have o_p1 := OV.over (V := vw_TAPE) hF9 o_p1 (by decide)
  have o_p2 := OV.over (V := vw_POST) hF9 o_p2 (by decide)
  obtain ⟨sg_63, q_sg_63⟩ : ∃ q9 : OS, sI s0 3 (0 : Int32) = q9 := ⟨_, rfl⟩
  have o_p0 : OV vw_BOOK Ps ws p0 sg_63 := by rw [← q_sg_63]; exact OV.putI (V := vw_BOOK) hF9 n_k_62 o_p0 (by decide)
  refine lv_iconst (v := 0) hx hb dX0_read_12 (by decide) ?_
  refine lv_istore_n (lv' := [(3, .int 0), (0, .ref p0), (1, .ref p1), (2, .ref p2)]) hx hb dX0_read_13 rfl hl (by decide) rfl (fun ls hl => ?_)
  simp only [f_X0_read__1, ↓reduceIte, q_sg_60, q_sg_63] at hE
  have x_JB_p1_p0 : JB Ps ws p1 p0 := Or.inr (BG.zero hw h_p0 n_k_62)
  exact B14 4294967298 0 sg_63 sg_60 s2 ws _ _ ls (by have q0 := rl_0.1; have u0 := rl_0.2; omega) (rl_0.to (by decide)) x_JB_p1_p0 o_p0 o_p1 o_p2 hE hw (lv_sub hl [1, 2, 3, 0] rfl)
abbrev wr_X10_take__5 : List (Nat × Nat) := [(10, 2)]
abbrev wa_X10_take__5 : List Nat := []
set_option maxHeartbeats 4000000 in
set_option maxRecDepth 100000 in
theorem c_X10_take__5 (l : Launch) (D : va_G) (cy : Nat → ClassId) (z : Nat → Nat) (sz : Nat) (Ps : PSI) (w0 : va_W) (hT : HT cy GG Ps w0) (p0 : Nat) (s0 : OS) (h_p0 : (p0, 55) ∈ Ps) (o_p0 : OV vw_M5 Ps w0 p0 s0) : Met l yX10_take (Cond.code yX10_take cX10_take 2 (some .int) :: gT) ({ frames := 0, cells := 0, slots := 0, locals := 200 } : Room) (va_Pc [.ref p0] (PRE D cy z w0 sz)) (va_Qi (fun (r : Int32) (u : va_W) => ((OV vw_M5 Ps u p0 ((f_X10_take__1 s0).1) ∧ (f_X10_take__1 s0).2 = r ∧ True) ∧ (RI r 0 940 ∧ (r = 0 → (∃ v9 : Int32, FLD u p0 10 2 (.int v9) ∧ RI v9 0 0) ∧ TLM u p0 (0) ∧ True) ∧ (¬ r = 0 → (∃ v9 : Int32, FLD u p0 10 2 (.int v9) ∧ RI v9 0 0) ∧ TLM u p0 (0) ∧ True))) ∧ HT cy GG Ps u ∧ FR wr_X10_take__5 wa_X10_take__5 Ps w0 u) (BB D cy (va_A w0 sz) (fun (u : va_W) => u)) (va_A w0 sz)) 0 0 (va_A w0 sz) := by
  refine Met.ofW (cc := cX10_take) (maxL := 2) (ret := (some .int)) (by decide) rfl ?_
  intro p e s m args below meth c s₁ B hml hv
  obtain ⟨rfl, hsz, hP, hK, hD0, hSD⟩ := hv
  have hx := B.exec
  have hb := B.bytes
  have hr := B.returns
  have hlocks := B.notSynchronized
  have hts : ∀ w ∈ gT, w.before _ s = true := fun w h => atoms_spec (ws := Cond.code yX10_take cX10_take 2 (some .int) :: gT) B.pre w (List.mem_cons_of_mem _ h)
  have hown : s.vm.findClass RX10 = some m.cls := findClass_of_methodNamed B.named
  subst hsz
  have hD := hD0.self (sz := s.heap.size)
  generalize hAe : va_A w0 s.heap.size = A at hD hSD ⊢
  have hA : ∀ q : Nat, s.heap.size ≤ q → A q := fun q h => by rw [← hAe]; exact Or.inr h
  have hl := lv_entry ([.ref p0]) (n := 2) (Nat.le_of_ble_eq_true rfl)
  rw [lg_entry_eq]
  generalize (lg_sl ([.ref p0]) ++ List.replicate (2 - (lg_sl ([.ref p0])).length) Slot.unset).toArray = ls at hl ⊢
  have hl : lv_has ls 2 [(0, .ref p0)] := hl
  refine nameQ (fun Q hQ => ?_)
  have hw : WD D cy GG A s wr_X10_take__5 wa_X10_take__5 Ps w0 Ps w0 s.heap [] := ⟨hT, hP, hD, va_S.rf, FR.rf, hT.1, [], (List.append_nil _).symm⟩
  obtain ⟨R9, hR⟩ : ∃ q9 : OS × Int32, f_X10_take__1 s0 = q9 := ⟨_, rfl⟩
  have hE := hR
  refine lv_aload_n hx hb dX10_take_0 rfl (lv_at hl 0 rfl) ?_
  refine tg_get (ci := 10) (ts := ty_MODEL) (C := RX10) (T := TX10) (N := 49) hx hb hts inX10 hown hK hw h_p0 rfl rfl 2 (by decide) (hts _ tw_1139) (fun _ h9 => h9) (ft := vI 0 940) rfl dX10_take_1 (fun u_1 hv_u_1 m_u_1 => ?_)
  obtain ⟨vu_1, rfl, r_vu_1⟩ := hv_u_1
  have q_vu_1 : s0.1 2 = vu_1 := OV.eqI (V := vw_M5) hw.2.2.1 o_p0 m_u_1 (by decide)
  refine lv_istore_n (lv' := [(1, .int vu_1), (0, .ref p0)]) hx hb dX10_take_4 rfl hl (by decide) rfl (fun ls hl => ?_)
  refine lv_aload_n hx hb dX10_take_5 rfl (lv_at hl 1 rfl) ?_
  refine lv_iconst (v := 0) hx hb dX10_take_6 (by decide) ?_
  refine tg_put (ci := 10) (ts := ty_MODEL) (v := .int 0) (ty := .int) (C := RX10) (T := TX10) (N := 49) hx hb hts inX10 tyX10 tyX10_ok nmX10 hown hK hw h_p0 rfl rfl 2 (by decide) (hts _ tw_1139) (fun _ h9 => h9) rfl (by decide +kernel) rfl rfl (ft := vI 0 940) rfl ⟨_, rfl, (rl_0.to (by decide))⟩ (by decide) dX10_take_7 (fun ws H locs hw n_k_2 hF9 => ?_)
  obtain ⟨sg_3, q_sg_3⟩ : ∃ q9 : OS, sI s0 2 (0 : Int32) = q9 := ⟨_, rfl⟩
  have o_p0 : OV vw_M5 Ps ws p0 sg_3 := by rw [← q_sg_3]; exact OV.putI (V := vw_M5) hF9 n_k_2 o_p0 (by decide)
  have x_TLM_p0_0 : TLM ws p0 (0) := ⟨_, n_k_2, (by decide)⟩
  refine lv_iload_n hx hb dX10_take_10 rfl (lv_at hl 0 rfl) ?_
  simp only [f_X10_take__1, ↓reduceIte, q_vu_1, q_sg_3] at hE
  subst hQ
  exact W.iret (v := vu_1) hx hb hr (fun t ht hW => ⟨⟨vu_1, ws, rfl, ⟨⟨⟨(by rw [hR, ← hE]; exact o_p0), (by rw [hR, ← hE]), trivial⟩, r_vu_1.to (by decide), (fun h0 => ⟨⟨_, n_k_2, rl_0⟩, x_TLM_p0_0, trivial⟩), (fun h0 => ⟨⟨_, n_k_2, rl_0⟩, x_TLM_p0_0, trivial⟩)⟩, hw.1, hw.2.2.2.2.1⟩, by rw [ht]; exact hw.2.1, va_K.moved hW.alike hK, hw.2.2.1⟩, hw.2.2.2.1.F ht⟩) hw.2.2.2.1.2.2 dX10_take_11
abbrev wr_X10_tapeAt__3 : List (Nat × Nat) := []
abbrev wa_X10_tapeAt__3 : List Nat := []
set_option maxHeartbeats 4000000 in
set_option maxRecDepth 100000 in
theorem c_X10_tapeAt__3 (l : Launch) (D : va_G) (cy : Nat → ClassId) (z : Nat → Nat) (sz : Nat) (Ps : PSI) (w0 : va_W) (hT : HT cy GG Ps w0) (p0 : Nat) (p1 : Int32) (s0 : OS) (h_p0 : (p0, 55) ∈ Ps) (r_p1 : RI p1 0 940) (o_p0 : OV vw_M5 Ps w0 p0 s0) : Met l yX10_tapeAt (Cond.code yX10_tapeAt cX10_tapeAt 2 (some .int) :: gT) ({ frames := 0, cells := 0, slots := 0, locals := 200 } : Room) (va_Pc [.ref p0, .int p1] (PRE D cy z w0 sz)) (va_Qi (fun (r : Int32) (u : Unit) => ((f_X10_tapeAt__1 p1 s0) = r ∧ True) ∧ (RI r 0 255 ∧ (r = 0 → True) ∧ (¬ r = 0 → RI p1 0 939 ∧ True))) (BB D cy (va_A w0 sz) (fun (u : Unit) => w0)) (va_A w0 sz)) 0 0 (va_A w0 sz) := by
  refine Met.ofW (cc := cX10_tapeAt) (maxL := 2) (ret := (some .int)) (by decide) rfl ?_
  intro p e s m args below meth c s₁ B hml hv
  obtain ⟨rfl, hsz, hP, hK, hD0, hSD⟩ := hv
  have hx := B.exec
  have hb := B.bytes
  have hr := B.returns
  have hlocks := B.notSynchronized
  have hts : ∀ w ∈ gT, w.before _ s = true := fun w h => atoms_spec (ws := Cond.code yX10_tapeAt cX10_tapeAt 2 (some .int) :: gT) B.pre w (List.mem_cons_of_mem _ h)
  have hown : s.vm.findClass RX10 = some m.cls := findClass_of_methodNamed B.named
  subst hsz
  have hD := hD0.self (sz := s.heap.size)
  generalize hAe : va_A w0 s.heap.size = A at hD hSD ⊢
  have hA : ∀ q : Nat, s.heap.size ≤ q → A q := fun q h => by rw [← hAe]; exact Or.inr h
  have hl := lv_entry ([.ref p0, .int p1]) (n := 2) (Nat.le_of_ble_eq_true rfl)
  rw [lg_entry_eq]
  generalize (lg_sl ([.ref p0, .int p1]) ++ List.replicate (2 - (lg_sl ([.ref p0, .int p1])).length) Slot.unset).toArray = ls at hl ⊢
  have hl : lv_has ls 2 [(0, .ref p0), (1, .int p1)] := hl
  refine nameQ (fun Q hQ => ?_)
  have hw : WD D cy GG A s wr_X10_tapeAt__3 wa_X10_tapeAt__3 Ps w0 Ps w0 s.heap [] := ⟨hT, hP, hD, va_S.rf, FR.rf, hT.1, [], (List.append_nil _).symm⟩
  obtain ⟨R9, hR⟩ : ∃ q9 : Int32, f_X10_tapeAt__1 p1 s0 = q9 := ⟨_, rfl⟩
  have hE := hR
  refine lv_iload_n hx hb dX10_tapeAt_0 rfl (lv_at hl 1 rfl) ?_
  refine lv_aload_n hx hb dX10_tapeAt_1 rfl (lv_at hl 0 rfl) ?_
  refine tg_get (ci := 10) (ts := ty_MODEL) (C := RX10) (T := TX10) (N := 49) hx hb hts inX10 hown hK hw h_p0 rfl rfl 3 (by decide) (hts _ tw_1140) (fun _ h9 => h9) (ft := vI 0 940) rfl dX10_tapeAt_2 (fun u_1 hv_u_1 m_u_1 => ?_)
  obtain ⟨vu_1, rfl, r_vu_1⟩ := hv_u_1
  have q_vu_1 : s0.1 3 = vu_1 := OV.eqI (V := vw_M5) hw.2.2.1 o_p0 m_u_1 (by decide)
  refine lv_icmp_ge (tgt := 17) hx hb dX10_tapeAt_5 (by decide) (fun c_5 => ?_) (fun c_5 => ?_)
  · refine lv_iconst (v := 0) hx hb dX10_tapeAt_17 (by decide) ?_
    simp only [f_X10_tapeAt__1, ↓reduceIte, q_vu_1, eq_true c_5] at hE
    subst hQ
    exact W.iret (v := 0) hx hb hr (fun t ht hW => ⟨⟨0, (), rfl, ⟨⟨(by rw [hR, ← hE]), trivial⟩, rl_0.to (by decide), (fun h0 => trivial), (fun h0 => absurd rfl h0)⟩, by rw [ht]; exact hw.2.1, va_K.moved hW.alike hK, hw.2.2.1⟩, hw.2.2.2.1.F ht⟩) hw.2.2.2.1.2.2 dX10_tapeAt_18
  · have r_p1 : RI p1 0 939 := rc_lt1 r_p1 r_vu_1 (ti_nle c_5) (by decide)
    have r_vu_1 : RI vu_1 1 940 := rc_lt2 r_p1 r_vu_1 (ti_nle c_5) (by decide)
    refine lv_aload_n hx hb dX10_tapeAt_8 rfl (lv_at hl 0 rfl) ?_
    refine tg_get (ci := 10) (ts := ty_MODEL) (C := RX10) (T := TX10) (N := 49) hx hb hts inX10 hown hK hw h_p0 rfl rfl 1 (by decide) (hts _ tw_1138) (fun _ h9 => h9) (ft := vR 40) rfl dX10_tapeAt_9 (fun u_2 hv_u_2 m_u_2 => ?_)
    obtain ⟨vu_2, rfl, h_vu_2⟩ := hv_u_2
    refine lv_iload_n hx hb dX10_tapeAt_12 rfl (lv_at hl 1 rfl) ?_
    refine tg_iald (lo := 0) (hi := 255) hx hb hK hw h_vu_2 rfl 0 939 r_p1 (by decide) (by exact fun _ _ _ => ⟨Int.le_refl _, Int.le_refl _⟩) dX10_tapeAt_13 (fun v_3 r_v_3 m_v_3 o_v_3 => ?_)
    have q_v_3 : s0.2.2.1 1 (Int32.toNatClampNeg p1) = v_3 := OV.eqA (V := vw_M5) (t := 40) hw.2.2.1 o_p0 m_u_2 m_v_3 (by decide)
    refine lv_goto (tgt := 18) hx hb dX10_tapeAt_14 (by decide) ?_
    simp only [f_X10_tapeAt__1, ↓reduceIte, q_vu_1, eq_false c_5, q_v_3] at hE
    subst hQ
    exact W.iret (v := v_3) hx hb hr (fun t ht hW => ⟨⟨v_3, (), rfl, ⟨⟨(by rw [hR, ← hE]), trivial⟩, r_v_3.to (by decide), (fun h0 => trivial), (fun h0 => ⟨r_p1, trivial⟩)⟩, by rw [ht]; exact hw.2.1, va_K.moved hW.alike hK, hw.2.2.1⟩, hw.2.2.2.1.F ht⟩) hw.2.2.2.1.2.2 dX10_tapeAt_18
abbrev wr_X10_go__5 : List (Nat × Nat) := [(10, 5), (10, 6), (10, 7), (10, 8), (10, 9), (10, 12)]
abbrev wa_X10_go__5 : List Nat := []
set_option maxHeartbeats 4000000 in
set_option maxRecDepth 100000 in
theorem c_X10_go__5 (l : Launch) (D : va_G) (cy : Nat → ClassId) (z : Nat → Nat) (sz : Nat) (Ps : PSI) (w0 : va_W) (hT : HT cy GG Ps w0) (p0 : Nat) (s0 : OS) (h_p0 : (p0, 55) ∈ Ps) (o_p0 : OV vw_M5 Ps w0 p0 s0) : Met l yX10_go (Cond.code yX10_go cX10_go 5 none :: gT) ({ frames := 2, cells := 0, slots := 0, locals := 400 } : Room) (va_Pc [.ref p0] (PRE D cy z w0 sz)) (va_Qv (fun (u : va_W) => ((OV vw_M5 Ps u p0 ((f_X10_go__2 s0)) ∧ True) ∧ (True)) ∧ HT cy GG Ps u ∧ FR wr_X10_go__5 wa_X10_go__5 Ps w0 u) (BB D cy (va_A w0 sz) (fun (u : va_W) => u)) (va_A w0 sz)) 0 0 (va_A w0 sz) := by
  refine Met.ofW (cc := cX10_go) (maxL := 5) (ret := none) (by decide) rfl ?_
  intro p e s m args below meth c s₁ B hml hv
  obtain ⟨rfl, hsz, hP, hK, hD0, hSD⟩ := hv
  have hx := B.exec
  have hb := B.bytes
  have hr := B.returns
  have hlocks := B.notSynchronized
  have hts : ∀ w ∈ gT, w.before _ s = true := fun w h => atoms_spec (ws := Cond.code yX10_go cX10_go 5 none :: gT) B.pre w (List.mem_cons_of_mem _ h)
  have hown : s.vm.findClass RX10 = some m.cls := findClass_of_methodNamed B.named
  subst hsz
  have hD := hD0.self (sz := s.heap.size)
  generalize hAe : va_A w0 s.heap.size = A at hD hSD ⊢
  have hA : ∀ q : Nat, s.heap.size ≤ q → A q := fun q h => by rw [← hAe]; exact Or.inr h
  have hl := lv_entry ([.ref p0]) (n := 5) (Nat.le_of_ble_eq_true rfl)
  rw [lg_entry_eq]
  generalize (lg_sl ([.ref p0]) ++ List.replicate (5 - (lg_sl ([.ref p0])).length) Slot.unset).toArray = ls at hl ⊢
  have hl : lv_has ls 5 [(0, .ref p0)] := hl
  refine nameQ (fun Q hQ => ?_)
  have hw : WD D cy GG A s wr_X10_go__5 wa_X10_go__5 Ps w0 Ps w0 s.heap [] := ⟨hT, hP, hD, va_S.rf, FR.rf, hT.1, [], (List.append_nil _).symm⟩
  obtain ⟨R9, hR⟩ : ∃ q9 : OS, f_X10_go__2 s0 = q9 := ⟨_, rfl⟩
  have hE := hR
  have B390 : ∀ (x1 : Int32) (x2 : Int32) (x3 : Int32) (y0 : Int32) (z0_3 : Int32) (z0_4 : Int32) (z0_5 : Int32) (z0_6 : Int32) (s0 : OS) (ws : va_W) (H : Heap) (locs : List Loc) (ls : Array Slot), RI x1 48 122 → RI x2 0 1 → RI x3 0 1 → RI y0 1 3 → RI z0_3 1 940 → FLD ws p0 10 3 (.int z0_3) → RI z0_4 0 2147483647 → FLD ws p0 10 4 (.int z0_4) → RI z0_5 0 940 → FLD ws p0 10 5 (.int z0_5) → RI z0_6 0 940 → FLD ws p0 10 6 (.int z0_6) → OV vw_M5 Ps ws p0 s0 → f_X10_go__2_390 x1 x2 x3 y0 s0 = R9 → WD D cy GG A s wr_X10_go__5 wa_X10_go__5 Ps w0 Ps ws H locs → lv_has ls 5 [(0, .ref p0), (1, .int x1), (2, .int x2), (3, .int x3)] → W p l e (headSpec (Cond.code yX10_go cX10_go 5 none :: gT) ({ frames := 2, cells := 0, slots := 0, locals := 400 } : Room)).room s m ([.ref p0] : List Value).toArray below meth c H locs 0 0 Q (F0 m 390 ls [.int y0, .ref p0]) := by
    intro x1 x2 x3 y0 z0_3 z0_4 z0_5 z0_6 s0 ws H locs ls r_x1 r_x2 r_x3 r_y0 r_z0_3 m_z0_3 r_z0_4 m_z0_4 r_z0_5 m_z0_5 r_z0_6 m_z0_6 o_p0 hE hw hl
    have q_z0_3 : s0.1 3 = z0_3 := OV.eqI (V := vw_M5) hw.2.2.1 o_p0 m_z0_3 (by decide)
    have q_z0_4 : s0.1 4 = z0_4 := OV.eqI (V := vw_M5) hw.2.2.1 o_p0 m_z0_4 (by decide)
    have q_z0_5 : s0.1 5 = z0_5 := OV.eqI (V := vw_M5) hw.2.2.1 o_p0 m_z0_5 (by decide)
    have q_z0_6 : s0.1 6 = z0_6 := OV.eqI (V := vw_M5) hw.2.2.1 o_p0 m_z0_6 (by decide)
    refine tg_put (ci := 10) (ts := ty_MODEL) (v := .int y0) (ty := .int) (C := RX10) (T := TX10) (N := 49) hx hb hts inX10 tyX10 tyX10_ok nmX10 hown hK hw h_p0 rfl rfl 7 (by decide) (hts _ tw_1144) (fun _ h9 => h9) rfl (by decide +kernel) rfl rfl (ft := vI (-2147483648) 2147483647) rfl ⟨_, rfl, (r_y0.to (by decide))⟩ (by decide) dX10_go_390 (fun ws H locs hw n_k_1 hF9 => ?_)
    have m_z0_3 := FLD.over hF9 m_z0_3 (by decide)
    have m_z0_4 := FLD.over hF9 m_z0_4 (by decide)
    have m_z0_5 := FLD.over hF9 m_z0_5 (by decide)
    have m_z0_6 := FLD.over hF9 m_z0_6 (by decide)
    obtain ⟨sg_2, q_sg_2⟩ : ∃ q9 : OS, sI s0 7 y0 = q9 := ⟨_, rfl⟩
    have o_p0 : OV vw_M5 Ps ws p0 sg_2 := by rw [← q_sg_2]; exact OV.putI (V := vw_M5) hF9 n_k_1 o_p0 (by decide)
    simp only [f_X10_go__2_390, ↓reduceIte, q_z0_3, q_z0_4, q_z0_5, q_z0_6, q_sg_2] at hE
    subst hQ
    exact W.vret hx hb hr (fun t ht hW => ⟨⟨ws, rfl, ⟨⟨⟨(by rw [hR, ← hE]; exact o_p0), trivial⟩, trivial⟩, hw.1, hw.2.2.2.2.1⟩, by rw [ht]; exact hw.2.1, va_K.moved hW.alike hK, hw.2.2.1⟩, hw.2.2.2.1.F ht⟩) hw.2.2.2.1.2.2 dX10_go_393
  have B377 : ∀ (x1 : Int32) (x2 : Int32) (x3 : Int32) (z0_3 : Int32) (z0_4 : Int32) (z0_5 : Int32) (z0_6 : Int32) (s0 : OS) (ws : va_W) (H : Heap) (locs : List Loc) (ls : Array Slot), RI x1 48 122 → RI x2 0 1 → RI x3 0 1 → RI z0_3 1 940 → FLD ws p0 10 3 (.int z0_3) → RI z0_4 0 2147483647 → FLD ws p0 10 4 (.int z0_4) → RI z0_5 0 940 → FLD ws p0 10 5 (.int z0_5) → RI z0_6 0 940 → FLD ws p0 10 6 (.int z0_6) → OV vw_M5 Ps ws p0 s0 → f_X10_go__2_377 x1 x2 x3 s0 = R9 → WD D cy GG A s wr_X10_go__5 wa_X10_go__5 Ps w0 Ps ws H locs → lv_has ls 5 [(0, .ref p0), (1, .int x1), (2, .int x2), (3, .int x3)] → W p l e (headSpec (Cond.code yX10_go cX10_go 5 none :: gT) ({ frames := 2, cells := 0, slots := 0, locals := 400 } : Room)).room s m ([.ref p0] : List Value).toArray below meth c H locs 0 0 Q (F0 m 377 ls [.ref p0]) := by
    intro x1 x2 x3 z0_3 z0_4 z0_5 z0_6 s0 ws H locs ls r_x1 r_x2 r_x3 r_z0_3 m_z0_3 r_z0_4 m_z0_4 r_z0_5 m_z0_5 r_z0_6 m_z0_6 o_p0 hE hw hl
    have q_z0_3 : s0.1 3 = z0_3 := OV.eqI (V := vw_M5) hw.2.2.1 o_p0 m_z0_3 (by decide)
    have q_z0_4 : s0.1 4 = z0_4 := OV.eqI (V := vw_M5) hw.2.2.1 o_p0 m_z0_4 (by decide)
    have q_z0_5 : s0.1 5 = z0_5 := OV.eqI (V := vw_M5) hw.2.2.1 o_p0 m_z0_5 (by decide)
    have q_z0_6 : s0.1 6 = z0_6 := OV.eqI (V := vw_M5) hw.2.2.1 o_p0 m_z0_6 (by decide)
    refine lv_iconst (v := 1) hx hb dX10_go_377 (by decide) ?_
    refine lv_goto (tgt := 390) hx hb dX10_go_378 (by decide) ?_
    simp only [f_X10_go__2_377, ↓reduceIte, q_z0_3, q_z0_4, q_z0_5, q_z0_6] at hE
    exact B390 x1 x2 x3 1 z0_3 z0_4 z0_5 z0_6 s0 ws _ _ ls r_x1 r_x2 r_x3 (rl_1.to (by decide)) r_z0_3 m_z0_3 r_z0_4 m_z0_4 r_z0_5 m_z0_5 r_z0_6 m_z0_6 o_p0 hE hw hl
  have B374 : ∀ (x1 : Int32) (x2 : Int32) (x3 : Int32) (y0 : Int32) (y1 : Int32) (z0_3 : Int32) (z0_4 : Int32) (z0_5 : Int32) (z0_6 : Int32) (s0 : OS) (ws : va_W) (H : Heap) (locs : List Loc) (ls : Array Slot), RI x1 48 122 → RI x2 0 1 → RI x3 1 1 → RI y0 3 7 → RI y1 (-940) 940 → RI z0_3 1 940 → FLD ws p0 10 3 (.int z0_3) → RI z0_4 0 2147483647 → FLD ws p0 10 4 (.int z0_4) → RI z0_5 0 940 → FLD ws p0 10 5 (.int z0_5) → RI z0_6 0 940 → FLD ws p0 10 6 (.int z0_6) → OV vw_M5 Ps ws p0 s0 → f_X10_go__2_374 x1 x2 x3 y0 y1 s0 = R9 → WD D cy GG A s wr_X10_go__5 wa_X10_go__5 Ps w0 Ps ws H locs → lv_has ls 5 [(0, .ref p0), (1, .int x1), (2, .int x2), (3, .int x3)] → W p l e (headSpec (Cond.code yX10_go cX10_go 5 none :: gT) ({ frames := 2, cells := 0, slots := 0, locals := 400 } : Room)).room s m ([.ref p0] : List Value).toArray below meth c H locs 0 0 Q (F0 m 374 ls [.int y0, .int y1, .ref p0]) := by
    intro x1 x2 x3 y0 y1 z0_3 z0_4 z0_5 z0_6 s0 ws H locs ls r_x1 r_x2 r_x3 r_y0 r_y1 r_z0_3 m_z0_3 r_z0_4 m_z0_4 r_z0_5 m_z0_5 r_z0_6 m_z0_6 o_p0 hE hw hl
    have q_z0_3 : s0.1 3 = z0_3 := OV.eqI (V := vw_M5) hw.2.2.1 o_p0 m_z0_3 (by decide)
    have q_z0_4 : s0.1 4 = z0_4 := OV.eqI (V := vw_M5) hw.2.2.1 o_p0 m_z0_4 (by decide)
    have q_z0_5 : s0.1 5 = z0_5 := OV.eqI (V := vw_M5) hw.2.2.1 o_p0 m_z0_5 (by decide)
    have q_z0_6 : s0.1 6 = z0_6 := OV.eqI (V := vw_M5) hw.2.2.1 o_p0 m_z0_6 (by decide)
    refine lv_icmp_le (tgt := 381) hx hb dX10_go_374 (by decide) (fun c_374 => ?_) (fun c_374 => ?_)
    · have r_y1 : RI y1 (-940) 7 := rc_le1 r_y1 r_y0 (ti_le c_374) (by decide)
      refine lv_iload_n hx hb dX10_go_381 rfl (lv_at hl 2 rfl) ?_
      refine lv_if_eq (tgt := 389) hx hb dX10_go_382 (by decide) (fun c_382 => ?_) (fun c_382 => ?_)
      · have r_x2 : RI x2 0 0 := rc_eq1 r_x2 rl_0 (ti_eq c_382) (by decide)
        refine lv_iconst (v := 3) hx hb dX10_go_389 (by decide) ?_
        simp only [f_X10_go__2_374, ↓reduceIte, q_z0_3, q_z0_4, q_z0_5, q_z0_6, eq_true c_374, eq_true c_382] at hE
        exact B390 x1 x2 x3 3 z0_3 z0_4 z0_5 z0_6 s0 ws _ _ ls r_x1 (r_x2.to (by decide)) (r_x3.to (by decide)) (rl_3.to (by decide)) r_z0_3 m_z0_3 r_z0_4 m_z0_4 r_z0_5 m_z0_5 r_z0_6 m_z0_6 o_p0 hE hw hl
      · have r_x2 : RI x2 1 1 := rc_neL r_x2 rl_0 (ti_ne c_382) (by decide)
        refine lv_iconst (v := 2) hx hb dX10_go_385 (by decide) ?_
        refine lv_goto (tgt := 390) hx hb dX10_go_386 (by decide) ?_
        simp only [f_X10_go__2_374, ↓reduceIte, q_z0_3, q_z0_4, q_z0_5, q_z0_6, eq_true c_374, eq_false c_382] at hE
        exact B390 x1 x2 x3 2 z0_3 z0_4 z0_5 z0_6 s0 ws _ _ ls r_x1 (r_x2.to (by decide)) (r_x3.to (by decide)) (rl_2.to (by decide)) r_z0_3 m_z0_3 r_z0_4 m_z0_4 r_z0_5 m_z0_5 r_z0_6 m_z0_6 o_p0 hE hw hl
    · have r_y1 : RI y1 4 940 := rc_lt2 r_y0 r_y1 (ti_nle c_374) (by decide)
      simp only [f_X10_go__2_374, ↓reduceIte, q_z0_3, q_z0_4, q_z0_5, q_z0_6, eq_false c_374] at hE
      exact B377 x1 x2 x3 z0_3 z0_4 z0_5 z0_6 s0 ws _ _ ls r_x1 r_x2 (r_x3.to (by decide)) r_z0_3 m_z0_3 r_z0_4 m_z0_4 r_z0_5 m_z0_5 r_z0_6 m_z0_6 o_p0 hE hw hl
  have B215 : ∀ (nf : Nat) (x1 : Int32) (x2 : Int32) (x3 : Int32) (z0_3 : Int32) (z0_4 : Int32) (z0_5 : Int32) (z0_6 : Int32) (s0 : OS) (ws : va_W) (H : Heap) (locs : List Loc) (ls : Array Slot), 940 - z0_5.toInt < (nf : Int) → RI x1 48 122 → RI x2 0 1 → RI x3 0 1 → RI z0_3 1 940 → FLD ws p0 10 3 (.int z0_3) → RI z0_4 0 2147483647 → FLD ws p0 10 4 (.int z0_4) → RI z0_5 0 940 → FLD ws p0 10 5 (.int z0_5) → RI z0_6 0 940 → FLD ws p0 10 6 (.int z0_6) → OV vw_M5 Ps ws p0 s0 → f_X10_go__2_215 nf x1 x2 x3 s0 = R9 → WD D cy GG A s wr_X10_go__5 wa_X10_go__5 Ps w0 Ps ws H locs → lv_has ls 5 [(0, .ref p0), (1, .int x1), (2, .int x2), (3, .int x3)] → W p l e (headSpec (Cond.code yX10_go cX10_go 5 none :: gT) ({ frames := 2, cells := 0, slots := 0, locals := 400 } : Room)).room s m ([.ref p0] : List Value).toArray below meth c H locs 0 0 Q (F0 m 215 ls []) := by
    intro nf215
    induction nf215 with
    | zero =>
      intro x1 x2 x3 z0_3 z0_4 z0_5 z0_6 s0 ws H locs ls hn215 r_x1 r_x2 r_x3 r_z0_3 m_z0_3 r_z0_4 m_z0_4 r_z0_5 m_z0_5 r_z0_6 m_z0_6 o_p0 hE hw hl
      exact absurd hn215 (by have q0 := r_z0_5.1; have u0 := r_z0_5.2; omega)
    | succ nf215 ih215 =>
      have B337 : ∀ (x1 : Int32) (x2 : Int32) (x3 : Int32) (x4 : Int32) (z0_3 : Int32) (z0_4 : Int32) (z0_5 : Int32) (z0_6 : Int32) (s0 : OS) (ws : va_W) (H : Heap) (locs : List Loc) (ls : Array Slot), RI x1 48 122 → RI x2 0 1 → RI x3 0 1 → RI x4 0 255 → RI z0_3 1 940 → FLD ws p0 10 3 (.int z0_3) → RI z0_4 0 2147483647 → FLD ws p0 10 4 (.int z0_4) → RI z0_5 0 939 → FLD ws p0 10 5 (.int z0_5) → RI z0_6 0 940 → FLD ws p0 10 6 (.int z0_6) → OV vw_M5 Ps ws p0 s0 → 940 - z0_5.toInt < ((nf215 + 1 : Nat) : Int) → f_X10_go__2_337 (f_X10_go__2_215 nf215) x1 x2 x3 x4 s0 = R9 → WD D cy GG A s wr_X10_go__5 wa_X10_go__5 Ps w0 Ps ws H locs → lv_has ls 5 [(0, .ref p0), (1, .int x1), (2, .int x2), (3, .int x3), (4, .int x4)] → W p l e (headSpec (Cond.code yX10_go cX10_go 5 none :: gT) ({ frames := 2, cells := 0, slots := 0, locals := 400 } : Room)).room s m ([.ref p0] : List Value).toArray below meth c H locs 0 0 Q (F0 m 337 ls []) := by
        intro x1 x2 x3 x4 z0_3 z0_4 z0_5 z0_6 s0 ws H locs ls r_x1 r_x2 r_x3 r_x4 r_z0_3 m_z0_3 r_z0_4 m_z0_4 r_z0_5 m_z0_5 r_z0_6 m_z0_6 o_p0 hn215 hE hw hl
        have q_z0_3 : s0.1 3 = z0_3 := OV.eqI (V := vw_M5) hw.2.2.1 o_p0 m_z0_3 (by decide)
        have q_z0_4 : s0.1 4 = z0_4 := OV.eqI (V := vw_M5) hw.2.2.1 o_p0 m_z0_4 (by decide)
        have q_z0_5 : s0.1 5 = z0_5 := OV.eqI (V := vw_M5) hw.2.2.1 o_p0 m_z0_5 (by decide)
        have q_z0_6 : s0.1 6 = z0_6 := OV.eqI (V := vw_M5) hw.2.2.1 o_p0 m_z0_6 (by decide)
        refine lv_aload_n hx hb dX10_go_337 rfl (lv_at hl 0 rfl) ?_
        refine lv_dup hx hb dX10_go_338 rfl ?_
        refine tg_mem (ci := 10) (C := RX10) (T := TX10) (N := 49) hx hb hts inX10 hown hK hw 5 m_z0_5 rfl (by decide) (hts _ tw_1142) (fun _ h9 => h9) dX10_go_339 ?_
        refine lv_iconst (v := 1) hx hb dX10_go_342 (by decide) ?_
        refine lv_iadd hx hb dX10_go_343 (lv_topi (fun v_3 e_v_3 => ?_))
        obtain ⟨t_v_3, r_v_3⟩ := tq_add (lo := 1) (hi := 940) r_z0_5 rl_1 (by decide +kernel) e_v_3
        have t_v_3 : v_3.toInt = z0_5.toInt + 1 := t_v_3
        have q_v_3 : z0_5 + (1 : Int32) = v_3 := e_v_3.symm
        refine tg_put (ci := 10) (ts := ty_MODEL) (v := .int v_3) (ty := .int) (C := RX10) (T := TX10) (N := 49) hx hb hts inX10 tyX10 tyX10_ok nmX10 hown hK hw h_p0 rfl rfl 5 (by decide) (hts _ tw_1142) (fun _ h9 => h9) rfl (by decide +kernel) rfl rfl (ft := vI 0 940) rfl ⟨_, rfl, (r_v_3.to (by decide))⟩ (by decide) dX10_go_344 (fun ws H locs hw n_k_4 hF9 => ?_)
        have m_z0_3 := FLD.over hF9 m_z0_3 (by decide)
        have m_z0_4 := FLD.over hF9 m_z0_4 (by decide)
        have m_z0_6 := FLD.over hF9 m_z0_6 (by decide)
        obtain ⟨sg_5, q_sg_5⟩ : ∃ q9 : OS, sI s0 5 v_3 = q9 := ⟨_, rfl⟩
        have o_p0 : OV vw_M5 Ps ws p0 sg_5 := by rw [← q_sg_5]; exact OV.putI (V := vw_M5) hF9 n_k_4 o_p0 (by decide)
        refine lv_goto (tgt := 215) hx hb dX10_go_347 (by decide) ?_
        simp only [f_X10_go__2_337, ↓reduceIte, q_z0_3, q_z0_4, q_z0_5, q_z0_6, q_v_3, q_sg_5] at hE
        exact ih215 x1 x2 x3 z0_3 z0_4 v_3 z0_6 sg_5 ws _ _ ls (by have q0 := r_v_3.1; have u0 := r_v_3.2; have o0 := r_z0_5.1; have p0 := r_z0_5.2; omega) r_x1 r_x2 r_x3 r_z0_3 m_z0_3 r_z0_4 m_z0_4 (r_v_3.to (by decide)) n_k_4 r_z0_6 m_z0_6 o_p0 hE hw (lv_sub hl [0, 1, 2, 3] rfl)
      have B307 : ∀ (x1 : Int32) (x2 : Int32) (x3 : Int32) (x4 : Int32) (z0_3 : Int32) (z0_4 : Int32) (z0_5 : Int32) (z0_6 : Int32) (s0 : OS) (ws : va_W) (H : Heap) (locs : List Loc) (ls : Array Slot), RI x1 48 122 → RI x2 0 1 → RI x3 0 1 → RI x4 0 255 → RI z0_3 1 940 → FLD ws p0 10 3 (.int z0_3) → RI z0_4 0 2147483647 → FLD ws p0 10 4 (.int z0_4) → RI z0_5 0 939 → FLD ws p0 10 5 (.int z0_5) → RI z0_6 0 940 → FLD ws p0 10 6 (.int z0_6) → OV vw_M5 Ps ws p0 s0 → 940 - z0_5.toInt < ((nf215 + 1 : Nat) : Int) → f_X10_go__2_307 (f_X10_go__2_215 nf215) x1 x2 x3 x4 s0 = R9 → WD D cy GG A s wr_X10_go__5 wa_X10_go__5 Ps w0 Ps ws H locs → lv_has ls 5 [(0, .ref p0), (1, .int x1), (2, .int x2), (3, .int x3), (4, .int x4)] → W p l e (headSpec (Cond.code yX10_go cX10_go 5 none :: gT) ({ frames := 2, cells := 0, slots := 0, locals := 400 } : Room)).room s m ([.ref p0] : List Value).toArray below meth c H locs 0 0 Q (F0 m 307 ls []) := by
        intro x1 x2 x3 x4 z0_3 z0_4 z0_5 z0_6 s0 ws H locs ls r_x1 r_x2 r_x3 r_x4 r_z0_3 m_z0_3 r_z0_4 m_z0_4 r_z0_5 m_z0_5 r_z0_6 m_z0_6 o_p0 hn215 hE hw hl
        have q_z0_3 : s0.1 3 = z0_3 := OV.eqI (V := vw_M5) hw.2.2.1 o_p0 m_z0_3 (by decide)
        have q_z0_4 : s0.1 4 = z0_4 := OV.eqI (V := vw_M5) hw.2.2.1 o_p0 m_z0_4 (by decide)
        have q_z0_5 : s0.1 5 = z0_5 := OV.eqI (V := vw_M5) hw.2.2.1 o_p0 m_z0_5 (by decide)
        have q_z0_6 : s0.1 6 = z0_6 := OV.eqI (V := vw_M5) hw.2.2.1 o_p0 m_z0_6 (by decide)
        refine lv_aload_n hx hb dX10_go_307 rfl (lv_at hl 0 rfl) ?_
        refine tg_mem (ci := 10) (C := RX10) (T := TX10) (N := 49) hx hb hts inX10 hown hK hw 5 m_z0_5 rfl (by decide) (hts _ tw_1142) (fun _ h9 => h9) dX10_go_308 ?_
        refine lv_aload_n hx hb dX10_go_311 rfl (lv_at hl 0 rfl) ?_
        refine tg_mem (ci := 10) (C := RX10) (T := TX10) (N := 49) hx hb hts inX10 hown hK hw 6 m_z0_6 rfl (by decide) (hts _ tw_1143) (fun _ h9 => h9) dX10_go_312 ?_
        refine lv_isub hx hb dX10_go_315 (lv_topi (fun v_6 e_v_6 => ?_))
        obtain ⟨t_v_6, r_v_6⟩ := tq_sub (lo := (-940)) (hi := 939) r_z0_5 r_z0_6 (by decide +kernel) e_v_6
        have q_v_6 : z0_5 - z0_6 = v_6 := e_v_6.symm
        refine lv_iconst (v := 3) hx hb dX10_go_316 (by decide) ?_
        refine lv_icmp_ge (tgt := 337) hx hb dX10_go_317 (by decide) (fun c_317 => ?_) (fun c_317 => ?_)
        · have r_v_6 : RI v_6 3 939 := rc_le2 rl_3 r_v_6 (ti_le c_317) (by decide)
          simp only [f_X10_go__2_307, ↓reduceIte, q_z0_3, q_z0_4, q_z0_5, q_z0_6, q_v_6, eq_true c_317] at hE
          exact B337 x1 x2 x3 x4 z0_3 z0_4 z0_5 z0_6 s0 ws _ _ ls r_x1 r_x2 r_x3 r_x4 r_z0_3 m_z0_3 r_z0_4 m_z0_4 r_z0_5 m_z0_5 r_z0_6 m_z0_6 o_p0 (by have q0 := r_z0_5.1; have u0 := r_z0_5.2; omega) hE hw hl
        · have r_v_6 : RI v_6 (-940) 2 := rc_lt1 r_v_6 rl_3 (ti_nle c_317) (by decide)
          refine lv_aload_n hx hb dX10_go_320 rfl (lv_at hl 0 rfl) ?_
          refine lv_bipush (v := 10) hx hb dX10_go_321 (by decide) ?_
          refine lv_aload_n hx hb dX10_go_323 rfl (lv_at hl 0 rfl) ?_
          refine tg_get (ci := 10) (ts := ty_MODEL) (C := RX10) (T := TX10) (N := 49) hx hb hts inX10 hown hK hw h_p0 rfl rfl 8 (by decide) (hts _ tw_1145) (fun _ h9 => h9) (ft := vI (-2147483648) 2147483647) rfl dX10_go_324 (fun u_7 hv_u_7 m_u_7 => ?_)
          obtain ⟨vu_7, rfl, r_vu_7⟩ := hv_u_7
          have q_vu_7 : s0.1 8 = vu_7 := OV.eqI (V := vw_M5) hw.2.2.1 o_p0 m_u_7 (by decide)
          refine lv_imul hx hb dX10_go_327 (lv_topi (fun v_8 e_v_8 => ?_))
          have r_v_8 := ri_any v_8
          have q_v_8 : (10 : Int32) * vu_7 = v_8 := e_v_8.symm
          refine lv_iload hx hb dX10_go_328 (lv_at hl 4 rfl) ?_
          refine lv_iadd hx hb dX10_go_330 (lv_topi (fun v_9 e_v_9 => ?_))
          have r_v_9 := ri_any v_9
          have q_v_9 : v_8 + x4 = v_9 := e_v_9.symm
          refine lv_bipush (v := 48) hx hb dX10_go_331 (by decide) ?_
          refine lv_isub hx hb dX10_go_333 (lv_topi (fun v_10 e_v_10 => ?_))
          have r_v_10 := ri_any v_10
          have q_v_10 : v_9 - (48 : Int32) = v_10 := e_v_10.symm
          refine tg_put (ci := 10) (ts := ty_MODEL) (v := .int v_10) (ty := .int) (C := RX10) (T := TX10) (N := 49) hx hb hts inX10 tyX10 tyX10_ok nmX10 hown hK hw h_p0 rfl rfl 8 (by decide) (hts _ tw_1145) (fun _ h9 => h9) rfl (by decide +kernel) rfl rfl (ft := vI (-2147483648) 2147483647) rfl ⟨_, rfl, r_v_10⟩ (by decide) dX10_go_334 (fun ws H locs hw n_k_11 hF9 => ?_)
          have m_z0_3 := FLD.over hF9 m_z0_3 (by decide)
          have m_z0_4 := FLD.over hF9 m_z0_4 (by decide)
          have m_z0_5 := FLD.over hF9 m_z0_5 (by decide)
          have m_z0_6 := FLD.over hF9 m_z0_6 (by decide)
          obtain ⟨sg_12, q_sg_12⟩ : ∃ q9 : OS, sI s0 8 v_10 = q9 := ⟨_, rfl⟩
          have o_p0 : OV vw_M5 Ps ws p0 sg_12 := by rw [← q_sg_12]; exact OV.putI (V := vw_M5) hF9 n_k_11 o_p0 (by decide)
          simp only [f_X10_go__2_307, ↓reduceIte, q_z0_3, q_z0_4, q_z0_5, q_z0_6, q_v_6, eq_false c_317, q_vu_7, q_v_8, q_v_9, q_v_10, q_sg_12] at hE
          exact B337 x1 x2 x3 x4 z0_3 z0_4 z0_5 z0_6 sg_12 ws _ _ ls r_x1 r_x2 r_x3 r_x4 r_z0_3 m_z0_3 r_z0_4 m_z0_4 r_z0_5 m_z0_5 r_z0_6 m_z0_6 o_p0 (by have q0 := r_z0_5.1; have u0 := r_z0_5.2; omega) hE hw hl
      have B272 : ∀ (x1 : Int32) (x2 : Int32) (x3 : Int32) (x4 : Int32) (y0 : Int32) (z0_3 : Int32) (z0_4 : Int32) (z0_5 : Int32) (z0_6 : Int32) (s0 : OS) (ws : va_W) (H : Heap) (locs : List Loc) (ls : Array Slot), RI x1 48 122 → RI x2 0 1 → RI x3 0 1 → RI x4 0 255 → RI y0 0 1 → RI z0_3 1 940 → FLD ws p0 10 3 (.int z0_3) → RI z0_4 0 2147483647 → FLD ws p0 10 4 (.int z0_4) → RI z0_5 0 939 → FLD ws p0 10 5 (.int z0_5) → RI z0_6 0 940 → FLD ws p0 10 6 (.int z0_6) → OV vw_M5 Ps ws p0 s0 → 940 - z0_5.toInt < ((nf215 + 1 : Nat) : Int) → f_X10_go__2_272 (f_X10_go__2_215 nf215) x1 x2 x3 x4 y0 s0 = R9 → WD D cy GG A s wr_X10_go__5 wa_X10_go__5 Ps w0 Ps ws H locs → lv_has ls 5 [(0, .ref p0), (1, .int x1), (2, .int x2), (3, .int x3), (4, .int x4)] → W p l e (headSpec (Cond.code yX10_go cX10_go 5 none :: gT) ({ frames := 2, cells := 0, slots := 0, locals := 400 } : Room)).room s m ([.ref p0] : List Value).toArray below meth c H locs 0 0 Q (F0 m 272 ls [.int y0]) := by
        intro x1 x2 x3 x4 y0 z0_3 z0_4 z0_5 z0_6 s0 ws H locs ls r_x1 r_x2 r_x3 r_x4 r_y0 r_z0_3 m_z0_3 r_z0_4 m_z0_4 r_z0_5 m_z0_5 r_z0_6 m_z0_6 o_p0 hn215 hE hw hl
        have q_z0_3 : s0.1 3 = z0_3 := OV.eqI (V := vw_M5) hw.2.2.1 o_p0 m_z0_3 (by decide)
        have q_z0_4 : s0.1 4 = z0_4 := OV.eqI (V := vw_M5) hw.2.2.1 o_p0 m_z0_4 (by decide)
        have q_z0_5 : s0.1 5 = z0_5 := OV.eqI (V := vw_M5) hw.2.2.1 o_p0 m_z0_5 (by decide)
        have q_z0_6 : s0.1 6 = z0_6 := OV.eqI (V := vw_M5) hw.2.2.1 o_p0 m_z0_6 (by decide)
        refine lv_istore_n (lv' := [(3, .int y0), (0, .ref p0), (1, .int x1), (2, .int x2), (4, .int x4)]) hx hb dX10_go_272 rfl hl (by decide) rfl (fun ls hl => ?_)
        refine lv_aload_n hx hb dX10_go_273 rfl (lv_at hl 1 rfl) ?_
        refine tg_mem (ci := 10) (C := RX10) (T := TX10) (N := 49) hx hb hts inX10 hown hK hw 5 m_z0_5 rfl (by decide) (hts _ tw_1142) (fun _ h9 => h9) dX10_go_274 ?_
        refine lv_aload_n hx hb dX10_go_277 rfl (lv_at hl 1 rfl) ?_
        refine tg_mem (ci := 10) (C := RX10) (T := TX10) (N := 49) hx hb hts inX10 hown hK hw 6 m_z0_6 rfl (by decide) (hts _ tw_1143) (fun _ h9 => h9) dX10_go_278 ?_
        refine lv_isub hx hb dX10_go_281 (lv_topi (fun v_13 e_v_13 => ?_))
        obtain ⟨t_v_13, r_v_13⟩ := tq_sub (lo := (-940)) (hi := 939) r_z0_5 r_z0_6 (by decide +kernel) e_v_13
        have q_v_13 : z0_5 - z0_6 = v_13 := e_v_13.symm
        refine lv_bipush (v := 7) hx hb dX10_go_282 (by decide) ?_
        refine lv_icmp_ge (tgt := 307) hx hb dX10_go_284 (by decide) (fun c_284 => ?_) (fun c_284 => ?_)
        · have r_v_13 : RI v_13 7 939 := rc_le2 rl_7 r_v_13 (ti_le c_284) (by decide)
          simp only [f_X10_go__2_272, ↓reduceIte, q_z0_3, q_z0_4, q_z0_5, q_z0_6, q_v_13, eq_true c_284] at hE
          exact B307 x1 x2 y0 x4 z0_3 z0_4 z0_5 z0_6 s0 ws _ _ ls r_x1 r_x2 r_y0 r_x4 r_z0_3 m_z0_3 r_z0_4 m_z0_4 r_z0_5 m_z0_5 r_z0_6 m_z0_6 o_p0 (by have q0 := r_z0_5.1; have u0 := r_z0_5.2; omega) hE hw (lv_sub hl [1, 2, 3, 0, 4] rfl)
        · have r_v_13 : RI v_13 (-940) 6 := rc_lt1 r_v_13 rl_7 (ti_nle c_284) (by decide)
          refine lv_aload_n hx hb dX10_go_287 rfl (lv_at hl 1 rfl) ?_
          refine lv_ldc2 (v := 27) hx hb hown (hts _ tw_1312) dX10_go_288 ?_
          refine lv_aload_n hx hb dX10_go_291 rfl (lv_at hl 1 rfl) ?_
          refine tg_get (ci := 10) (ts := ty_MODEL) (C := RX10) (T := TX10) (N := 49) hx hb hts inX10 hown hK hw h_p0 rfl rfl 12 (by decide) (hts _ tw_1149) (fun _ h9 => h9) (ft := vJ (-9223372036854775808) 9223372036854775807) rfl dX10_go_292 (fun u_14 hv_u_14 m_u_14 => ?_)
          obtain ⟨vu_14, rfl, r_vu_14⟩ := hv_u_14
          have q_vu_14 : s0.2.1 12 = vu_14 := OV.eqL (V := vw_M5) hw.2.2.1 o_p0 m_u_14 (by decide)
          refine lv_lmul hx hb dX10_go_295 (lv_topl (fun w_15 e_w_15 => ?_))
          have r_w_15 := rj_any w_15
          have q_w_15 : (27 : Int64) * vu_14 = w_15 := e_w_15.symm
          refine lv_iload hx hb dX10_go_296 (lv_at hl 4 rfl) ?_
          obtain ⟨w_16, e_w_16⟩ : ∃ q9 : Int64, (x4 : Int32).toInt64 = q9 := ⟨_, rfl⟩
          refine lv_i2l (v := w_16) hx hb dX10_go_298 e_w_16 ?_
          have r_w_16 := tq_i2l r_x4 e_w_16
          have q_w_16 : Int32.toInt64 x4 = w_16 := e_w_16
          refine lv_ladd hx hb dX10_go_299 (lv_topl (fun w_17 e_w_17 => ?_))
          have r_w_17 := rj_any w_17
          have q_w_17 : w_15 + w_16 = w_17 := e_w_17.symm
          refine lv_ldc2 (v := 96) hx hb hown (hts _ tw_1313) dX10_go_300 ?_
          refine lv_lsub hx hb dX10_go_303 (lv_topl (fun w_18 e_w_18 => ?_))
          have r_w_18 := rj_any w_18
          have q_w_18 : w_17 - (96 : Int64) = w_18 := e_w_18.symm
          refine tg_put (ci := 10) (ts := ty_MODEL) (v := .long w_18) (ty := .long) (C := RX10) (T := TX10) (N := 49) hx hb hts inX10 tyX10 tyX10_ok nmX10 hown hK hw h_p0 rfl rfl 12 (by decide) (hts _ tw_1149) (fun _ h9 => h9) rfl (by decide +kernel) rfl rfl (ft := vJ (-9223372036854775808) 9223372036854775807) rfl ⟨_, rfl, r_w_18.to (by decide)⟩ (by decide) dX10_go_304 (fun ws H locs hw n_k_19 hF9 => ?_)
          have m_z0_3 := FLD.over hF9 m_z0_3 (by decide)
          have m_z0_4 := FLD.over hF9 m_z0_4 (by decide)
          have m_z0_5 := FLD.over hF9 m_z0_5 (by decide)
          have m_z0_6 := FLD.over hF9 m_z0_6 (by decide)
          obtain ⟨sg_20, q_sg_20⟩ : ∃ q9 : OS, sL s0 12 w_18 = q9 := ⟨_, rfl⟩
          have o_p0 : OV vw_M5 Ps ws p0 sg_20 := by rw [← q_sg_20]; exact OV.putL (V := vw_M5) hF9 n_k_19 o_p0 (by decide)
          simp only [f_X10_go__2_272, ↓reduceIte, q_z0_3, q_z0_4, q_z0_5, q_z0_6, q_v_13, eq_false c_284, q_vu_14, q_w_15, q_w_16, q_w_17, q_w_18, q_sg_20] at hE
          exact B307 x1 x2 y0 x4 z0_3 z0_4 z0_5 z0_6 sg_20 ws _ _ ls r_x1 r_x2 r_y0 r_x4 r_z0_3 m_z0_3 r_z0_4 m_z0_4 r_z0_5 m_z0_5 r_z0_6 m_z0_6 o_p0 (by have q0 := r_z0_5.1; have u0 := r_z0_5.2; omega) hE hw (lv_sub hl [1, 2, 3, 0, 4] rfl)
      have B271 : ∀ (x1 : Int32) (x2 : Int32) (x3 : Int32) (x4 : Int32) (z0_3 : Int32) (z0_4 : Int32) (z0_5 : Int32) (z0_6 : Int32) (s0 : OS) (ws : va_W) (H : Heap) (locs : List Loc) (ls : Array Slot), RI x1 48 122 → RI x2 0 1 → RI x3 0 1 → RI x4 0 255 → RI z0_3 1 940 → FLD ws p0 10 3 (.int z0_3) → RI z0_4 0 2147483647 → FLD ws p0 10 4 (.int z0_4) → RI z0_5 0 939 → FLD ws p0 10 5 (.int z0_5) → RI z0_6 0 940 → FLD ws p0 10 6 (.int z0_6) → OV vw_M5 Ps ws p0 s0 → 940 - z0_5.toInt < ((nf215 + 1 : Nat) : Int) → f_X10_go__2_271 (f_X10_go__2_215 nf215) x1 x2 x3 x4 s0 = R9 → WD D cy GG A s wr_X10_go__5 wa_X10_go__5 Ps w0 Ps ws H locs → lv_has ls 5 [(0, .ref p0), (1, .int x1), (2, .int x2), (3, .int x3), (4, .int x4)] → W p l e (headSpec (Cond.code yX10_go cX10_go 5 none :: gT) ({ frames := 2, cells := 0, slots := 0, locals := 400 } : Room)).room s m ([.ref p0] : List Value).toArray below meth c H locs 0 0 Q (F0 m 271 ls []) := by
        intro x1 x2 x3 x4 z0_3 z0_4 z0_5 z0_6 s0 ws H locs ls r_x1 r_x2 r_x3 r_x4 r_z0_3 m_z0_3 r_z0_4 m_z0_4 r_z0_5 m_z0_5 r_z0_6 m_z0_6 o_p0 hn215 hE hw hl
        have q_z0_3 : s0.1 3 = z0_3 := OV.eqI (V := vw_M5) hw.2.2.1 o_p0 m_z0_3 (by decide)
        have q_z0_4 : s0.1 4 = z0_4 := OV.eqI (V := vw_M5) hw.2.2.1 o_p0 m_z0_4 (by decide)
        have q_z0_5 : s0.1 5 = z0_5 := OV.eqI (V := vw_M5) hw.2.2.1 o_p0 m_z0_5 (by decide)
        have q_z0_6 : s0.1 6 = z0_6 := OV.eqI (V := vw_M5) hw.2.2.1 o_p0 m_z0_6 (by decide)
        refine lv_iconst (v := 0) hx hb dX10_go_271 (by decide) ?_
        simp only [f_X10_go__2_271, ↓reduceIte, q_z0_3, q_z0_4, q_z0_5, q_z0_6] at hE
        exact B272 x1 x2 x3 x4 0 z0_3 z0_4 z0_5 z0_6 s0 ws _ _ ls r_x1 r_x2 r_x3 r_x4 (rl_0.to (by decide)) r_z0_3 m_z0_3 r_z0_4 m_z0_4 r_z0_5 m_z0_5 r_z0_6 m_z0_6 o_p0 (by have q0 := r_z0_5.1; have u0 := r_z0_5.2; omega) hE hw hl
      have B243 : ∀ (x1 : Int32) (x2 : Int32) (x3 : Int32) (z0_3 : Int32) (z0_4 : Int32) (z0_5 : Int32) (z0_6 : Int32) (s0 : OS) (ws : va_W) (H : Heap) (locs : List Loc) (ls : Array Slot), RI x1 48 122 → RI x2 0 1 → RI x3 0 1 → RI z0_3 1 940 → FLD ws p0 10 3 (.int z0_3) → RI z0_4 0 2147483647 → FLD ws p0 10 4 (.int z0_4) → RI z0_5 0 939 → FLD ws p0 10 5 (.int z0_5) → RI z0_6 0 940 → FLD ws p0 10 6 (.int z0_6) → OV vw_M5 Ps ws p0 s0 → 940 - z0_5.toInt < ((nf215 + 1 : Nat) : Int) → f_X10_go__2_243 (f_X10_go__2_215 nf215) x1 x2 x3 s0 = R9 → WD D cy GG A s wr_X10_go__5 wa_X10_go__5 Ps w0 Ps ws H locs → lv_has ls 5 [(0, .ref p0), (1, .int x1), (2, .int x2), (3, .int x3)] → W p l e (headSpec (Cond.code yX10_go cX10_go 5 none :: gT) ({ frames := 2, cells := 0, slots := 0, locals := 400 } : Room)).room s m ([.ref p0] : List Value).toArray below meth c H locs 0 0 Q (F0 m 243 ls []) := by
        intro x1 x2 x3 z0_3 z0_4 z0_5 z0_6 s0 ws H locs ls r_x1 r_x2 r_x3 r_z0_3 m_z0_3 r_z0_4 m_z0_4 r_z0_5 m_z0_5 r_z0_6 m_z0_6 o_p0 hn215 hE hw hl
        have q_z0_3 : s0.1 3 = z0_3 := OV.eqI (V := vw_M5) hw.2.2.1 o_p0 m_z0_3 (by decide)
        have q_z0_4 : s0.1 4 = z0_4 := OV.eqI (V := vw_M5) hw.2.2.1 o_p0 m_z0_4 (by decide)
        have q_z0_5 : s0.1 5 = z0_5 := OV.eqI (V := vw_M5) hw.2.2.1 o_p0 m_z0_5 (by decide)
        have q_z0_6 : s0.1 6 = z0_6 := OV.eqI (V := vw_M5) hw.2.2.1 o_p0 m_z0_6 (by decide)
        refine lv_aload_n hx hb dX10_go_243 rfl (lv_at hl 0 rfl) ?_
        refine tg_get (ci := 10) (ts := ty_MODEL) (C := RX10) (T := TX10) (N := 49) hx hb hts inX10 hown hK hw h_p0 rfl rfl 1 (by decide) (hts _ tw_1138) (fun _ h9 => h9) (ft := vR 40) rfl dX10_go_244 (fun u_21 hv_u_21 m_u_21 => ?_)
        obtain ⟨vu_21, rfl, h_vu_21⟩ := hv_u_21
        refine lv_aload_n hx hb dX10_go_247 rfl (lv_at hl 0 rfl) ?_
        refine tg_mem (ci := 10) (C := RX10) (T := TX10) (N := 49) hx hb hts inX10 hown hK hw 5 m_z0_5 rfl (by decide) (hts _ tw_1142) (fun _ h9 => h9) dX10_go_248 ?_
        refine tg_iald (lo := 0) (hi := 255) hx hb hK hw h_vu_21 rfl 0 939 r_z0_5 (by decide) (by exact fun _ _ _ => ⟨Int.le_refl _, Int.le_refl _⟩) dX10_go_251 (fun v_22 r_v_22 m_v_22 o_v_22 => ?_)
        have q_v_22 : s0.2.2.1 1 (Int32.toNatClampNeg z0_5) = v_22 := OV.eqA (V := vw_M5) (t := 40) hw.2.2.1 o_p0 m_u_21 m_v_22 (by decide)
        refine lv_istore (lv' := [(4, .int v_22), (0, .ref p0), (1, .int x1), (2, .int x2), (3, .int x3)]) hx hb dX10_go_252 hl (by decide) rfl (fun ls hl => ?_)
        refine lv_iload_n hx hb dX10_go_254 rfl (lv_at hl 4 rfl) ?_
        refine lv_if_eq (tgt := 271) hx hb dX10_go_255 (by decide) (fun c_255 => ?_) (fun c_255 => ?_)
        · have r_x3 : RI x3 0 0 := rc_eq1 r_x3 rl_0 (ti_eq c_255) (by decide)
          simp only [f_X10_go__2_243, ↓reduceIte, q_z0_3, q_z0_4, q_z0_5, q_z0_6, q_v_22, eq_true c_255] at hE
          exact B271 x1 x2 x3 v_22 z0_3 z0_4 z0_5 z0_6 s0 ws _ _ ls r_x1 r_x2 (r_x3.to (by decide)) r_v_22 r_z0_3 m_z0_3 r_z0_4 m_z0_4 r_z0_5 m_z0_5 r_z0_6 m_z0_6 o_p0 (by have q0 := r_z0_5.1; have u0 := r_z0_5.2; omega) hE hw (lv_sub hl [1, 2, 3, 4, 0] rfl)
        · have r_x3 : RI x3 1 1 := rc_neL r_x3 rl_0 (ti_ne c_255) (by decide)
          refine lv_iload hx hb dX10_go_258 (lv_at hl 0 rfl) ?_
          refine tk_ir (va_runS (As := [.int v_22]) (rest := []) ⟨hx, hb, hml, hown, hts⟩ (c_X10_isLetter__4 l D cy z H.size Ps ws hw.1 v_22 r_v_22) (va_cwS 1 hts (gS tw_1302 tw_1303 tw_15 tw_1304) rfl rfl rfl (by decide +kernel) ⟨Nat.le_of_ble_eq_true rfl, Nat.le_of_ble_eq_true rfl⟩) (tg_preS hw hK hSD hA) rfl rfl hl.1 rfl (lv_room (Nat.le_of_ble_eq_true rfl)) dX10_go_260 ⟨Nat.le_of_ble_eq_true rfl, Nat.le_of_ble_eq_true rfl⟩) hw hA (fun v_23  H locs hp_v_23 hw => ?_)
          obtain ⟨hfn, hp_v_23⟩ := hp_v_23
          have q_v_23 : (f_X10_isLetter__2 v_22) = v_23 := hfn.1
          have r_v_23 : RI v_23 0 1 := hp_v_23.1
          refine lv_iload_n hx hb dX10_go_263 rfl (lv_at hl 3 rfl) ?_
          refine lv_icmp_ne (tgt := 271) hx hb dX10_go_264 (by decide) (fun c_264 => ?_) (fun c_264 => ?_)
          · simp only [f_X10_go__2_243, ↓reduceIte, q_z0_3, q_z0_4, q_z0_5, q_z0_6, q_v_22, eq_false c_255, q_v_23, eq_false c_264] at hE
            exact B271 x1 x2 x3 v_22 z0_3 z0_4 z0_5 z0_6 s0 ws _ _ ls r_x1 r_x2 (r_x3.to (by decide)) r_v_22 r_z0_3 m_z0_3 r_z0_4 m_z0_4 r_z0_5 m_z0_5 r_z0_6 m_z0_6 o_p0 (by have q0 := r_z0_5.1; have u0 := r_z0_5.2; omega) hE hw (lv_sub hl [1, 2, 3, 4, 0] rfl)
          · refine lv_iconst (v := 1) hx hb dX10_go_267 (by decide) ?_
            refine lv_goto (tgt := 272) hx hb dX10_go_268 (by decide) ?_
            simp only [f_X10_go__2_243, ↓reduceIte, q_z0_3, q_z0_4, q_z0_5, q_z0_6, q_v_22, eq_false c_255, q_v_23, eq_true c_264] at hE
            exact B272 x1 x2 x3 v_22 1 z0_3 z0_4 z0_5 z0_6 s0 ws _ _ ls r_x1 r_x2 (r_x3.to (by decide)) r_v_22 (rl_1.to (by decide)) r_z0_3 m_z0_3 r_z0_4 m_z0_4 r_z0_5 m_z0_5 r_z0_6 m_z0_6 o_p0 (by have q0 := r_z0_5.1; have u0 := r_z0_5.2; omega) hE hw (lv_sub hl [1, 2, 3, 4, 0] rfl)
      intro x1 x2 x3 z0_3 z0_4 z0_5 z0_6 s0 ws H locs ls hn215 r_x1 r_x2 r_x3 r_z0_3 m_z0_3 r_z0_4 m_z0_4 r_z0_5 m_z0_5 r_z0_6 m_z0_6 o_p0 hE hw hl
      have q_z0_3 : s0.1 3 = z0_3 := OV.eqI (V := vw_M5) hw.2.2.1 o_p0 m_z0_3 (by decide)
      have q_z0_4 : s0.1 4 = z0_4 := OV.eqI (V := vw_M5) hw.2.2.1 o_p0 m_z0_4 (by decide)
      have q_z0_5 : s0.1 5 = z0_5 := OV.eqI (V := vw_M5) hw.2.2.1 o_p0 m_z0_5 (by decide)
      have q_z0_6 : s0.1 6 = z0_6 := OV.eqI (V := vw_M5) hw.2.2.1 o_p0 m_z0_6 (by decide)
      refine lv_aload_n hx hb dX10_go_215 rfl (lv_at hl 0 rfl) ?_
      refine lv_aload_n hx hb dX10_go_216 rfl (lv_at hl 0 rfl) ?_
      refine tg_mem (ci := 10) (C := RX10) (T := TX10) (N := 49) hx hb hts inX10 hown hK hw 5 m_z0_5 rfl (by decide) (hts _ tw_1142) (fun _ h9 => h9) dX10_go_217 ?_
      refine tk_ir (va_runV (As := [.int z0_5]) (rest := []) ⟨hx, hb, hml, hown, hts⟩ (c_X10_tapeAt__3 l D cy z H.size Ps ws hw.1 p0 z0_5 s0 h_p0 r_z0_5 o_p0) (cwV 1 hts (gV tw_1308 tw_1310 ts_41 tw_15 tw_1311) rfl rfl rfl (by decide +kernel) ⟨Nat.le_of_ble_eq_true rfl, Nat.le_of_ble_eq_true rfl⟩) (tg_preV hw hK hSD hA (ci := 10) (q := (RX10, TX10, 49)) rfl h_p0 rfl) rfl rfl hl.1 rfl (lv_room (Nat.le_of_ble_eq_true rfl)) dX10_go_220 ⟨Nat.le_of_ble_eq_true rfl, Nat.le_of_ble_eq_true rfl⟩) hw hA (fun v_24  H locs hp_v_24 hw => ?_)
      obtain ⟨hfn, hp_v_24⟩ := hp_v_24
      have q_v_24 : (f_X10_tapeAt__1 z0_5 s0) = v_24 := hfn.1
      have r_v_24 : RI v_24 0 255 := hp_v_24.1
      refine tk_ir (va_runS (As := [.int v_24]) (rest := []) ⟨hx, hb, hml, hown, hts⟩ (c_X10_isLetter__4 l D cy z H.size Ps ws hw.1 v_24 r_v_24) (va_cwS 1 hts (gS tw_1302 tw_1303 tw_15 tw_1304) rfl rfl rfl (by decide +kernel) ⟨Nat.le_of_ble_eq_true rfl, Nat.le_of_ble_eq_true rfl⟩) (tg_preS hw hK hSD hA) rfl rfl hl.1 rfl (lv_room (Nat.le_of_ble_eq_true rfl)) dX10_go_223 ⟨Nat.le_of_ble_eq_true rfl, Nat.le_of_ble_eq_true rfl⟩) hw hA (fun v_25  H locs hp_v_25 hw => ?_)
      obtain ⟨hfn, hp_v_25⟩ := hp_v_25
      have q_v_25 : (f_X10_isLetter__2 v_24) = v_25 := hfn.1
      have r_v_25 : RI v_25 0 1 := hp_v_25.1
      refine lv_if_ne (tgt := 243) hx hb dX10_go_226 (by decide) (fun c_226 => ?_) (fun c_226 => ?_)
      · have r_v_25 : RI v_25 1 1 := rc_neL r_v_25 rl_0 (ti_ne c_226) (by decide)
        have r_v_24 : RI v_24 97 122 := ((hp_v_25.2.2 c_226).1)
        have r_z0_5 : RI z0_5 0 939 := ((hp_v_24.2.2 (ri_ne0 r_v_24 (by decide))).1)
        simp only [f_X10_go__2_215, ↓reduceIte, q_z0_3, q_z0_4, q_z0_5, q_z0_6, q_v_24, q_v_25, eq_false c_226] at hE
        exact B243 x1 x2 x3 z0_3 z0_4 z0_5 z0_6 s0 ws _ _ ls r_x1 r_x2 r_x3 r_z0_3 m_z0_3 r_z0_4 m_z0_4 r_z0_5 m_z0_5 r_z0_6 m_z0_6 o_p0 (by have q0 := r_z0_5.1; have u0 := r_z0_5.2; omega) hE hw hl
      · have r_v_25 : RI v_25 0 0 := rc_eq1 r_v_25 rl_0 (ti_eq c_226) (by decide)
        refine lv_aload_n hx hb dX10_go_229 rfl (lv_at hl 0 rfl) ?_
        refine lv_aload_n hx hb dX10_go_230 rfl (lv_at hl 0 rfl) ?_
        refine tg_mem (ci := 10) (C := RX10) (T := TX10) (N := 49) hx hb hts inX10 hown hK hw 5 m_z0_5 rfl (by decide) (hts _ tw_1142) (fun _ h9 => h9) dX10_go_231 ?_
        refine tk_ir (va_runV (As := [.int z0_5]) (rest := []) ⟨hx, hb, hml, hown, hts⟩ (c_X10_tapeAt__3 l D cy z H.size Ps ws hw.1 p0 z0_5 s0 h_p0 r_z0_5 o_p0) (cwV 1 hts (gV tw_1308 tw_1310 ts_41 tw_15 tw_1311) rfl rfl rfl (by decide +kernel) ⟨Nat.le_of_ble_eq_true rfl, Nat.le_of_ble_eq_true rfl⟩) (tg_preV hw hK hSD hA (ci := 10) (q := (RX10, TX10, 49)) rfl h_p0 rfl) rfl rfl hl.1 rfl (lv_room (Nat.le_of_ble_eq_true rfl)) dX10_go_234 ⟨Nat.le_of_ble_eq_true rfl, Nat.le_of_ble_eq_true rfl⟩) hw hA (fun v_26  H locs hp_v_26 hw => ?_)
        obtain ⟨hfn, hp_v_26⟩ := hp_v_26
        have z9 : v_24 = v_26 := q_v_24.symm.trans (hfn.1)
        subst z9
        have r_v_24 : RI v_24 0 255 := hp_v_26.1
        refine tk_ir (va_runS (As := [.int v_24]) (rest := []) ⟨hx, hb, hml, hown, hts⟩ (c_X10_isDigit__2 l D cy z H.size Ps ws hw.1 v_24 r_v_24) (va_cwS 1 hts (gS tw_1305 tw_1306 tw_15 tw_1307) rfl rfl rfl (by decide +kernel) ⟨Nat.le_of_ble_eq_true rfl, Nat.le_of_ble_eq_true rfl⟩) (tg_preS hw hK hSD hA) rfl rfl hl.1 rfl (lv_room (Nat.le_of_ble_eq_true rfl)) dX10_go_237 ⟨Nat.le_of_ble_eq_true rfl, Nat.le_of_ble_eq_true rfl⟩) hw hA (fun v_27  H locs hp_v_27 hw => ?_)
        obtain ⟨hfn, hp_v_27⟩ := hp_v_27
        have q_v_27 : (f_X10_isDigit__1 v_24) = v_27 := hfn.1
        have r_v_27 : RI v_27 0 1 := hp_v_27.1
        refine lv_if_eq (tgt := 350) hx hb dX10_go_240 (by decide) (fun c_240 => ?_) (fun c_240 => ?_)
        · have r_v_27 : RI v_27 0 0 := rc_eq1 r_v_27 rl_0 (ti_eq c_240) (by decide)
          refine lv_aload_n hx hb dX10_go_350 rfl (lv_at hl 0 rfl) ?_
          refine lv_iload_n hx hb dX10_go_351 rfl (lv_at hl 3 rfl) ?_
          refine lv_if_eq (tgt := 377) hx hb dX10_go_352 (by decide) (fun c_352 => ?_) (fun c_352 => ?_)
          · have r_x3 : RI x3 0 0 := rc_eq1 r_x3 rl_0 (ti_eq c_352) (by decide)
            simp only [f_X10_go__2_215, ↓reduceIte, q_z0_3, q_z0_4, q_z0_5, q_z0_6, q_v_24, q_v_25, eq_true c_226, q_v_27, eq_true c_240, eq_true c_352] at hE
            exact B377 x1 x2 x3 z0_3 z0_4 z0_5 z0_6 s0 ws _ _ ls r_x1 r_x2 (r_x3.to (by decide)) r_z0_3 m_z0_3 r_z0_4 m_z0_4 r_z0_5 m_z0_5 r_z0_6 m_z0_6 o_p0 hE hw hl
          · have r_x3 : RI x3 1 1 := rc_neL r_x3 rl_0 (ti_ne c_352) (by decide)
            refine lv_aload_n hx hb dX10_go_355 rfl (lv_at hl 0 rfl) ?_
            refine tg_mem (ci := 10) (C := RX10) (T := TX10) (N := 49) hx hb hts inX10 hown hK hw 5 m_z0_5 rfl (by decide) (hts _ tw_1142) (fun _ h9 => h9) dX10_go_356 ?_
            refine lv_aload_n hx hb dX10_go_359 rfl (lv_at hl 0 rfl) ?_
            refine tg_mem (ci := 10) (C := RX10) (T := TX10) (N := 49) hx hb hts inX10 hown hK hw 6 m_z0_6 rfl (by decide) (hts _ tw_1143) (fun _ h9 => h9) dX10_go_360 ?_
            refine lv_isub hx hb dX10_go_363 (lv_topi (fun v_28 e_v_28 => ?_))
            obtain ⟨t_v_28, r_v_28⟩ := tq_sub (lo := (-940)) (hi := 940) r_z0_5 r_z0_6 (by decide +kernel) e_v_28
            have q_v_28 : z0_5 - z0_6 = v_28 := e_v_28.symm
            refine lv_iload_n hx hb dX10_go_364 rfl (lv_at hl 2 rfl) ?_
            refine lv_if_eq (tgt := 373) hx hb dX10_go_365 (by decide) (fun c_365 => ?_) (fun c_365 => ?_)
            · have r_x2 : RI x2 0 0 := rc_eq1 r_x2 rl_0 (ti_eq c_365) (by decide)
              refine lv_iconst (v := 3) hx hb dX10_go_373 (by decide) ?_
              simp only [f_X10_go__2_215, ↓reduceIte, q_z0_3, q_z0_4, q_z0_5, q_z0_6, q_v_24, q_v_25, eq_true c_226, q_v_27, eq_true c_240, eq_false c_352, q_v_28, eq_true c_365] at hE
              exact B374 x1 x2 x3 3 v_28 z0_3 z0_4 z0_5 z0_6 s0 ws _ _ ls r_x1 (r_x2.to (by decide)) r_x3 (rl_3.to (by decide)) r_v_28 r_z0_3 m_z0_3 r_z0_4 m_z0_4 r_z0_5 m_z0_5 r_z0_6 m_z0_6 o_p0 hE hw hl
            · have r_x2 : RI x2 1 1 := rc_neL r_x2 rl_0 (ti_ne c_365) (by decide)
              refine lv_bipush (v := 7) hx hb dX10_go_368 (by decide) ?_
              refine lv_goto (tgt := 374) hx hb dX10_go_370 (by decide) ?_
              simp only [f_X10_go__2_215, ↓reduceIte, q_z0_3, q_z0_4, q_z0_5, q_z0_6, q_v_24, q_v_25, eq_true c_226, q_v_27, eq_true c_240, eq_false c_352, q_v_28, eq_false c_365] at hE
              exact B374 x1 x2 x3 7 v_28 z0_3 z0_4 z0_5 z0_6 s0 ws _ _ ls r_x1 (r_x2.to (by decide)) r_x3 (rl_7.to (by decide)) r_v_28 r_z0_3 m_z0_3 r_z0_4 m_z0_4 r_z0_5 m_z0_5 r_z0_6 m_z0_6 o_p0 hE hw hl
        · have r_v_27 : RI v_27 1 1 := rc_neL r_v_27 rl_0 (ti_ne c_240) (by decide)
          have r_v_24 : RI v_24 48 57 := ((hp_v_27.2.2 c_240).1)
          have r_z0_5 : RI z0_5 0 939 := ((hp_v_26.2.2 (ri_ne0 r_v_24 (by decide))).1)
          simp only [f_X10_go__2_215, ↓reduceIte, q_z0_3, q_z0_4, q_z0_5, q_z0_6, q_v_24, q_v_25, eq_true c_226, q_v_27, eq_false c_240] at hE
          exact B243 x1 x2 x3 z0_3 z0_4 z0_5 z0_6 s0 ws _ _ ls r_x1 r_x2 r_x3 r_z0_3 m_z0_3 r_z0_4 m_z0_4 r_z0_5 m_z0_5 r_z0_6 m_z0_6 o_p0 (by have q0 := r_z0_5.1; have u0 := r_z0_5.2; omega) hE hw hl
  have B198 : ∀ (x1 : Int32) (z0_3 : Int32) (z0_4 : Int32) (z0_5 : Int32) (z0_6 : Int32) (s0 : OS) (ws : va_W) (H : Heap) (locs : List Loc) (ls : Array Slot), RI x1 48 122 → RI z0_3 1 940 → FLD ws p0 10 3 (.int z0_3) → RI z0_4 0 2147483647 → FLD ws p0 10 4 (.int z0_4) → RI z0_5 0 939 → FLD ws p0 10 5 (.int z0_5) → RI z0_6 0 940 → FLD ws p0 10 6 (.int z0_6) → OV vw_M5 Ps ws p0 s0 → f_X10_go__2_198 x1 s0 = R9 → WD D cy GG A s wr_X10_go__5 wa_X10_go__5 Ps w0 Ps ws H locs → lv_has ls 5 [(0, .ref p0), (1, .int x1)] → W p l e (headSpec (Cond.code yX10_go cX10_go 5 none :: gT) ({ frames := 2, cells := 0, slots := 0, locals := 400 } : Room)).room s m ([.ref p0] : List Value).toArray below meth c H locs 0 0 Q (F0 m 198 ls []) := by
    intro x1 z0_3 z0_4 z0_5 z0_6 s0 ws H locs ls r_x1 r_z0_3 m_z0_3 r_z0_4 m_z0_4 r_z0_5 m_z0_5 r_z0_6 m_z0_6 o_p0 hE hw hl
    have q_z0_3 : s0.1 3 = z0_3 := OV.eqI (V := vw_M5) hw.2.2.1 o_p0 m_z0_3 (by decide)
    have q_z0_4 : s0.1 4 = z0_4 := OV.eqI (V := vw_M5) hw.2.2.1 o_p0 m_z0_4 (by decide)
    have q_z0_5 : s0.1 5 = z0_5 := OV.eqI (V := vw_M5) hw.2.2.1 o_p0 m_z0_5 (by decide)
    have q_z0_6 : s0.1 6 = z0_6 := OV.eqI (V := vw_M5) hw.2.2.1 o_p0 m_z0_6 (by decide)
    refine lv_iload_n hx hb dX10_go_198 rfl (lv_at hl 1 rfl) ?_
    refine tk_ir (va_runS (As := [.int x1]) (rest := []) ⟨hx, hb, hml, hown, hts⟩ (c_X10_isLetter__5 l D cy z H.size Ps ws hw.1 x1 r_x1) (va_cwS 1 hts (gS tw_1302 tw_1303 tw_15 tw_1304) rfl rfl rfl (by decide +kernel) ⟨Nat.le_of_ble_eq_true rfl, Nat.le_of_ble_eq_true rfl⟩) (tg_preS hw hK hSD hA) rfl rfl hl.1 rfl (lv_room (Nat.le_of_ble_eq_true rfl)) dX10_go_199 ⟨Nat.le_of_ble_eq_true rfl, Nat.le_of_ble_eq_true rfl⟩) hw hA (fun v_29  H locs hp_v_29 hw => ?_)
    obtain ⟨hfn, hp_v_29⟩ := hp_v_29
    have q_v_29 : (f_X10_isLetter__3 x1) = v_29 := hfn.1
    have r_v_29 : RI v_29 0 1 := hp_v_29.1
    refine lv_istore_n (lv' := [(2, .int v_29), (0, .ref p0), (1, .int x1)]) hx hb dX10_go_202 rfl hl (by decide) rfl (fun ls hl => ?_)
    refine lv_iconst (v := 1) hx hb dX10_go_203 (by decide) ?_
    refine lv_istore_n (lv' := [(3, .int 1), (2, .int v_29), (0, .ref p0), (1, .int x1)]) hx hb dX10_go_204 rfl hl (by decide) rfl (fun ls hl => ?_)
    refine lv_aload_n hx hb dX10_go_205 rfl (lv_at hl 2 rfl) ?_
    refine lv_lconst (v := 0) hx hb dX10_go_206 (by decide) ?_
    refine tg_put (ci := 10) (ts := ty_MODEL) (v := .long 0) (ty := .long) (C := RX10) (T := TX10) (N := 49) hx hb hts inX10 tyX10 tyX10_ok nmX10 hown hK hw h_p0 rfl rfl 12 (by decide) (hts _ tw_1149) (fun _ h9 => h9) rfl (by decide +kernel) rfl rfl (ft := vJ (-9223372036854775808) 9223372036854775807) rfl ⟨_, rfl, rk_0.to (by decide)⟩ (by decide) dX10_go_207 (fun ws H locs hw n_k_30 hF9 => ?_)
    have m_z0_3 := FLD.over hF9 m_z0_3 (by decide)
    have m_z0_4 := FLD.over hF9 m_z0_4 (by decide)
    have m_z0_5 := FLD.over hF9 m_z0_5 (by decide)
    have m_z0_6 := FLD.over hF9 m_z0_6 (by decide)
    obtain ⟨sg_31, q_sg_31⟩ : ∃ q9 : OS, sL s0 12 (0 : Int64) = q9 := ⟨_, rfl⟩
    have o_p0 : OV vw_M5 Ps ws p0 sg_31 := by rw [← q_sg_31]; exact OV.putL (V := vw_M5) hF9 n_k_30 o_p0 (by decide)
    refine lv_aload_n hx hb dX10_go_210 rfl (lv_at hl 2 rfl) ?_
    refine lv_iconst (v := 0) hx hb dX10_go_211 (by decide) ?_
    refine tg_put (ci := 10) (ts := ty_MODEL) (v := .int 0) (ty := .int) (C := RX10) (T := TX10) (N := 49) hx hb hts inX10 tyX10 tyX10_ok nmX10 hown hK hw h_p0 rfl rfl 8 (by decide) (hts _ tw_1145) (fun _ h9 => h9) rfl (by decide +kernel) rfl rfl (ft := vI (-2147483648) 2147483647) rfl ⟨_, rfl, (rl_0.to (by decide))⟩ (by decide) dX10_go_212 (fun ws H locs hw n_k_32 hF9 => ?_)
    have m_z0_3 := FLD.over hF9 m_z0_3 (by decide)
    have m_z0_4 := FLD.over hF9 m_z0_4 (by decide)
    have m_z0_5 := FLD.over hF9 m_z0_5 (by decide)
    have m_z0_6 := FLD.over hF9 m_z0_6 (by decide)
    obtain ⟨sg_33, q_sg_33⟩ : ∃ q9 : OS, sI sg_31 8 (0 : Int32) = q9 := ⟨_, rfl⟩
    have o_p0 : OV vw_M5 Ps ws p0 sg_33 := by rw [← q_sg_33]; exact OV.putI (V := vw_M5) hF9 n_k_32 o_p0 (by decide)
    simp only [f_X10_go__2_198, ↓reduceIte, q_z0_3, q_z0_4, q_z0_5, q_z0_6, q_v_29, q_sg_31, q_sg_33] at hE
    exact B215 4294967298 x1 v_29 1 z0_3 z0_4 z0_5 z0_6 sg_33 ws _ _ ls (by have q0 := r_z0_5.1; have u0 := r_z0_5.2; omega) r_x1 r_v_29 (rl_1.to (by decide)) r_z0_3 m_z0_3 r_z0_4 m_z0_4 (r_z0_5.to (by decide)) m_z0_5 r_z0_6 m_z0_6 o_p0 hE hw (lv_sub hl [2, 3, 1, 0] rfl)
  have B179 : ∀ (x1 : Int32) (y0 : Int32) (z0_3 : Int32) (z0_4 : Int32) (z0_5 : Int32) (z0_6 : Int32) (s0 : OS) (ws : va_W) (H : Heap) (locs : List Loc) (ls : Array Slot), RI x1 0 255 → RI y0 1 4 → RI z0_3 1 940 → FLD ws p0 10 3 (.int z0_3) → RI z0_4 0 2147483647 → FLD ws p0 10 4 (.int z0_4) → RI z0_5 0 939 → FLD ws p0 10 5 (.int z0_5) → RI z0_6 0 940 → FLD ws p0 10 6 (.int z0_6) → OV vw_M5 Ps ws p0 s0 → f_X10_go__2_179 x1 y0 s0 = R9 → WD D cy GG A s wr_X10_go__5 wa_X10_go__5 Ps w0 Ps ws H locs → lv_has ls 5 [(0, .ref p0), (1, .int x1)] → W p l e (headSpec (Cond.code yX10_go cX10_go 5 none :: gT) ({ frames := 2, cells := 0, slots := 0, locals := 400 } : Room)).room s m ([.ref p0] : List Value).toArray below meth c H locs 0 0 Q (F0 m 179 ls [.int y0, .ref p0]) := by
    intro x1 y0 z0_3 z0_4 z0_5 z0_6 s0 ws H locs ls r_x1 r_y0 r_z0_3 m_z0_3 r_z0_4 m_z0_4 r_z0_5 m_z0_5 r_z0_6 m_z0_6 o_p0 hE hw hl
    have q_z0_3 : s0.1 3 = z0_3 := OV.eqI (V := vw_M5) hw.2.2.1 o_p0 m_z0_3 (by decide)
    have q_z0_4 : s0.1 4 = z0_4 := OV.eqI (V := vw_M5) hw.2.2.1 o_p0 m_z0_4 (by decide)
    have q_z0_5 : s0.1 5 = z0_5 := OV.eqI (V := vw_M5) hw.2.2.1 o_p0 m_z0_5 (by decide)
    have q_z0_6 : s0.1 6 = z0_6 := OV.eqI (V := vw_M5) hw.2.2.1 o_p0 m_z0_6 (by decide)
    refine tg_put (ci := 10) (ts := ty_MODEL) (v := .int y0) (ty := .int) (C := RX10) (T := TX10) (N := 49) hx hb hts inX10 tyX10 tyX10_ok nmX10 hown hK hw h_p0 rfl rfl 7 (by decide) (hts _ tw_1144) (fun _ h9 => h9) rfl (by decide +kernel) rfl rfl (ft := vI (-2147483648) 2147483647) rfl ⟨_, rfl, (r_y0.to (by decide))⟩ (by decide) dX10_go_179 (fun ws H locs hw n_k_34 hF9 => ?_)
    have m_z0_3 := FLD.over hF9 m_z0_3 (by decide)
    have m_z0_4 := FLD.over hF9 m_z0_4 (by decide)
    have m_z0_5 := FLD.over hF9 m_z0_5 (by decide)
    have m_z0_6 := FLD.over hF9 m_z0_6 (by decide)
    obtain ⟨sg_35, q_sg_35⟩ : ∃ q9 : OS, sI s0 7 y0 = q9 := ⟨_, rfl⟩
    have o_p0 : OV vw_M5 Ps ws p0 sg_35 := by rw [← q_sg_35]; exact OV.putI (V := vw_M5) hF9 n_k_34 o_p0 (by decide)
    refine lv_aload_n hx hb dX10_go_182 rfl (lv_at hl 0 rfl) ?_
    refine lv_iload_n hx hb dX10_go_183 rfl (lv_at hl 1 rfl) ?_
    refine tg_put (ci := 10) (ts := ty_MODEL) (v := .int x1) (ty := .int) (C := RX10) (T := TX10) (N := 49) hx hb hts inX10 tyX10 tyX10_ok nmX10 hown hK hw h_p0 rfl rfl 9 (by decide) (hts _ tw_1146) (fun _ h9 => h9) rfl (by decide +kernel) rfl rfl (ft := vI (-2147483648) 2147483647) rfl ⟨_, rfl, (r_x1.to (by decide))⟩ (by decide) dX10_go_184 (fun ws H locs hw n_k_36 hF9 => ?_)
    have m_z0_3 := FLD.over hF9 m_z0_3 (by decide)
    have m_z0_4 := FLD.over hF9 m_z0_4 (by decide)
    have m_z0_5 := FLD.over hF9 m_z0_5 (by decide)
    have m_z0_6 := FLD.over hF9 m_z0_6 (by decide)
    have n_k_34 := FLD.over hF9 n_k_34 (by decide)
    obtain ⟨sg_37, q_sg_37⟩ : ∃ q9 : OS, sI sg_35 9 x1 = q9 := ⟨_, rfl⟩
    have o_p0 : OV vw_M5 Ps ws p0 sg_37 := by rw [← q_sg_37]; exact OV.putI (V := vw_M5) hF9 n_k_36 o_p0 (by decide)
    refine lv_aload_n hx hb dX10_go_187 rfl (lv_at hl 0 rfl) ?_
    refine lv_dup hx hb dX10_go_188 rfl ?_
    refine tg_mem (ci := 10) (C := RX10) (T := TX10) (N := 49) hx hb hts inX10 hown hK hw 5 m_z0_5 rfl (by decide) (hts _ tw_1142) (fun _ h9 => h9) dX10_go_189 ?_
    refine lv_iconst (v := 1) hx hb dX10_go_192 (by decide) ?_
    refine lv_iadd hx hb dX10_go_193 (lv_topi (fun v_38 e_v_38 => ?_))
    obtain ⟨t_v_38, r_v_38⟩ := tq_add (lo := 1) (hi := 940) r_z0_5 rl_1 (by decide +kernel) e_v_38
    have t_v_38 : v_38.toInt = z0_5.toInt + 1 := t_v_38
    have q_v_38 : z0_5 + (1 : Int32) = v_38 := e_v_38.symm
    refine tg_put (ci := 10) (ts := ty_MODEL) (v := .int v_38) (ty := .int) (C := RX10) (T := TX10) (N := 49) hx hb hts inX10 tyX10 tyX10_ok nmX10 hown hK hw h_p0 rfl rfl 5 (by decide) (hts _ tw_1142) (fun _ h9 => h9) rfl (by decide +kernel) rfl rfl (ft := vI 0 940) rfl ⟨_, rfl, (r_v_38.to (by decide))⟩ (by decide) dX10_go_194 (fun ws H locs hw n_k_39 hF9 => ?_)
    have m_z0_3 := FLD.over hF9 m_z0_3 (by decide)
    have m_z0_4 := FLD.over hF9 m_z0_4 (by decide)
    have m_z0_6 := FLD.over hF9 m_z0_6 (by decide)
    have n_k_34 := FLD.over hF9 n_k_34 (by decide)
    have n_k_36 := FLD.over hF9 n_k_36 (by decide)
    obtain ⟨sg_40, q_sg_40⟩ : ∃ q9 : OS, sI sg_37 5 v_38 = q9 := ⟨_, rfl⟩
    have o_p0 : OV vw_M5 Ps ws p0 sg_40 := by rw [← q_sg_40]; exact OV.putI (V := vw_M5) hF9 n_k_39 o_p0 (by decide)
    simp only [f_X10_go__2_179, ↓reduceIte, q_z0_3, q_z0_4, q_z0_5, q_z0_6, q_sg_35, q_sg_37, q_v_38, q_sg_40] at hE
    subst hQ
    exact W.vret hx hb hr (fun t ht hW => ⟨⟨ws, rfl, ⟨⟨⟨(by rw [hR, ← hE]; exact o_p0), trivial⟩, trivial⟩, hw.1, hw.2.2.2.2.1⟩, by rw [ht]; exact hw.2.1, va_K.moved hW.alike hK, hw.2.2.1⟩, hw.2.2.2.1.F ht⟩) hw.2.2.2.1.2.2 dX10_go_197
  have B174 : ∀ (x1 : Int32) (z0_3 : Int32) (z0_4 : Int32) (z0_5 : Int32) (z0_6 : Int32) (s0 : OS) (ws : va_W) (H : Heap) (locs : List Loc) (ls : Array Slot), RI x1 40 62 → RI z0_3 1 940 → FLD ws p0 10 3 (.int z0_3) → RI z0_4 0 2147483647 → FLD ws p0 10 4 (.int z0_4) → RI z0_5 0 939 → FLD ws p0 10 5 (.int z0_5) → RI z0_6 0 940 → FLD ws p0 10 6 (.int z0_6) → OV vw_M5 Ps ws p0 s0 → f_X10_go__2_174 x1 s0 = R9 → WD D cy GG A s wr_X10_go__5 wa_X10_go__5 Ps w0 Ps ws H locs → lv_has ls 5 [(0, .ref p0), (1, .int x1)] → W p l e (headSpec (Cond.code yX10_go cX10_go 5 none :: gT) ({ frames := 2, cells := 0, slots := 0, locals := 400 } : Room)).room s m ([.ref p0] : List Value).toArray below meth c H locs 0 0 Q (F0 m 174 ls [.ref p0]) := by
    intro x1 z0_3 z0_4 z0_5 z0_6 s0 ws H locs ls r_x1 r_z0_3 m_z0_3 r_z0_4 m_z0_4 r_z0_5 m_z0_5 r_z0_6 m_z0_6 o_p0 hE hw hl
    have q_z0_3 : s0.1 3 = z0_3 := OV.eqI (V := vw_M5) hw.2.2.1 o_p0 m_z0_3 (by decide)
    have q_z0_4 : s0.1 4 = z0_4 := OV.eqI (V := vw_M5) hw.2.2.1 o_p0 m_z0_4 (by decide)
    have q_z0_5 : s0.1 5 = z0_5 := OV.eqI (V := vw_M5) hw.2.2.1 o_p0 m_z0_5 (by decide)
    have q_z0_6 : s0.1 6 = z0_6 := OV.eqI (V := vw_M5) hw.2.2.1 o_p0 m_z0_6 (by decide)
    refine lv_iconst (v := 4) hx hb dX10_go_174 (by decide) ?_
    refine lv_goto (tgt := 179) hx hb dX10_go_175 (by decide) ?_
    simp only [f_X10_go__2_174, ↓reduceIte, q_z0_3, q_z0_4, q_z0_5, q_z0_6] at hE
    exact B179 x1 4 z0_3 z0_4 z0_5 z0_6 s0 ws _ _ ls (r_x1.to (by decide)) (rl_4.to (by decide)) r_z0_3 m_z0_3 r_z0_4 m_z0_4 r_z0_5 m_z0_5 r_z0_6 m_z0_6 o_p0 hE hw hl
  have B96 : ∀ (z0_4 : Int32) (z0_5 : Int32) (z0_6 : Int32) (s0 : OS) (ws : va_W) (H : Heap) (locs : List Loc) (ls : Array Slot), RI z0_4 0 2147483647 → FLD ws p0 10 4 (.int z0_4) → RI z0_5 0 940 → FLD ws p0 10 5 (.int z0_5) → RI z0_6 0 940 → FLD ws p0 10 6 (.int z0_6) → OV vw_M5 Ps ws p0 s0 → f_X10_go__2_96 s0 = R9 → WD D cy GG A s wr_X10_go__5 wa_X10_go__5 Ps w0 Ps ws H locs → lv_has ls 5 [(0, .ref p0)] → W p l e (headSpec (Cond.code yX10_go cX10_go 5 none :: gT) ({ frames := 2, cells := 0, slots := 0, locals := 400 } : Room)).room s m ([.ref p0] : List Value).toArray below meth c H locs 0 0 Q (F0 m 96 ls []) := by
    intro z0_4 z0_5 z0_6 s0 ws H locs ls r_z0_4 m_z0_4 r_z0_5 m_z0_5 r_z0_6 m_z0_6 o_p0 hE hw hl
    have q_z0_4 : s0.1 4 = z0_4 := OV.eqI (V := vw_M5) hw.2.2.1 o_p0 m_z0_4 (by decide)
    have q_z0_5 : s0.1 5 = z0_5 := OV.eqI (V := vw_M5) hw.2.2.1 o_p0 m_z0_5 (by decide)
    have q_z0_6 : s0.1 6 = z0_6 := OV.eqI (V := vw_M5) hw.2.2.1 o_p0 m_z0_6 (by decide)
    refine lv_aload_n hx hb dX10_go_96 rfl (lv_at hl 0 rfl) ?_
    refine tg_mem (ci := 10) (C := RX10) (T := TX10) (N := 49) hx hb hts inX10 hown hK hw 5 m_z0_5 rfl (by decide) (hts _ tw_1142) (fun _ h9 => h9) dX10_go_97 ?_
    refine lv_aload_n hx hb dX10_go_100 rfl (lv_at hl 0 rfl) ?_
    refine tg_get (ci := 10) (ts := ty_MODEL) (C := RX10) (T := TX10) (N := 49) hx hb hts inX10 hown hK hw h_p0 rfl rfl 3 (by decide) (hts _ tw_1140) (fun _ h9 => h9) (ft := vI 0 940) rfl dX10_go_101 (fun u_41 hv_u_41 m_u_41 => ?_)
    obtain ⟨vu_41, rfl, r_vu_41⟩ := hv_u_41
    have q_vu_41 : s0.1 3 = vu_41 := OV.eqI (V := vw_M5) hw.2.2.1 o_p0 m_u_41 (by decide)
    refine lv_icmp_lt (tgt := 113) hx hb dX10_go_104 (by decide) (fun c_104 => ?_) (fun c_104 => ?_)
    · have r_z0_5 : RI z0_5 0 939 := rc_lt1 r_z0_5 r_vu_41 (ti_lt c_104) (by decide)
      have r_vu_41 : RI vu_41 1 940 := rc_lt2 r_z0_5 r_vu_41 (ti_lt c_104) (by decide)
      refine lv_aload_n hx hb dX10_go_113 rfl (lv_at hl 0 rfl) ?_
      refine tg_get (ci := 10) (ts := ty_MODEL) (C := RX10) (T := TX10) (N := 49) hx hb hts inX10 hown hK hw h_p0 rfl rfl 1 (by decide) (hts _ tw_1138) (fun _ h9 => h9) (ft := vR 40) rfl dX10_go_114 (fun u_42 hv_u_42 m_u_42 => ?_)
      obtain ⟨vu_42, rfl, h_vu_42⟩ := hv_u_42
      refine lv_aload_n hx hb dX10_go_117 rfl (lv_at hl 0 rfl) ?_
      refine tg_mem (ci := 10) (C := RX10) (T := TX10) (N := 49) hx hb hts inX10 hown hK hw 5 m_z0_5 rfl (by decide) (hts _ tw_1142) (fun _ h9 => h9) dX10_go_118 ?_
      refine tg_iald (lo := 0) (hi := 255) hx hb hK hw h_vu_42 rfl 0 939 r_z0_5 (by decide) (by exact fun _ _ _ => ⟨Int.le_refl _, Int.le_refl _⟩) dX10_go_121 (fun v_43 r_v_43 m_v_43 o_v_43 => ?_)
      have q_v_43 : s0.2.2.1 1 (Int32.toNatClampNeg z0_5) = v_43 := OV.eqA (V := vw_M5) (t := 40) hw.2.2.1 o_p0 m_u_42 m_v_43 (by decide)
      refine lv_istore_n (lv' := [(1, .int v_43), (0, .ref p0)]) hx hb dX10_go_122 rfl hl (by decide) rfl (fun ls hl => ?_)
      refine lv_iload_n hx hb dX10_go_123 rfl (lv_at hl 0 rfl) ?_
      refine tk_ir (va_runS (As := [.int v_43]) (rest := []) ⟨hx, hb, hml, hown, hts⟩ (c_X10_isLetter__4 l D cy z H.size Ps ws hw.1 v_43 r_v_43) (va_cwS 1 hts (gS tw_1302 tw_1303 tw_15 tw_1304) rfl rfl rfl (by decide +kernel) ⟨Nat.le_of_ble_eq_true rfl, Nat.le_of_ble_eq_true rfl⟩) (tg_preS hw hK hSD hA) rfl rfl hl.1 rfl (lv_room (Nat.le_of_ble_eq_true rfl)) dX10_go_124 ⟨Nat.le_of_ble_eq_true rfl, Nat.le_of_ble_eq_true rfl⟩) hw hA (fun v_44  H locs hp_v_44 hw => ?_)
      obtain ⟨hfn, hp_v_44⟩ := hp_v_44
      have q_v_44 : (f_X10_isLetter__2 v_43) = v_44 := hfn.1
      have r_v_44 : RI v_44 0 1 := hp_v_44.1
      refine lv_if_ne (tgt := 198) hx hb dX10_go_127 (by decide) (fun c_127 => ?_) (fun c_127 => ?_)
      · have r_v_44 : RI v_44 1 1 := rc_neL r_v_44 rl_0 (ti_ne c_127) (by decide)
        have r_v_43 : RI v_43 97 122 := ((hp_v_44.2.2 c_127).1)
        simp only [f_X10_go__2_96, ↓reduceIte, q_z0_4, q_z0_5, q_z0_6, q_vu_41, eq_true c_104, q_v_43, q_v_44, eq_false c_127] at hE
        exact B198 v_43 vu_41 z0_4 z0_5 z0_6 s0 ws _ _ ls (r_v_43.to (by decide)) r_vu_41 m_u_41 r_z0_4 m_z0_4 r_z0_5 m_z0_5 r_z0_6 m_z0_6 o_p0 hE hw (lv_sub hl [1, 0] rfl)
      · have r_v_44 : RI v_44 0 0 := rc_eq1 r_v_44 rl_0 (ti_eq c_127) (by decide)
        refine lv_iload_n hx hb dX10_go_130 rfl (lv_at hl 0 rfl) ?_
        refine tk_ir (va_runS (As := [.int v_43]) (rest := []) ⟨hx, hb, hml, hown, hts⟩ (c_X10_isDigit__2 l D cy z H.size Ps ws hw.1 v_43 r_v_43) (va_cwS 1 hts (gS tw_1305 tw_1306 tw_15 tw_1307) rfl rfl rfl (by decide +kernel) ⟨Nat.le_of_ble_eq_true rfl, Nat.le_of_ble_eq_true rfl⟩) (tg_preS hw hK hSD hA) rfl rfl hl.1 rfl (lv_room (Nat.le_of_ble_eq_true rfl)) dX10_go_131 ⟨Nat.le_of_ble_eq_true rfl, Nat.le_of_ble_eq_true rfl⟩) hw hA (fun v_45  H locs hp_v_45 hw => ?_)
        obtain ⟨hfn, hp_v_45⟩ := hp_v_45
        have q_v_45 : (f_X10_isDigit__1 v_43) = v_45 := hfn.1
        have r_v_45 : RI v_45 0 1 := hp_v_45.1
        refine lv_if_ne (tgt := 198) hx hb dX10_go_134 (by decide) (fun c_134 => ?_) (fun c_134 => ?_)
        · have r_v_45 : RI v_45 1 1 := rc_neL r_v_45 rl_0 (ti_ne c_134) (by decide)
          have r_v_43 : RI v_43 48 57 := ((hp_v_45.2.2 c_134).1)
          simp only [f_X10_go__2_96, ↓reduceIte, q_z0_4, q_z0_5, q_z0_6, q_vu_41, eq_true c_104, q_v_43, q_v_44, eq_true c_127, q_v_45, eq_false c_134] at hE
          exact B198 v_43 vu_41 z0_4 z0_5 z0_6 s0 ws _ _ ls (r_v_43.to (by decide)) r_vu_41 m_u_41 r_z0_4 m_z0_4 r_z0_5 m_z0_5 r_z0_6 m_z0_6 o_p0 hE hw (lv_sub hl [1, 0] rfl)
        · have r_v_45 : RI v_45 0 0 := rc_eq1 r_v_45 rl_0 (ti_eq c_134) (by decide)
          refine lv_aload_n hx hb dX10_go_137 rfl (lv_at hl 1 rfl) ?_
          refine lv_iload_n hx hb dX10_go_138 rfl (lv_at hl 0 rfl) ?_
          refine lv_bipush (v := 59) hx hb dX10_go_139 (by decide) ?_
          refine lv_icmp_eq (tgt := 174) hx hb dX10_go_141 (by decide) (fun c_141 => ?_) (fun c_141 => ?_)
          · have r_v_43 : RI v_43 59 59 := rc_eq1 r_v_43 rl_59 (ti_eq c_141) (by decide)
            simp only [f_X10_go__2_96, ↓reduceIte, q_z0_4, q_z0_5, q_z0_6, q_vu_41, eq_true c_104, q_v_43, q_v_44, eq_true c_127, q_v_45, eq_true c_134, eq_true c_141] at hE
            exact B174 v_43 vu_41 z0_4 z0_5 z0_6 s0 ws _ _ ls (r_v_43.to (by decide)) r_vu_41 m_u_41 r_z0_4 m_z0_4 r_z0_5 m_z0_5 r_z0_6 m_z0_6 o_p0 hE hw (lv_sub hl [1, 0] rfl)
          · refine lv_iload_n hx hb dX10_go_144 rfl (lv_at hl 0 rfl) ?_
            refine lv_bipush (v := 60) hx hb dX10_go_145 (by decide) ?_
            refine lv_icmp_eq (tgt := 174) hx hb dX10_go_147 (by decide) (fun c_147 => ?_) (fun c_147 => ?_)
            · have r_v_43 : RI v_43 60 60 := rc_eq1 r_v_43 rl_60 (ti_eq c_147) (by decide)
              simp only [f_X10_go__2_96, ↓reduceIte, q_z0_4, q_z0_5, q_z0_6, q_vu_41, eq_true c_104, q_v_43, q_v_44, eq_true c_127, q_v_45, eq_true c_134, eq_false c_141, eq_true c_147] at hE
              exact B174 v_43 vu_41 z0_4 z0_5 z0_6 s0 ws _ _ ls (r_v_43.to (by decide)) r_vu_41 m_u_41 r_z0_4 m_z0_4 r_z0_5 m_z0_5 r_z0_6 m_z0_6 o_p0 hE hw (lv_sub hl [1, 0] rfl)
            · refine lv_iload_n hx hb dX10_go_150 rfl (lv_at hl 0 rfl) ?_
              refine lv_bipush (v := 61) hx hb dX10_go_151 (by decide) ?_
              refine lv_icmp_eq (tgt := 174) hx hb dX10_go_153 (by decide) (fun c_153 => ?_) (fun c_153 => ?_)
              · have r_v_43 : RI v_43 61 61 := rc_eq1 r_v_43 rl_61 (ti_eq c_153) (by decide)
                simp only [f_X10_go__2_96, ↓reduceIte, q_z0_4, q_z0_5, q_z0_6, q_vu_41, eq_true c_104, q_v_43, q_v_44, eq_true c_127, q_v_45, eq_true c_134, eq_false c_141, eq_false c_147, eq_true c_153] at hE
                exact B174 v_43 vu_41 z0_4 z0_5 z0_6 s0 ws _ _ ls (r_v_43.to (by decide)) r_vu_41 m_u_41 r_z0_4 m_z0_4 r_z0_5 m_z0_5 r_z0_6 m_z0_6 o_p0 hE hw (lv_sub hl [1, 0] rfl)
              · refine lv_iload_n hx hb dX10_go_156 rfl (lv_at hl 0 rfl) ?_
                refine lv_bipush (v := 62) hx hb dX10_go_157 (by decide) ?_
                refine lv_icmp_eq (tgt := 174) hx hb dX10_go_159 (by decide) (fun c_159 => ?_) (fun c_159 => ?_)
                · have r_v_43 : RI v_43 62 62 := rc_eq1 r_v_43 rl_62 (ti_eq c_159) (by decide)
                  simp only [f_X10_go__2_96, ↓reduceIte, q_z0_4, q_z0_5, q_z0_6, q_vu_41, eq_true c_104, q_v_43, q_v_44, eq_true c_127, q_v_45, eq_true c_134, eq_false c_141, eq_false c_147, eq_false c_153, eq_true c_159] at hE
                  exact B174 v_43 vu_41 z0_4 z0_5 z0_6 s0 ws _ _ ls (r_v_43.to (by decide)) r_vu_41 m_u_41 r_z0_4 m_z0_4 r_z0_5 m_z0_5 r_z0_6 m_z0_6 o_p0 hE hw (lv_sub hl [1, 0] rfl)
                · refine lv_iload_n hx hb dX10_go_162 rfl (lv_at hl 0 rfl) ?_
                  refine lv_bipush (v := 40) hx hb dX10_go_163 (by decide) ?_
                  refine lv_icmp_eq (tgt := 174) hx hb dX10_go_165 (by decide) (fun c_165 => ?_) (fun c_165 => ?_)
                  · have r_v_43 : RI v_43 40 40 := rc_eq1 r_v_43 rl_40 (ti_eq c_165) (by decide)
                    simp only [f_X10_go__2_96, ↓reduceIte, q_z0_4, q_z0_5, q_z0_6, q_vu_41, eq_true c_104, q_v_43, q_v_44, eq_true c_127, q_v_45, eq_true c_134, eq_false c_141, eq_false c_147, eq_false c_153, eq_false c_159, eq_true c_165] at hE
                    exact B174 v_43 vu_41 z0_4 z0_5 z0_6 s0 ws _ _ ls (r_v_43.to (by decide)) r_vu_41 m_u_41 r_z0_4 m_z0_4 r_z0_5 m_z0_5 r_z0_6 m_z0_6 o_p0 hE hw (lv_sub hl [1, 0] rfl)
                  · refine lv_iload_n hx hb dX10_go_168 rfl (lv_at hl 0 rfl) ?_
                    refine lv_bipush (v := 41) hx hb dX10_go_169 (by decide) ?_
                    refine lv_icmp_ne (tgt := 178) hx hb dX10_go_171 (by decide) (fun c_171 => ?_) (fun c_171 => ?_)
                    · refine lv_iconst (v := 1) hx hb dX10_go_178 (by decide) ?_
                      simp only [f_X10_go__2_96, ↓reduceIte, q_z0_4, q_z0_5, q_z0_6, q_vu_41, eq_true c_104, q_v_43, q_v_44, eq_true c_127, q_v_45, eq_true c_134, eq_false c_141, eq_false c_147, eq_false c_153, eq_false c_159, eq_false c_165, eq_false c_171] at hE
                      exact B179 v_43 1 vu_41 z0_4 z0_5 z0_6 s0 ws _ _ ls r_v_43 (rl_1.to (by decide)) r_vu_41 m_u_41 r_z0_4 m_z0_4 r_z0_5 m_z0_5 r_z0_6 m_z0_6 o_p0 hE hw (lv_sub hl [1, 0] rfl)
                    · have r_v_43 : RI v_43 41 41 := rc_eq1 r_v_43 rl_41 (ti_eq c_171) (by decide)
                      simp only [f_X10_go__2_96, ↓reduceIte, q_z0_4, q_z0_5, q_z0_6, q_vu_41, eq_true c_104, q_v_43, q_v_44, eq_true c_127, q_v_45, eq_true c_134, eq_false c_141, eq_false c_147, eq_false c_153, eq_false c_159, eq_false c_165, eq_true c_171] at hE
                      exact B174 v_43 vu_41 z0_4 z0_5 z0_6 s0 ws _ _ ls (r_v_43.to (by decide)) r_vu_41 m_u_41 r_z0_4 m_z0_4 r_z0_5 m_z0_5 r_z0_6 m_z0_6 o_p0 hE hw (lv_sub hl [1, 0] rfl)
    · refine lv_aload_n hx hb dX10_go_107 rfl (lv_at hl 0 rfl) ?_
      refine lv_iconst (v := 0) hx hb dX10_go_108 (by decide) ?_
      refine tg_put (ci := 10) (ts := ty_MODEL) (v := .int 0) (ty := .int) (C := RX10) (T := TX10) (N := 49) hx hb hts inX10 tyX10 tyX10_ok nmX10 hown hK hw h_p0 rfl rfl 7 (by decide) (hts _ tw_1144) (fun _ h9 => h9) rfl (by decide +kernel) rfl rfl (ft := vI (-2147483648) 2147483647) rfl ⟨_, rfl, (rl_0.to (by decide))⟩ (by decide) dX10_go_109 (fun ws H locs hw n_k_46 hF9 => ?_)
      have m_z0_4 := FLD.over hF9 m_z0_4 (by decide)
      have m_z0_5 := FLD.over hF9 m_z0_5 (by decide)
      have m_z0_6 := FLD.over hF9 m_z0_6 (by decide)
      have m_u_41 := FLD.over hF9 m_u_41 (by decide)
      obtain ⟨sg_47, q_sg_47⟩ : ∃ q9 : OS, sI s0 7 (0 : Int32) = q9 := ⟨_, rfl⟩
      have o_p0 : OV vw_M5 Ps ws p0 sg_47 := by rw [← q_sg_47]; exact OV.putI (V := vw_M5) hF9 n_k_46 o_p0 (by decide)
      simp only [f_X10_go__2_96, ↓reduceIte, q_z0_4, q_z0_5, q_z0_6, q_vu_41, eq_false c_104, q_sg_47] at hE
      subst hQ
      exact W.vret hx hb hr (fun t ht hW => ⟨⟨ws, rfl, ⟨⟨⟨(by rw [hR, ← hE]; exact o_p0), trivial⟩, trivial⟩, hw.1, hw.2.2.2.2.1⟩, by rw [ht]; exact hw.2.1, va_K.moved hW.alike hK, hw.2.2.1⟩, hw.2.2.2.1.F ht⟩) hw.2.2.2.1.2.2 dX10_go_112
  have B52 : ∀ (z0_5 : Int32) (s0 : OS) (ws : va_W) (H : Heap) (locs : List Loc) (ls : Array Slot), RI z0_5 0 940 → FLD ws p0 10 5 (.int z0_5) → OV vw_M5 Ps ws p0 s0 → f_X10_go__2_52 s0 = R9 → WD D cy GG A s wr_X10_go__5 wa_X10_go__5 Ps w0 Ps ws H locs → lv_has ls 5 [(0, .ref p0)] → W p l e (headSpec (Cond.code yX10_go cX10_go 5 none :: gT) ({ frames := 2, cells := 0, slots := 0, locals := 400 } : Room)).room s m ([.ref p0] : List Value).toArray below meth c H locs 0 0 Q (F0 m 52 ls []) := by
    intro z0_5 s0 ws H locs ls r_z0_5 m_z0_5 o_p0 hE hw hl
    have q_z0_5 : s0.1 5 = z0_5 := OV.eqI (V := vw_M5) hw.2.2.1 o_p0 m_z0_5 (by decide)
    refine lv_aload_n hx hb dX10_go_52 rfl (lv_at hl 0 rfl) ?_
    refine lv_aload_n hx hb dX10_go_53 rfl (lv_at hl 0 rfl) ?_
    refine tg_mem (ci := 10) (C := RX10) (T := TX10) (N := 49) hx hb hts inX10 hown hK hw 5 m_z0_5 rfl (by decide) (hts _ tw_1142) (fun _ h9 => h9) dX10_go_54 ?_
    refine tg_put (ci := 10) (ts := ty_MODEL) (v := .int z0_5) (ty := .int) (C := RX10) (T := TX10) (N := 49) hx hb hts inX10 tyX10 tyX10_ok nmX10 hown hK hw h_p0 rfl rfl 6 (by decide) (hts _ tw_1143) (fun _ h9 => h9) rfl (by decide +kernel) rfl rfl (ft := vI (-2147483648) 2147483647) rfl ⟨_, rfl, (r_z0_5.to (by decide))⟩ (by decide) dX10_go_57 (fun ws H locs hw n_k_48 hF9 => ?_)
    have m_z0_5 := FLD.over hF9 m_z0_5 (by decide)
    obtain ⟨sg_49, q_sg_49⟩ : ∃ q9 : OS, sI s0 6 z0_5 = q9 := ⟨_, rfl⟩
    have o_p0 : OV vw_M5 Ps ws p0 sg_49 := by rw [← q_sg_49]; exact OV.putI (V := vw_M5) hF9 n_k_48 o_p0 (by decide)
    refine lv_aload_n hx hb dX10_go_60 rfl (lv_at hl 0 rfl) ?_
    refine tg_get (ci := 10) (ts := ty_MODEL) (C := RX10) (T := TX10) (N := 49) hx hb hts inX10 hown hK hw h_p0 rfl rfl 3 (by decide) (hts _ tw_1140) (fun _ h9 => h9) (ft := vI 0 940) rfl dX10_go_61 (fun u_50 hv_u_50 m_u_50 => ?_)
    obtain ⟨vu_50, rfl, r_vu_50⟩ := hv_u_50
    have q_vu_50 : sg_49.1 3 = vu_50 := OV.eqI (V := vw_M5) hw.2.2.1 o_p0 m_u_50 (by decide)
    refine lv_aload_n hx hb dX10_go_64 rfl (lv_at hl 0 rfl) ?_
    refine tg_get (ci := 10) (ts := ty_MODEL) (C := RX10) (T := TX10) (N := 49) hx hb hts inX10 hown hK hw h_p0 rfl rfl 4 (by decide) (hts _ tw_1141) (fun _ h9 => h9) (ft := vI (-2147483648) 2147483647) rfl dX10_go_65 (fun u_51 hv_u_51 m_u_51 => ?_)
    obtain ⟨vu_51, rfl, r_vu_51⟩ := hv_u_51
    have q_vu_51 : sg_49.1 4 = vu_51 := OV.eqI (V := vw_M5) hw.2.2.1 o_p0 m_u_51 (by decide)
    refine lv_icmp_le (tgt := 96) hx hb dX10_go_68 (by decide) (fun c_68 => ?_) (fun c_68 => ?_)
    · have r_vu_51 : RI vu_51 0 2147483647 := rc_le2 r_vu_50 r_vu_51 (ti_le c_68) (by decide)
      simp only [f_X10_go__2_52, ↓reduceIte, q_z0_5, q_sg_49, q_vu_50, q_vu_51, eq_true c_68] at hE
      exact B96 vu_51 z0_5 z0_5 sg_49 ws _ _ ls r_vu_51 m_u_51 r_z0_5 m_z0_5 r_z0_5 n_k_48 o_p0 hE hw hl
    · have r_vu_51 : RI vu_51 (-2147483648) 939 := rc_lt1 r_vu_51 r_vu_50 (ti_nle c_68) (by decide)
      refine lv_aload_n hx hb dX10_go_71 rfl (lv_at hl 0 rfl) ?_
      refine tg_mem (ci := 10) (C := RX10) (T := TX10) (N := 49) hx hb hts inX10 hown hK hw 6 n_k_48 rfl (by decide) (hts _ tw_1143) (fun _ h9 => h9) dX10_go_72 ?_
      refine lv_aload_n hx hb dX10_go_75 rfl (lv_at hl 0 rfl) ?_
      refine tg_mem (ci := 10) (C := RX10) (T := TX10) (N := 49) hx hb hts inX10 hown hK hw 4 m_u_51 rfl (by decide) (hts _ tw_1141) (fun _ h9 => h9) dX10_go_76 ?_
      refine lv_icmp_lt (tgt := 96) hx hb dX10_go_79 (by decide) (fun c_79 => ?_) (fun c_79 => ?_)
      · have r_z0_5 : RI z0_5 0 938 := rc_lt1 r_z0_5 r_vu_51 (ti_lt c_79) (by decide)
        have r_vu_51 : RI vu_51 1 939 := rc_lt2 r_z0_5 r_vu_51 (ti_lt c_79) (by decide)
        simp only [f_X10_go__2_52, ↓reduceIte, q_z0_5, q_sg_49, q_vu_50, q_vu_51, eq_false c_68, eq_true c_79] at hE
        exact B96 vu_51 z0_5 z0_5 sg_49 ws _ _ ls (r_vu_51.to (by decide)) m_u_51 (r_z0_5.to (by decide)) m_z0_5 (r_z0_5.to (by decide)) n_k_48 o_p0 hE hw hl
      · refine lv_aload_n hx hb dX10_go_82 rfl (lv_at hl 0 rfl) ?_
        refine lv_aload_n hx hb dX10_go_83 rfl (lv_at hl 0 rfl) ?_
        refine tg_mem (ci := 10) (C := RX10) (T := TX10) (N := 49) hx hb hts inX10 hown hK hw 4 m_u_51 rfl (by decide) (hts _ tw_1141) (fun _ h9 => h9) dX10_go_84 ?_
        refine tg_put (ci := 10) (ts := ty_MODEL) (v := .int vu_51) (ty := .int) (C := RX10) (T := TX10) (N := 49) hx hb hts inX10 tyX10 tyX10_ok nmX10 hown hK hw h_p0 rfl rfl 6 (by decide) (hts _ tw_1143) (fun _ h9 => h9) rfl (by decide +kernel) rfl rfl (ft := vI (-2147483648) 2147483647) rfl ⟨_, rfl, (r_vu_51.to (by decide))⟩ (by decide) dX10_go_87 (fun ws H locs hw n_k_52 hF9 => ?_)
        have m_z0_5 := FLD.over hF9 m_z0_5 (by decide)
        have m_u_50 := FLD.over hF9 m_u_50 (by decide)
        have m_u_51 := FLD.over hF9 m_u_51 (by decide)
        obtain ⟨sg_53, q_sg_53⟩ : ∃ q9 : OS, sI sg_49 6 vu_51 = q9 := ⟨_, rfl⟩
        have o_p0 : OV vw_M5 Ps ws p0 sg_53 := by rw [← q_sg_53]; exact OV.putI (V := vw_M5) hF9 n_k_52 o_p0 (by decide)
        refine lv_aload_n hx hb dX10_go_90 rfl (lv_at hl 0 rfl) ?_
        refine lv_iconst (v := 1) hx hb dX10_go_91 (by decide) ?_
        refine tg_put (ci := 10) (ts := ty_MODEL) (v := .int 1) (ty := .int) (C := RX10) (T := TX10) (N := 49) hx hb hts inX10 tyX10 tyX10_ok nmX10 hown hK hw h_p0 rfl rfl 7 (by decide) (hts _ tw_1144) (fun _ h9 => h9) rfl (by decide +kernel) rfl rfl (ft := vI (-2147483648) 2147483647) rfl ⟨_, rfl, (rl_1.to (by decide))⟩ (by decide) dX10_go_92 (fun ws H locs hw n_k_54 hF9 => ?_)
        have m_z0_5 := FLD.over hF9 m_z0_5 (by decide)
        have m_u_50 := FLD.over hF9 m_u_50 (by decide)
        have m_u_51 := FLD.over hF9 m_u_51 (by decide)
        have n_k_52 := FLD.over hF9 n_k_52 (by decide)
        obtain ⟨sg_55, q_sg_55⟩ : ∃ q9 : OS, sI sg_53 7 (1 : Int32) = q9 := ⟨_, rfl⟩
        have o_p0 : OV vw_M5 Ps ws p0 sg_55 := by rw [← q_sg_55]; exact OV.putI (V := vw_M5) hF9 n_k_54 o_p0 (by decide)
        simp only [f_X10_go__2_52, ↓reduceIte, q_z0_5, q_sg_49, q_vu_50, q_vu_51, eq_false c_68, eq_false c_79, q_sg_53, q_sg_55] at hE
        subst hQ
        exact W.vret hx hb hr (fun t ht hW => ⟨⟨ws, rfl, ⟨⟨⟨(by rw [hR, ← hE]; exact o_p0), trivial⟩, trivial⟩, hw.1, hw.2.2.2.2.1⟩, by rw [ht]; exact hw.2.1, va_K.moved hW.alike hK, hw.2.2.1⟩, hw.2.2.2.1.F ht⟩) hw.2.2.2.1.2.2 dX10_go_95
  have B0 : ∀ (nf : Nat) (z0_5 : Int32) (s0 : OS) (ws : va_W) (H : Heap) (locs : List Loc) (ls : Array Slot), 940 - z0_5.toInt < (nf : Int) → RI z0_5 0 940 → FLD ws p0 10 5 (.int z0_5) → OV vw_M5 Ps ws p0 s0 → f_X10_go__2_0 nf s0 = R9 → WD D cy GG A s wr_X10_go__5 wa_X10_go__5 Ps w0 Ps ws H locs → lv_has ls 5 [(0, .ref p0)] → W p l e (headSpec (Cond.code yX10_go cX10_go 5 none :: gT) ({ frames := 2, cells := 0, slots := 0, locals := 400 } : Room)).room s m ([.ref p0] : List Value).toArray below meth c H locs 0 0 Q (F0 m 0 ls []) := by
    intro nf0
    induction nf0 with
    | zero =>
      intro z0_5 s0 ws H locs ls hn0 r_z0_5 m_z0_5 o_p0 hE hw hl
      exact absurd hn0 (by have q0 := r_z0_5.1; have u0 := r_z0_5.2; omega)
    | succ nf0 ih0 =>
      have B39 : ∀ (z0_3 : Int32) (z0_5 : Int32) (s0 : OS) (ws : va_W) (H : Heap) (locs : List Loc) (ls : Array Slot), RI z0_3 1 940 → FLD ws p0 10 3 (.int z0_3) → RI z0_5 0 939 → FLD ws p0 10 5 (.int z0_5) → OV vw_M5 Ps ws p0 s0 → 940 - z0_5.toInt < ((nf0 + 1 : Nat) : Int) → f_X10_go__2_39 (f_X10_go__2_0 nf0) s0 = R9 → WD D cy GG A s wr_X10_go__5 wa_X10_go__5 Ps w0 Ps ws H locs → lv_has ls 5 [(0, .ref p0)] → W p l e (headSpec (Cond.code yX10_go cX10_go 5 none :: gT) ({ frames := 2, cells := 0, slots := 0, locals := 400 } : Room)).room s m ([.ref p0] : List Value).toArray below meth c H locs 0 0 Q (F0 m 39 ls []) := by
        intro z0_3 z0_5 s0 ws H locs ls r_z0_3 m_z0_3 r_z0_5 m_z0_5 o_p0 hn0 hE hw hl
        have q_z0_3 : s0.1 3 = z0_3 := OV.eqI (V := vw_M5) hw.2.2.1 o_p0 m_z0_3 (by decide)
        have q_z0_5 : s0.1 5 = z0_5 := OV.eqI (V := vw_M5) hw.2.2.1 o_p0 m_z0_5 (by decide)
        refine lv_aload_n hx hb dX10_go_39 rfl (lv_at hl 0 rfl) ?_
        refine lv_dup hx hb dX10_go_40 rfl ?_
        refine tg_mem (ci := 10) (C := RX10) (T := TX10) (N := 49) hx hb hts inX10 hown hK hw 5 m_z0_5 rfl (by decide) (hts _ tw_1142) (fun _ h9 => h9) dX10_go_41 ?_
        refine lv_iconst (v := 1) hx hb dX10_go_44 (by decide) ?_
        refine lv_iadd hx hb dX10_go_45 (lv_topi (fun v_56 e_v_56 => ?_))
        obtain ⟨t_v_56, r_v_56⟩ := tq_add (lo := 1) (hi := 940) r_z0_5 rl_1 (by decide +kernel) e_v_56
        have t_v_56 : v_56.toInt = z0_5.toInt + 1 := t_v_56
        have q_v_56 : z0_5 + (1 : Int32) = v_56 := e_v_56.symm
        refine tg_put (ci := 10) (ts := ty_MODEL) (v := .int v_56) (ty := .int) (C := RX10) (T := TX10) (N := 49) hx hb hts inX10 tyX10 tyX10_ok nmX10 hown hK hw h_p0 rfl rfl 5 (by decide) (hts _ tw_1142) (fun _ h9 => h9) rfl (by decide +kernel) rfl rfl (ft := vI 0 940) rfl ⟨_, rfl, (r_v_56.to (by decide))⟩ (by decide) dX10_go_46 (fun ws H locs hw n_k_57 hF9 => ?_)
        have m_z0_3 := FLD.over hF9 m_z0_3 (by decide)
        obtain ⟨sg_58, q_sg_58⟩ : ∃ q9 : OS, sI s0 5 v_56 = q9 := ⟨_, rfl⟩
        have o_p0 : OV vw_M5 Ps ws p0 sg_58 := by rw [← q_sg_58]; exact OV.putI (V := vw_M5) hF9 n_k_57 o_p0 (by decide)
        refine lv_goto (tgt := 0) hx hb dX10_go_49 (by decide) ?_
        simp only [f_X10_go__2_39, ↓reduceIte, q_z0_3, q_z0_5, q_v_56, q_sg_58] at hE
        exact ih0 v_56 sg_58 ws _ _ ls (by have q0 := r_v_56.1; have u0 := r_v_56.2; have o0 := r_z0_5.1; have p0 := r_z0_5.2; omega) (r_v_56.to (by decide)) n_k_57 o_p0 hE hw hl
      intro z0_5 s0 ws H locs ls hn0 r_z0_5 m_z0_5 o_p0 hE hw hl
      have q_z0_5 : s0.1 5 = z0_5 := OV.eqI (V := vw_M5) hw.2.2.1 o_p0 m_z0_5 (by decide)
      refine lv_aload_n hx hb dX10_go_0 rfl (lv_at hl 0 rfl) ?_
      refine tg_mem (ci := 10) (C := RX10) (T := TX10) (N := 49) hx hb hts inX10 hown hK hw 5 m_z0_5 rfl (by decide) (hts _ tw_1142) (fun _ h9 => h9) dX10_go_1 ?_
      refine lv_aload_n hx hb dX10_go_4 rfl (lv_at hl 0 rfl) ?_
      refine tg_get (ci := 10) (ts := ty_MODEL) (C := RX10) (T := TX10) (N := 49) hx hb hts inX10 hown hK hw h_p0 rfl rfl 3 (by decide) (hts _ tw_1140) (fun _ h9 => h9) (ft := vI 0 940) rfl dX10_go_5 (fun u_59 hv_u_59 m_u_59 => ?_)
      obtain ⟨vu_59, rfl, r_vu_59⟩ := hv_u_59
      have q_vu_59 : s0.1 3 = vu_59 := OV.eqI (V := vw_M5) hw.2.2.1 o_p0 m_u_59 (by decide)
      refine lv_icmp_ge (tgt := 52) hx hb dX10_go_8 (by decide) (fun c_8 => ?_) (fun c_8 => ?_)
      · simp only [f_X10_go__2_0, ↓reduceIte, q_z0_5, q_vu_59, eq_true c_8] at hE
        exact B52 z0_5 s0 ws _ _ ls r_z0_5 m_z0_5 o_p0 hE hw hl
      · have r_z0_5 : RI z0_5 0 939 := rc_lt1 r_z0_5 r_vu_59 (ti_nle c_8) (by decide)
        have r_vu_59 : RI vu_59 1 940 := rc_lt2 r_z0_5 r_vu_59 (ti_nle c_8) (by decide)
        refine lv_aload_n hx hb dX10_go_11 rfl (lv_at hl 0 rfl) ?_
        refine tg_get (ci := 10) (ts := ty_MODEL) (C := RX10) (T := TX10) (N := 49) hx hb hts inX10 hown hK hw h_p0 rfl rfl 1 (by decide) (hts _ tw_1138) (fun _ h9 => h9) (ft := vR 40) rfl dX10_go_12 (fun u_60 hv_u_60 m_u_60 => ?_)
        obtain ⟨vu_60, rfl, h_vu_60⟩ := hv_u_60
        refine lv_aload_n hx hb dX10_go_15 rfl (lv_at hl 0 rfl) ?_
        refine tg_mem (ci := 10) (C := RX10) (T := TX10) (N := 49) hx hb hts inX10 hown hK hw 5 m_z0_5 rfl (by decide) (hts _ tw_1142) (fun _ h9 => h9) dX10_go_16 ?_
        refine tg_iald (lo := 0) (hi := 255) hx hb hK hw h_vu_60 rfl 0 939 r_z0_5 (by decide) (by exact fun _ _ _ => ⟨Int.le_refl _, Int.le_refl _⟩) dX10_go_19 (fun v_61 r_v_61 m_v_61 o_v_61 => ?_)
        have q_v_61 : s0.2.2.1 1 (Int32.toNatClampNeg z0_5) = v_61 := OV.eqA (V := vw_M5) (t := 40) hw.2.2.1 o_p0 m_u_60 m_v_61 (by decide)
        refine lv_bipush (v := 32) hx hb dX10_go_20 (by decide) ?_
        refine lv_icmp_eq (tgt := 39) hx hb dX10_go_22 (by decide) (fun c_22 => ?_) (fun c_22 => ?_)
        · have r_v_61 : RI v_61 32 32 := rc_eq1 r_v_61 rl_32 (ti_eq c_22) (by decide)
          simp only [f_X10_go__2_0, ↓reduceIte, q_z0_5, q_vu_59, eq_false c_8, q_v_61, eq_true c_22] at hE
          exact B39 vu_59 z0_5 s0 ws _ _ ls r_vu_59 m_u_59 r_z0_5 m_z0_5 o_p0 (by have q0 := r_z0_5.1; have u0 := r_z0_5.2; omega) hE hw hl
        · refine lv_aload_n hx hb dX10_go_25 rfl (lv_at hl 0 rfl) ?_
          refine tg_mem (ci := 10) (C := RX10) (T := TX10) (N := 49) hx hb hts inX10 hown hK hw 1 m_u_60 rfl (by decide) (hts _ tw_1138) (fun _ h9 => h9) dX10_go_26 ?_
          refine lv_aload_n hx hb dX10_go_29 rfl (lv_at hl 0 rfl) ?_
          refine tg_mem (ci := 10) (C := RX10) (T := TX10) (N := 49) hx hb hts inX10 hown hK hw 5 m_z0_5 rfl (by decide) (hts _ tw_1142) (fun _ h9 => h9) dX10_go_30 ?_
          refine tg_imem hx hb hK hw h_vu_60 rfl r_z0_5 (by decide) m_v_61 dX10_go_33 ?_
          refine lv_bipush (v := 10) hx hb dX10_go_34 (by decide) ?_
          refine lv_icmp_ne (tgt := 52) hx hb dX10_go_36 (by decide) (fun c_36 => ?_) (fun c_36 => ?_)
          · simp only [f_X10_go__2_0, ↓reduceIte, q_z0_5, q_vu_59, eq_false c_8, q_v_61, eq_false c_22, eq_false c_36] at hE
            exact B52 z0_5 s0 ws _ _ ls (r_z0_5.to (by decide)) m_z0_5 o_p0 hE hw hl
          · have r_v_61 : RI v_61 10 10 := rc_eq1 r_v_61 rl_10 (ti_eq c_36) (by decide)
            simp only [f_X10_go__2_0, ↓reduceIte, q_z0_5, q_vu_59, eq_false c_8, q_v_61, eq_false c_22, eq_true c_36] at hE
            exact B39 vu_59 z0_5 s0 ws _ _ ls r_vu_59 m_u_59 r_z0_5 m_z0_5 o_p0 (by have q0 := r_z0_5.1; have u0 := r_z0_5.2; omega) hE hw hl
  simp only [f_X10_go__2, ↓reduceIte] at hE
  obtain ⟨v_63, m_v_63, r_v_63⟩ := tg_fld (k := 5) (ci := 10) (ts := ty_MODEL) (lo := 0) (hi := 940) hw h_p0 rfl rfl
  exact B0 4294967298 v_63 s0 w0 _ _ ls (by have q0 := r_v_63.1; have u0 := r_v_63.2; omega) r_v_63 m_v_63 o_p0 hE hw hl
abbrev wr_X10_begin__10 : List (Nat × Nat) := [(10, 0), (10, 2), (10, 3), (10, 4), (10, 5), (10, 6), (10, 7), (10, 8), (10, 9), (10, 10), (10, 12)]
abbrev wa_X10_begin__10 : List Nat := []
set_option maxHeartbeats 4000000 in
set_option maxRecDepth 100000 in
theorem c_X10_begin__10 (l : Launch) (D : va_G) (cy : Nat → ClassId) (z : Nat → Nat) (sz : Nat) (Ps : PSI) (w0 : va_W) (hT : HT cy GG Ps w0) (p0 : Nat) (p1 : Int32) (s0 : OS) (h_p0 : (p0, 55) ∈ Ps) (r_p1 : RI p1 (-2147483648) 2147483647) (o_p0 : OV vw_M5 Ps w0 p0 s0) : Met l yX10_begin (Cond.code yX10_begin cX10_begin 2 none :: gT) ({ frames := 3, cells := 0, slots := 0, locals := 600 } : Room) (va_Pc [.ref p0, .int p1] (PRE D cy z w0 sz)) (va_Qv (fun (u : va_W) => ((OV vw_M5 Ps u p0 ((f_X10_begin__4 p1 s0)) ∧ True) ∧ ((∃ v9 : Int32, FLD u p0 10 2 (.int v9) ∧ RI v9 0 0) ∧ TLM u p0 (0) ∧ True)) ∧ HT cy GG Ps u ∧ FR wr_X10_begin__10 wa_X10_begin__10 Ps w0 u) (BB D cy (va_A w0 sz) (fun (u : va_W) => u)) (va_A w0 sz)) 0 0 (va_A w0 sz) := by
  refine Met.ofW (cc := cX10_begin) (maxL := 2) (ret := none) (by decide) rfl ?_
  intro p e s m args below meth c s₁ B hml hv
  obtain ⟨rfl, hsz, hP, hK, hD0, hSD⟩ := hv
  have hx := B.exec
  have hb := B.bytes
  have hr := B.returns
  have hlocks := B.notSynchronized
  have hts : ∀ w ∈ gT, w.before _ s = true := fun w h => atoms_spec (ws := Cond.code yX10_begin cX10_begin 2 none :: gT) B.pre w (List.mem_cons_of_mem _ h)
  have hown : s.vm.findClass RX10 = some m.cls := findClass_of_methodNamed B.named
  subst hsz
  have hD := hD0.self (sz := s.heap.size)
  generalize hAe : va_A w0 s.heap.size = A at hD hSD ⊢
  have hA : ∀ q : Nat, s.heap.size ≤ q → A q := fun q h => by rw [← hAe]; exact Or.inr h
  have hl := lv_entry ([.ref p0, .int p1]) (n := 2) (Nat.le_of_ble_eq_true rfl)
  rw [lg_entry_eq]
  generalize (lg_sl ([.ref p0, .int p1]) ++ List.replicate (2 - (lg_sl ([.ref p0, .int p1])).length) Slot.unset).toArray = ls at hl ⊢
  have hl : lv_has ls 2 [(0, .ref p0), (1, .int p1)] := hl
  refine nameQ (fun Q hQ => ?_)
  have hw : WD D cy GG A s wr_X10_begin__10 wa_X10_begin__10 Ps w0 Ps w0 s.heap [] := ⟨hT, hP, hD, va_S.rf, FR.rf, hT.1, [], (List.append_nil _).symm⟩
  obtain ⟨R9, hR⟩ : ∃ q9 : OS, f_X10_begin__4 p1 s0 = q9 := ⟨_, rfl⟩
  have hE := hR
  refine lv_aload_n hx hb dX10_begin_0 rfl (lv_at hl 0 rfl) ?_
  refine lv_iconst (v := 0) hx hb dX10_begin_1 (by decide) ?_
  refine tg_put (ci := 10) (ts := ty_MODEL) (v := .int 0) (ty := .int) (C := RX10) (T := TX10) (N := 49) hx hb hts inX10 tyX10 tyX10_ok nmX10 hown hK hw h_p0 rfl rfl 0 (by decide) (hts _ tw_1137) (fun _ h9 => h9) rfl (by decide +kernel) rfl rfl (ft := vI (-2147483648) 2147483647) rfl ⟨_, rfl, (rl_0.to (by decide))⟩ (by decide) dX10_begin_2 (fun ws H locs hw n_k_1 hF9 => ?_)
  obtain ⟨sg_2, q_sg_2⟩ : ∃ q9 : OS, sI s0 0 (0 : Int32) = q9 := ⟨_, rfl⟩
  have o_p0 : OV vw_M5 Ps ws p0 sg_2 := by rw [← q_sg_2]; exact OV.putI (V := vw_M5) hF9 n_k_1 o_p0 (by decide)
  refine lv_aload_n hx hb dX10_begin_5 rfl (lv_at hl 0 rfl) ?_
  refine lv_aload_n hx hb dX10_begin_6 rfl (lv_at hl 0 rfl) ?_
  refine tk_i (va_runV (As := []) (rest := [.ref p0]) ⟨hx, hb, hml, hown, hts⟩ (c_X10_take__5 l D cy z H.size Ps ws hw.1 p0 sg_2 h_p0 o_p0) (cwV 0 hts (gV tw_1294 tw_1296 ts_39 tw_15 tw_1297) rfl rfl rfl (by decide +kernel) ⟨Nat.le_of_ble_eq_true rfl, Nat.le_of_ble_eq_true rfl⟩) (tg_preV hw hK hSD hA (ci := 10) (q := (RX10, TX10, 49)) rfl h_p0 rfl) rfl rfl hl.1 rfl (lv_room (Nat.le_of_ble_eq_true rfl)) dX10_begin_7 ⟨Nat.le_of_ble_eq_true rfl, Nat.le_of_ble_eq_true rfl⟩) hw hA ⟨by decide, by decide⟩ (fun v_3 ws H locs hp_v_3 hw hF9 => ?_)
  have n_k_1 := FLD.over hF9 n_k_1 (by decide)
  obtain ⟨hfn, hp_v_3⟩ := hp_v_3
  obtain ⟨sg_4, q_sg_4⟩ : ∃ q9 : OS, (f_X10_take__1 sg_2).1 = q9 := ⟨_, rfl⟩
  have o_p0 : OV vw_M5 Ps ws p0 sg_4 := by rw [← q_sg_4]; exact hfn.1
  have q_v_3 : (f_X10_take__1 sg_2).2 = v_3 := hfn.2.1
  have r_v_3 : RI v_3 0 940 := hp_v_3.1
  by_cases c9_v_3 : v_3 = 0
  · have r_v_3 : RI v_3 0 0 := by rw [c9_v_3]; exact rl_0
    obtain ⟨v_5, m_v_5, r_v_5⟩ := ((hp_v_3.2.1 c9_v_3).1)
    have x_TLM_p0_0 := ((hp_v_3.2.1 c9_v_3).2.1)
    refine tg_put (ci := 10) (ts := ty_MODEL) (v := .int v_3) (ty := .int) (C := RX10) (T := TX10) (N := 49) hx hb hts inX10 tyX10 tyX10_ok nmX10 hown hK hw h_p0 rfl rfl 3 (by decide) (hts _ tw_1140) (fun _ h9 => h9) rfl (by decide +kernel) rfl rfl (ft := vI 0 940) rfl ⟨_, rfl, (r_v_3.to (by decide))⟩ (by decide) dX10_begin_10 (fun ws H locs hw n_k_6 hF9 => ?_)
    have n_k_1 := FLD.over hF9 n_k_1 (by decide)
    have m_v_5 := FLD.over hF9 m_v_5 (by decide)
    have x_TLM_p0_0 := TLM.over hF9 x_TLM_p0_0 (by decide)
    obtain ⟨sg_7, q_sg_7⟩ : ∃ q9 : OS, sI sg_4 3 v_3 = q9 := ⟨_, rfl⟩
    have o_p0 : OV vw_M5 Ps ws p0 sg_7 := by rw [← q_sg_7]; exact OV.putI (V := vw_M5) hF9 n_k_6 o_p0 (by decide)
    refine lv_aload_n hx hb dX10_begin_13 rfl (lv_at hl 0 rfl) ?_
    refine lv_iload_n hx hb dX10_begin_14 rfl (lv_at hl 1 rfl) ?_
    refine tg_put (ci := 10) (ts := ty_MODEL) (v := .int p1) (ty := .int) (C := RX10) (T := TX10) (N := 49) hx hb hts inX10 tyX10 tyX10_ok nmX10 hown hK hw h_p0 rfl rfl 4 (by decide) (hts _ tw_1141) (fun _ h9 => h9) rfl (by decide +kernel) rfl rfl (ft := vI (-2147483648) 2147483647) rfl ⟨_, rfl, r_p1⟩ (by decide) dX10_begin_15 (fun ws H locs hw n_k_8 hF9 => ?_)
    have n_k_1 := FLD.over hF9 n_k_1 (by decide)
    have m_v_5 := FLD.over hF9 m_v_5 (by decide)
    have n_k_6 := FLD.over hF9 n_k_6 (by decide)
    have x_TLM_p0_0 := TLM.over hF9 x_TLM_p0_0 (by decide)
    obtain ⟨sg_9, q_sg_9⟩ : ∃ q9 : OS, sI sg_7 4 p1 = q9 := ⟨_, rfl⟩
    have o_p0 : OV vw_M5 Ps ws p0 sg_9 := by rw [← q_sg_9]; exact OV.putI (V := vw_M5) hF9 n_k_8 o_p0 (by decide)
    refine lv_aload_n hx hb dX10_begin_18 rfl (lv_at hl 0 rfl) ?_
    refine lv_iconst (v := 0) hx hb dX10_begin_19 (by decide) ?_
    refine tg_put (ci := 10) (ts := ty_MODEL) (v := .int 0) (ty := .int) (C := RX10) (T := TX10) (N := 49) hx hb hts inX10 tyX10 tyX10_ok nmX10 hown hK hw h_p0 rfl rfl 10 (by decide) (hts _ tw_1147) (fun _ h9 => h9) rfl (by decide +kernel) rfl rfl (ft := vI (-2147483648) 2147483647) rfl ⟨_, rfl, (rl_0.to (by decide))⟩ (by decide) dX10_begin_20 (fun ws H locs hw n_k_10 hF9 => ?_)
    have n_k_1 := FLD.over hF9 n_k_1 (by decide)
    have m_v_5 := FLD.over hF9 m_v_5 (by decide)
    have n_k_6 := FLD.over hF9 n_k_6 (by decide)
    have n_k_8 := FLD.over hF9 n_k_8 (by decide)
    have x_TLM_p0_0 := TLM.over hF9 x_TLM_p0_0 (by decide)
    obtain ⟨sg_11, q_sg_11⟩ : ∃ q9 : OS, sI sg_9 10 (0 : Int32) = q9 := ⟨_, rfl⟩
    have o_p0 : OV vw_M5 Ps ws p0 sg_11 := by rw [← q_sg_11]; exact OV.putI (V := vw_M5) hF9 n_k_10 o_p0 (by decide)
    refine lv_aload_n hx hb dX10_begin_23 rfl (lv_at hl 0 rfl) ?_
    refine lv_iconst (v := 0) hx hb dX10_begin_24 (by decide) ?_
    refine tg_put (ci := 10) (ts := ty_MODEL) (v := .int 0) (ty := .int) (C := RX10) (T := TX10) (N := 49) hx hb hts inX10 tyX10 tyX10_ok nmX10 hown hK hw h_p0 rfl rfl 5 (by decide) (hts _ tw_1142) (fun _ h9 => h9) rfl (by decide +kernel) rfl rfl (ft := vI 0 940) rfl ⟨_, rfl, (rl_0.to (by decide))⟩ (by decide) dX10_begin_25 (fun ws H locs hw n_k_12 hF9 => ?_)
    have n_k_1 := FLD.over hF9 n_k_1 (by decide)
    have m_v_5 := FLD.over hF9 m_v_5 (by decide)
    have n_k_6 := FLD.over hF9 n_k_6 (by decide)
    have n_k_8 := FLD.over hF9 n_k_8 (by decide)
    have n_k_10 := FLD.over hF9 n_k_10 (by decide)
    have x_TLM_p0_0 := TLM.over hF9 x_TLM_p0_0 (by decide)
    obtain ⟨sg_13, q_sg_13⟩ : ∃ q9 : OS, sI sg_11 5 (0 : Int32) = q9 := ⟨_, rfl⟩
    have o_p0 : OV vw_M5 Ps ws p0 sg_13 := by rw [← q_sg_13]; exact OV.putI (V := vw_M5) hF9 n_k_12 o_p0 (by decide)
    refine lv_aload_n hx hb dX10_begin_28 rfl (lv_at hl 0 rfl) ?_
    refine tk_v (va_runV (As := []) (rest := []) ⟨hx, hb, hml, hown, hts⟩ (c_X10_go__5 l D cy z H.size Ps ws hw.1 p0 sg_13 h_p0 o_p0) (cwV 0 hts (gV tw_1298 tw_1300 ts_40 tw_15 tw_1301) rfl rfl rfl (by decide +kernel) ⟨Nat.le_of_ble_eq_true rfl, Nat.le_of_ble_eq_true rfl⟩) (tg_preV hw hK hSD hA (ci := 10) (q := (RX10, TX10, 49)) rfl h_p0 rfl) rfl rfl hl.1 rfl (lv_room (Nat.le_of_ble_eq_true rfl)) dX10_begin_29 ⟨Nat.le_of_ble_eq_true rfl, Nat.le_of_ble_eq_true rfl⟩) hw hA ⟨by decide, by decide⟩ (fun ws H locs hp_v_14 hw hF9 => ?_)
    have n_k_1 := FLD.over hF9 n_k_1 (by decide)
    have m_v_5 := FLD.over hF9 m_v_5 (by decide)
    have n_k_6 := FLD.over hF9 n_k_6 (by decide)
    have n_k_8 := FLD.over hF9 n_k_8 (by decide)
    have n_k_10 := FLD.over hF9 n_k_10 (by decide)
    have x_TLM_p0_0 := TLM.over hF9 x_TLM_p0_0 (by decide)
    obtain ⟨hfn, hp_v_14⟩ := hp_v_14
    obtain ⟨sg_15, q_sg_15⟩ : ∃ q9 : OS, (f_X10_go__2 sg_13) = q9 := ⟨_, rfl⟩
    have o_p0 : OV vw_M5 Ps ws p0 sg_15 := by rw [← q_sg_15]; exact hfn.1
    simp only [f_X10_begin__4, ↓reduceIte, q_sg_2, q_sg_4, q_v_3, eq_true c9_v_3, q_sg_7, q_sg_9, q_sg_11, q_sg_13, q_sg_15] at hE
    subst hQ
    exact W.vret hx hb hr (fun t ht hW => ⟨⟨ws, rfl, ⟨⟨⟨(by rw [hR, ← hE]; exact o_p0), trivial⟩, ⟨⟨_, m_v_5, r_v_5⟩, x_TLM_p0_0, trivial⟩⟩, hw.1, hw.2.2.2.2.1⟩, by rw [ht]; exact hw.2.1, va_K.moved hW.alike hK, hw.2.2.1⟩, hw.2.2.2.1.F ht⟩) hw.2.2.2.1.2.2 dX10_begin_32
  · have r_v_3 : RI v_3 1 940 := rc_neL r_v_3 rl_0 (ti_ne c9_v_3) (by decide)
    obtain ⟨v_16, m_v_16, r_v_16⟩ := ((hp_v_3.2.2 c9_v_3).1)
    have x_TLM_p0_0 := ((hp_v_3.2.2 c9_v_3).2.1)
    refine tg_put (ci := 10) (ts := ty_MODEL) (v := .int v_3) (ty := .int) (C := RX10) (T := TX10) (N := 49) hx hb hts inX10 tyX10 tyX10_ok nmX10 hown hK hw h_p0 rfl rfl 3 (by decide) (hts _ tw_1140) (fun _ h9 => h9) rfl (by decide +kernel) rfl rfl (ft := vI 0 940) rfl ⟨_, rfl, (r_v_3.to (by decide))⟩ (by decide) dX10_begin_10 (fun ws H locs hw n_k_17 hF9 => ?_)
    have n_k_1 := FLD.over hF9 n_k_1 (by decide)
    have m_v_16 := FLD.over hF9 m_v_16 (by decide)
    have x_TLM_p0_0 := TLM.over hF9 x_TLM_p0_0 (by decide)
    obtain ⟨sg_18, q_sg_18⟩ : ∃ q9 : OS, sI sg_4 3 v_3 = q9 := ⟨_, rfl⟩
    have o_p0 : OV vw_M5 Ps ws p0 sg_18 := by rw [← q_sg_18]; exact OV.putI (V := vw_M5) hF9 n_k_17 o_p0 (by decide)
    refine lv_aload_n hx hb dX10_begin_13 rfl (lv_at hl 0 rfl) ?_
    refine lv_iload_n hx hb dX10_begin_14 rfl (lv_at hl 1 rfl) ?_
    refine tg_put (ci := 10) (ts := ty_MODEL) (v := .int p1) (ty := .int) (C := RX10) (T := TX10) (N := 49) hx hb hts inX10 tyX10 tyX10_ok nmX10 hown hK hw h_p0 rfl rfl 4 (by decide) (hts _ tw_1141) (fun _ h9 => h9) rfl (by decide +kernel) rfl rfl (ft := vI (-2147483648) 2147483647) rfl ⟨_, rfl, r_p1⟩ (by decide) dX10_begin_15 (fun ws H locs hw n_k_19 hF9 => ?_)
    have n_k_1 := FLD.over hF9 n_k_1 (by decide)
    have m_v_16 := FLD.over hF9 m_v_16 (by decide)
    have n_k_17 := FLD.over hF9 n_k_17 (by decide)
    have x_TLM_p0_0 := TLM.over hF9 x_TLM_p0_0 (by decide)
    obtain ⟨sg_20, q_sg_20⟩ : ∃ q9 : OS, sI sg_18 4 p1 = q9 := ⟨_, rfl⟩
    have o_p0 : OV vw_M5 Ps ws p0 sg_20 := by rw [← q_sg_20]; exact OV.putI (V := vw_M5) hF9 n_k_19 o_p0 (by decide)
    refine lv_aload_n hx hb dX10_begin_18 rfl (lv_at hl 0 rfl) ?_
    refine lv_iconst (v := 0) hx hb dX10_begin_19 (by decide) ?_
    refine tg_put (ci := 10) (ts := ty_MODEL) (v := .int 0) (ty := .int) (C := RX10) (T := TX10) (N := 49) hx hb hts inX10 tyX10 tyX10_ok nmX10 hown hK hw h_p0 rfl rfl 10 (by decide) (hts _ tw_1147) (fun _ h9 => h9) rfl (by decide +kernel) rfl rfl (ft := vI (-2147483648) 2147483647) rfl ⟨_, rfl, (rl_0.to (by decide))⟩ (by decide) dX10_begin_20 (fun ws H locs hw n_k_21 hF9 => ?_)
    have n_k_1 := FLD.over hF9 n_k_1 (by decide)
    have m_v_16 := FLD.over hF9 m_v_16 (by decide)
    have n_k_17 := FLD.over hF9 n_k_17 (by decide)
    have n_k_19 := FLD.over hF9 n_k_19 (by decide)
    have x_TLM_p0_0 := TLM.over hF9 x_TLM_p0_0 (by decide)
    obtain ⟨sg_22, q_sg_22⟩ : ∃ q9 : OS, sI sg_20 10 (0 : Int32) = q9 := ⟨_, rfl⟩
    have o_p0 : OV vw_M5 Ps ws p0 sg_22 := by rw [← q_sg_22]; exact OV.putI (V := vw_M5) hF9 n_k_21 o_p0 (by decide)
    refine lv_aload_n hx hb dX10_begin_23 rfl (lv_at hl 0 rfl) ?_
    refine lv_iconst (v := 0) hx hb dX10_begin_24 (by decide) ?_
    refine tg_put (ci := 10) (ts := ty_MODEL) (v := .int 0) (ty := .int) (C := RX10) (T := TX10) (N := 49) hx hb hts inX10 tyX10 tyX10_ok nmX10 hown hK hw h_p0 rfl rfl 5 (by decide) (hts _ tw_1142) (fun _ h9 => h9) rfl (by decide +kernel) rfl rfl (ft := vI 0 940) rfl ⟨_, rfl, (rl_0.to (by decide))⟩ (by decide) dX10_begin_25 (fun ws H locs hw n_k_23 hF9 => ?_)
    have n_k_1 := FLD.over hF9 n_k_1 (by decide)
    have m_v_16 := FLD.over hF9 m_v_16 (by decide)
    have n_k_17 := FLD.over hF9 n_k_17 (by decide)
    have n_k_19 := FLD.over hF9 n_k_19 (by decide)
    have n_k_21 := FLD.over hF9 n_k_21 (by decide)
    have x_TLM_p0_0 := TLM.over hF9 x_TLM_p0_0 (by decide)
    obtain ⟨sg_24, q_sg_24⟩ : ∃ q9 : OS, sI sg_22 5 (0 : Int32) = q9 := ⟨_, rfl⟩
    have o_p0 : OV vw_M5 Ps ws p0 sg_24 := by rw [← q_sg_24]; exact OV.putI (V := vw_M5) hF9 n_k_23 o_p0 (by decide)
    refine lv_aload_n hx hb dX10_begin_28 rfl (lv_at hl 0 rfl) ?_
    refine tk_v (va_runV (As := []) (rest := []) ⟨hx, hb, hml, hown, hts⟩ (c_X10_go__5 l D cy z H.size Ps ws hw.1 p0 sg_24 h_p0 o_p0) (cwV 0 hts (gV tw_1298 tw_1300 ts_40 tw_15 tw_1301) rfl rfl rfl (by decide +kernel) ⟨Nat.le_of_ble_eq_true rfl, Nat.le_of_ble_eq_true rfl⟩) (tg_preV hw hK hSD hA (ci := 10) (q := (RX10, TX10, 49)) rfl h_p0 rfl) rfl rfl hl.1 rfl (lv_room (Nat.le_of_ble_eq_true rfl)) dX10_begin_29 ⟨Nat.le_of_ble_eq_true rfl, Nat.le_of_ble_eq_true rfl⟩) hw hA ⟨by decide, by decide⟩ (fun ws H locs hp_v_25 hw hF9 => ?_)
    have n_k_1 := FLD.over hF9 n_k_1 (by decide)
    have m_v_16 := FLD.over hF9 m_v_16 (by decide)
    have n_k_17 := FLD.over hF9 n_k_17 (by decide)
    have n_k_19 := FLD.over hF9 n_k_19 (by decide)
    have n_k_21 := FLD.over hF9 n_k_21 (by decide)
    have x_TLM_p0_0 := TLM.over hF9 x_TLM_p0_0 (by decide)
    obtain ⟨hfn, hp_v_25⟩ := hp_v_25
    obtain ⟨sg_26, q_sg_26⟩ : ∃ q9 : OS, (f_X10_go__2 sg_24) = q9 := ⟨_, rfl⟩
    have o_p0 : OV vw_M5 Ps ws p0 sg_26 := by rw [← q_sg_26]; exact hfn.1
    simp only [f_X10_begin__4, ↓reduceIte, q_sg_2, q_sg_4, q_v_3, eq_false c9_v_3, q_sg_18, q_sg_20, q_sg_22, q_sg_24, q_sg_26] at hE
    subst hQ
    exact W.vret hx hb hr (fun t ht hW => ⟨⟨ws, rfl, ⟨⟨⟨(by rw [hR, ← hE]; exact o_p0), trivial⟩, ⟨⟨_, m_v_16, r_v_16⟩, x_TLM_p0_0, trivial⟩⟩, hw.1, hw.2.2.2.2.1⟩, by rw [ht]; exact hw.2.1, va_K.moved hW.alike hK, hw.2.2.1⟩, hw.2.2.2.1.F ht⟩) hw.2.2.2.1.2.2 dX10_begin_32
abbrev wr_X10_wordOf__11 : List (Nat × Nat) := []
abbrev wa_X10_wordOf__11 : List Nat := []
set_option maxHeartbeats 4000000 in
set_option maxRecDepth 100000 in
theorem c_X10_wordOf__11 (l : Launch) (D : va_G) (cy : Nat → ClassId) (z : Nat → Nat) (sz : Nat) (Ps : PSI) (w0 : va_W) (hT : HT cy GG Ps w0) (p0 : Int32) (r_p0 : RI p0 13 13) : Met l yX10_wordOf (Cond.code yX10_wordOf cX10_wordOf 1 (some .long) :: gT) ({ frames := 2, cells := 0, slots := 0, locals := 400 } : Room) (va_Pc [.int p0] (PRE D cy z w0 sz)) (va_Ql (fun (r : Int64) (u : Unit) => ((f_X10_wordOf__11 p0) = r ∧ True) ∧ (RJ r 307058 307058)) (BB D cy (va_A w0 sz) (fun (u : Unit) => w0)) (va_A w0 sz)) 0 0 (va_A w0 sz) := by
  refine Met.ofW (cc := cX10_wordOf) (maxL := 1) (ret := (some .long)) (by decide) rfl ?_
  intro p e s m args below meth c s₁ B hml hv
  obtain ⟨rfl, hsz, hP, hK, hD0, hSD⟩ := hv
  have hx := B.exec
  have hb := B.bytes
  have hr := B.returns
  have hlocks := B.notSynchronized
  have hts : ∀ w ∈ gT, w.before _ s = true := fun w h => atoms_spec (ws := Cond.code yX10_wordOf cX10_wordOf 1 (some .long) :: gT) B.pre w (List.mem_cons_of_mem _ h)
  have hown : s.vm.findClass RX10 = some m.cls := findClass_of_methodNamed B.named
  subst hsz
  have hD := hD0.self (sz := s.heap.size)
  generalize hAe : va_A w0 s.heap.size = A at hD hSD ⊢
  have hA : ∀ q : Nat, s.heap.size ≤ q → A q := fun q h => by rw [← hAe]; exact Or.inr h
  have hl := lv_entry ([.int p0]) (n := 1) (Nat.le_of_ble_eq_true rfl)
  rw [lg_entry_eq]
  generalize (lg_sl ([.int p0]) ++ List.replicate (1 - (lg_sl ([.int p0])).length) Slot.unset).toArray = ls at hl ⊢
  have hl : lv_has ls 1 [(0, .int p0)] := hl
  refine nameQ (fun Q hQ => ?_)
  have hw : WD D cy GG A s wr_X10_wordOf__11 wa_X10_wordOf__11 Ps w0 Ps w0 s.heap [] := ⟨hT, hP, hD, va_S.rf, FR.rf, hT.1, [], (List.append_nil _).symm⟩
  obtain ⟨R9, hR⟩ : ∃ q9 : Int64, f_X10_wordOf__11 p0 = q9 := ⟨_, rfl⟩
  have hE := hR
  refine lv_iload_n hx hb dX10_wordOf_0 rfl (lv_at hl 0 rfl) ?_
  have w_1 := r_p0
  by_cases cl_1 : p0.toInt < 0 ∨ 26 < p0.toInt
  · refine lv_tableOut (tgt := 547) hx hb dX10_wordOf_1 cl_1 (by decide) ?_
    exact absurd cl_1 (by unfold RI at w_1; omega)
  · have e_1 : p0.toInt = 0 ∨ p0.toInt = 1 ∨ p0.toInt = 2 ∨ p0.toInt = 3 ∨ p0.toInt = 4 ∨ p0.toInt = 5 ∨ p0.toInt = 6 ∨ p0.toInt = 7 ∨ p0.toInt = 8 ∨ p0.toInt = 9 ∨ p0.toInt = 10 ∨ p0.toInt = 11 ∨ p0.toInt = 12 ∨ p0.toInt = 13 ∨ p0.toInt = 14 ∨ p0.toInt = 15 ∨ p0.toInt = 16 ∨ p0.toInt = 17 ∨ p0.toInt = 18 ∨ p0.toInt = 19 ∨ p0.toInt = 20 ∨ p0.toInt = 21 ∨ p0.toInt = 22 ∨ p0.toInt = 23 ∨ p0.toInt = 24 ∨ p0.toInt = 25 ∨ p0.toInt = 26 := by omega
    rcases e_1 with h_1 | h_1 | h_1 | h_1 | h_1 | h_1 | h_1 | h_1 | h_1 | h_1 | h_1 | h_1 | h_1 | h_1 | h_1 | h_1 | h_1 | h_1 | h_1 | h_1 | h_1 | h_1 | h_1 | h_1 | h_1 | h_1 | h_1
    · exact absurd h_1 (by unfold RI at w_1; omega)
    · exact absurd h_1 (by unfold RI at w_1; omega)
    · exact absurd h_1 (by unfold RI at w_1; omega)
    · exact absurd h_1 (by unfold RI at w_1; omega)
    · exact absurd h_1 (by unfold RI at w_1; omega)
    · exact absurd h_1 (by unfold RI at w_1; omega)
    · exact absurd h_1 (by unfold RI at w_1; omega)
    · exact absurd h_1 (by unfold RI at w_1; omega)
    · exact absurd h_1 (by unfold RI at w_1; omega)
    · exact absurd h_1 (by unfold RI at w_1; omega)
    · exact absurd h_1 (by unfold RI at w_1; omega)
    · exact absurd h_1 (by unfold RI at w_1; omega)
    · exact absurd h_1 (by unfold RI at w_1; omega)
    · refine lv_tableIn (tgt := 334) (off := 333) hx hb dX10_wordOf_1 (by omega) (by omega) (by rw [h_1]; rfl) (by decide) ?_
      have r_p0 : RI p0 13 13 := ⟨by omega, by omega⟩
      refine lv_bipush (v := 111) hx hb dX10_wordOf_334 (by decide) ?_
      refine lv_bipush (v := 112) hx hb dX10_wordOf_336 (by decide) ?_
      refine lv_bipush (v := 101) hx hb dX10_wordOf_338 (by decide) ?_
      refine lv_bipush (v := 110) hx hb dX10_wordOf_340 (by decide) ?_
      refine lv_iconst (v := 0) hx hb dX10_wordOf_342 (by decide) ?_
      refine lv_iconst (v := 0) hx hb dX10_wordOf_343 (by decide) ?_
      refine lv_iconst (v := 0) hx hb dX10_wordOf_344 (by decide) ?_
      refine tk_lr (va_runS (As := [.int 111, .int 112, .int 101, .int 110, .int 0, .int 0, .int 0]) (rest := []) ⟨hx, hb, hml, hown, hts⟩ (c_X10_spelt__72 l D cy z s.heap.size Ps w0 hw.1 111 112 101 110 0 0 0 rl_111 rl_112 rl_101 rl_110 rl_0 rl_0 rl_0) (va_cwS 7 hts (gS tw_1325 tw_1326 tw_15 tw_1327) rfl rfl rfl (by decide +kernel) ⟨Nat.le_of_ble_eq_true rfl, Nat.le_of_ble_eq_true rfl⟩) (tg_preS hw hK hSD hA) rfl rfl hl.1 rfl (lv_room (Nat.le_of_ble_eq_true rfl)) dX10_wordOf_345 ⟨Nat.le_of_ble_eq_true rfl, Nat.le_of_ble_eq_true rfl⟩) hw hA (fun v_1  H locs hp_v_1 hw => ?_)
      obtain ⟨hfn, hp_v_1⟩ := hp_v_1
      have q_v_1 : (f_X10_spelt__31 (111 : Int32) (112 : Int32) (101 : Int32) (110 : Int32) (0 : Int32) (0 : Int32) (0 : Int32)) = v_1 := hfn.1
      have r_v_1 : RJ v_1 307058 307058 := hp_v_1
      simp only [f_X10_wordOf__11, ↓reduceIte, q_v_1] at hE
      subst hQ
      exact W.lret (v := v_1) hx hb hr (fun t ht hW => ⟨⟨v_1, (), rfl, ⟨⟨(by rw [hR, ← hE]), trivial⟩, r_v_1.to (by decide)⟩, by rw [ht]; exact hw.2.1, va_K.moved hW.alike hK, hw.2.2.1⟩, hw.2.2.2.1.F ht⟩) hw.2.2.2.1.2.2 dX10_wordOf_348
    · exact absurd h_1 (by unfold RI at w_1; omega)
    · exact absurd h_1 (by unfold RI at w_1; omega)
    · exact absurd h_1 (by unfold RI at w_1; omega)
    · exact absurd h_1 (by unfold RI at w_1; omega)
    · exact absurd h_1 (by unfold RI at w_1; omega)
    · exact absurd h_1 (by unfold RI at w_1; omega)
    · exact absurd h_1 (by unfold RI at w_1; omega)
    · exact absurd h_1 (by unfold RI at w_1; omega)
    · exact absurd h_1 (by unfold RI at w_1; omega)
    · exact absurd h_1 (by unfold RI at w_1; omega)
    · exact absurd h_1 (by unfold RI at w_1; omega)
    · exact absurd h_1 (by unfold RI at w_1; omega)
    · exact absurd h_1 (by unfold RI at w_1; omega)
abbrev wr_X10_isWord__6 : List (Nat × Nat) := []
abbrev wa_X10_isWord__6 : List Nat := []
set_option maxHeartbeats 4000000 in
set_option maxRecDepth 100000 in
theorem c_X10_isWord__6 (l : Launch) (D : va_G) (cy : Nat → ClassId) (z : Nat → Nat) (sz : Nat) (Ps : PSI) (w0 : va_W) (hT : HT cy GG Ps w0) (p0 : Nat) (p1 : Int32) (s0 : OS) (h_p0 : (p0, 55) ∈ Ps) (r_p1 : RI p1 13 13) (o_p0 : OV vw_M5 Ps w0 p0 s0) : Met l yX10_isWord (Cond.code yX10_isWord cX10_isWord 2 (some .boolean) :: gT) ({ frames := 3, cells := 0, slots := 0, locals := 600 } : Room) (va_Pc [.ref p0, .int p1] (PRE D cy z w0 sz)) (va_Qi (fun (r : Int32) (u : Unit) => ((f_X10_isWord__6 p1 s0) = r ∧ True) ∧ (RI r 0 1 ∧ (r = 0 → True) ∧ (¬ r = 0 → WRD w0 p0 307058 ∧ True))) (BB D cy (va_A w0 sz) (fun (u : Unit) => w0)) (va_A w0 sz)) 0 0 (va_A w0 sz) := by
  refine Met.ofW (cc := cX10_isWord) (maxL := 2) (ret := (some .boolean)) (by decide) rfl ?_
  intro p e s m args below meth c s₁ B hml hv
  obtain ⟨rfl, hsz, hP, hK, hD0, hSD⟩ := hv
  have hx := B.exec
  have hb := B.bytes
  have hr := B.returns
  have hlocks := B.notSynchronized
  have hts : ∀ w ∈ gT, w.before _ s = true := fun w h => atoms_spec (ws := Cond.code yX10_isWord cX10_isWord 2 (some .boolean) :: gT) B.pre w (List.mem_cons_of_mem _ h)
  have hown : s.vm.findClass RX10 = some m.cls := findClass_of_methodNamed B.named
  subst hsz
  have hD := hD0.self (sz := s.heap.size)
  generalize hAe : va_A w0 s.heap.size = A at hD hSD ⊢
  have hA : ∀ q : Nat, s.heap.size ≤ q → A q := fun q h => by rw [← hAe]; exact Or.inr h
  have hl := lv_entry ([.ref p0, .int p1]) (n := 2) (Nat.le_of_ble_eq_true rfl)
  rw [lg_entry_eq]
  generalize (lg_sl ([.ref p0, .int p1]) ++ List.replicate (2 - (lg_sl ([.ref p0, .int p1])).length) Slot.unset).toArray = ls at hl ⊢
  have hl : lv_has ls 2 [(0, .ref p0), (1, .int p1)] := hl
  refine nameQ (fun Q hQ => ?_)
  have hw : WD D cy GG A s wr_X10_isWord__6 wa_X10_isWord__6 Ps w0 Ps w0 s.heap [] := ⟨hT, hP, hD, va_S.rf, FR.rf, hT.1, [], (List.append_nil _).symm⟩
  obtain ⟨R9, hR⟩ : ∃ q9 : Int32, f_X10_isWord__6 p1 s0 = q9 := ⟨_, rfl⟩
  have hE := hR
  refine lv_aload_n hx hb dX10_isWord_0 rfl (lv_at hl 0 rfl) ?_
  refine tg_get (ci := 10) (ts := ty_MODEL) (C := RX10) (T := TX10) (N := 49) hx hb hts inX10 hown hK hw h_p0 rfl rfl 7 (by decide) (hts _ tw_1144) (fun _ h9 => h9) (ft := vI (-2147483648) 2147483647) rfl dX10_isWord_1 (fun u_1 hv_u_1 m_u_1 => ?_)
  obtain ⟨vu_1, rfl, r_vu_1⟩ := hv_u_1
  have q_vu_1 : s0.1 7 = vu_1 := OV.eqI (V := vw_M5) hw.2.2.1 o_p0 m_u_1 (by decide)
  refine lv_iconst (v := 2) hx hb dX10_isWord_4 (by decide) ?_
  refine lv_icmp_ne (tgt := 24) hx hb dX10_isWord_5 (by decide) (fun c_5 => ?_) (fun c_5 => ?_)
  · refine lv_iconst (v := 0) hx hb dX10_isWord_24 (by decide) ?_
    simp only [f_X10_isWord__6, ↓reduceIte, q_vu_1, eq_false c_5] at hE
    subst hQ
    exact W.zret (v := 0) hx hb hr (rfl) (fun t ht hW => ⟨⟨0, (), rfl, ⟨⟨(by rw [hR, ← hE]), trivial⟩, rl_0.to (by decide), (fun h0 => trivial), (fun h0 => absurd rfl h0)⟩, by rw [ht]; exact hw.2.1, va_K.moved hW.alike hK, hw.2.2.1⟩, hw.2.2.2.1.F ht⟩) hw.2.2.2.1.2.2 dX10_isWord_25
  · have r_vu_1 : RI vu_1 2 2 := rc_eq1 r_vu_1 rl_2 (ti_eq c_5) (by decide)
    refine lv_aload_n hx hb dX10_isWord_8 rfl (lv_at hl 0 rfl) ?_
    refine tg_get (ci := 10) (ts := ty_MODEL) (C := RX10) (T := TX10) (N := 49) hx hb hts inX10 hown hK hw h_p0 rfl rfl 12 (by decide) (hts _ tw_1149) (fun _ h9 => h9) (ft := vJ (-9223372036854775808) 9223372036854775807) rfl dX10_isWord_9 (fun u_2 hv_u_2 m_u_2 => ?_)
    obtain ⟨vu_2, rfl, r_vu_2⟩ := hv_u_2
    have q_vu_2 : s0.2.1 12 = vu_2 := OV.eqL (V := vw_M5) hw.2.2.1 o_p0 m_u_2 (by decide)
    refine lv_iload_n hx hb dX10_isWord_12 rfl (lv_at hl 1 rfl) ?_
    refine tk_lr (va_runS (As := [.int p1]) (rest := [.long vu_2]) ⟨hx, hb, hml, hown, hts⟩ (c_X10_wordOf__11 l D cy z s.heap.size Ps w0 hw.1 p1 r_p1) (va_cwS 1 hts (gS tw_1322 tw_1323 tw_15 tw_1324) rfl rfl rfl (by decide +kernel) ⟨Nat.le_of_ble_eq_true rfl, Nat.le_of_ble_eq_true rfl⟩) (tg_preS hw hK hSD hA) rfl rfl hl.1 rfl (lv_room (Nat.le_of_ble_eq_true rfl)) dX10_isWord_13 ⟨Nat.le_of_ble_eq_true rfl, Nat.le_of_ble_eq_true rfl⟩) hw hA (fun v_3  H locs hp_v_3 hw => ?_)
    obtain ⟨hfn, hp_v_3⟩ := hp_v_3
    have q_v_3 : (f_X10_wordOf__11 p1) = v_3 := hfn.1
    have r_v_3 : RJ v_3 307058 307058 := hp_v_3
    refine W.lcmp hx hb dX10_isWord_16 (lv_topi (fun v_4 e_v_4 => ?_))
    have r_v_4 := ri_any v_4
    have q_v_4 : lg_cmp vu_2 v_3 = v_4 := e_v_4.symm
    refine lv_if_ne (tgt := 24) hx hb dX10_isWord_17 (by decide) (fun c_17 => ?_) (fun c_17 => ?_)
    · refine lv_iconst (v := 0) hx hb dX10_isWord_24 (by decide) ?_
      simp only [f_X10_isWord__6, ↓reduceIte, q_vu_1, eq_true c_5, q_vu_2, q_v_3, q_v_4, eq_false c_17] at hE
      subst hQ
      exact W.zret (v := 0) hx hb hr (rfl) (fun t ht hW => ⟨⟨0, (), rfl, ⟨⟨(by rw [hR, ← hE]), trivial⟩, rl_0.to (by decide), (fun h0 => trivial), (fun h0 => absurd rfl h0)⟩, by rw [ht]; exact hw.2.1, va_K.moved hW.alike hK, hw.2.2.1⟩, hw.2.2.2.1.F ht⟩) hw.2.2.2.1.2.2 dX10_isWord_25
    · have r_v_4 : RI v_4 0 0 := rc_eq1 r_v_4 rl_0 (ti_eq c_17) (by decide)
      have x_WRD_p0_307058 : WRD w0 p0 307058 := ⟨_, m_u_2, by have k1 := lcmp_eq e_v_4 c_17; have k2 := r_v_3.1; have k3 := r_v_3.2; rw [k1]; omega⟩
      refine lv_iconst (v := 1) hx hb dX10_isWord_20 (by decide) ?_
      refine lv_goto (tgt := 25) hx hb dX10_isWord_21 (by decide) ?_
      simp only [f_X10_isWord__6, ↓reduceIte, q_vu_1, eq_true c_5, q_vu_2, q_v_3, q_v_4, eq_true c_17] at hE
      subst hQ
      exact W.zret (v := 1) hx hb hr (rfl) (fun t ht hW => ⟨⟨1, (), rfl, ⟨⟨(by rw [hR, ← hE]), trivial⟩, rl_1.to (by decide), (fun _ => trivial), (fun h0 => ⟨x_WRD_p0_307058, trivial⟩)⟩, by rw [ht]; exact hw.2.1, va_K.moved hW.alike hK, hw.2.2.1⟩, hw.2.2.2.1.F ht⟩) hw.2.2.2.1.2.2 dX10_isWord_25
abbrev wr_X10_wordOf__12 : List (Nat × Nat) := []
abbrev wa_X10_wordOf__12 : List Nat := []
set_option maxHeartbeats 4000000 in
set_option maxRecDepth 100000 in
theorem c_X10_wordOf__12 (l : Launch) (D : va_G) (cy : Nat → ClassId) (z : Nat → Nat) (sz : Nat) (Ps : PSI) (w0 : va_W) (hT : HT cy GG Ps w0) (p0 : Int32) (r_p0 : RI p0 14 14) : Met l yX10_wordOf (Cond.code yX10_wordOf cX10_wordOf 1 (some .long) :: gT) ({ frames := 2, cells := 0, slots := 0, locals := 400 } : Room) (va_Pc [.int p0] (PRE D cy z w0 sz)) (va_Ql (fun (r : Int64) (u : Unit) => ((f_X10_wordOf__12 p0) = r ∧ True) ∧ (RJ r 1627639 1627639)) (BB D cy (va_A w0 sz) (fun (u : Unit) => w0)) (va_A w0 sz)) 0 0 (va_A w0 sz) := by
  refine Met.ofW (cc := cX10_wordOf) (maxL := 1) (ret := (some .long)) (by decide) rfl ?_
  intro p e s m args below meth c s₁ B hml hv
  obtain ⟨rfl, hsz, hP, hK, hD0, hSD⟩ := hv
  have hx := B.exec
  have hb := B.bytes
  have hr := B.returns
  have hlocks := B.notSynchronized
  have hts : ∀ w ∈ gT, w.before _ s = true := fun w h => atoms_spec (ws := Cond.code yX10_wordOf cX10_wordOf 1 (some .long) :: gT) B.pre w (List.mem_cons_of_mem _ h)
  have hown : s.vm.findClass RX10 = some m.cls := findClass_of_methodNamed B.named
  subst hsz
  have hD := hD0.self (sz := s.heap.size)
  generalize hAe : va_A w0 s.heap.size = A at hD hSD ⊢
  have hA : ∀ q : Nat, s.heap.size ≤ q → A q := fun q h => by rw [← hAe]; exact Or.inr h
  have hl := lv_entry ([.int p0]) (n := 1) (Nat.le_of_ble_eq_true rfl)
  rw [lg_entry_eq]
  generalize (lg_sl ([.int p0]) ++ List.replicate (1 - (lg_sl ([.int p0])).length) Slot.unset).toArray = ls at hl ⊢
  have hl : lv_has ls 1 [(0, .int p0)] := hl
  refine nameQ (fun Q hQ => ?_)
  have hw : WD D cy GG A s wr_X10_wordOf__12 wa_X10_wordOf__12 Ps w0 Ps w0 s.heap [] := ⟨hT, hP, hD, va_S.rf, FR.rf, hT.1, [], (List.append_nil _).symm⟩
  obtain ⟨R9, hR⟩ : ∃ q9 : Int64, f_X10_wordOf__12 p0 = q9 := ⟨_, rfl⟩
  have hE := hR
  refine lv_iload_n hx hb dX10_wordOf_0 rfl (lv_at hl 0 rfl) ?_
  have w_1 := r_p0
  by_cases cl_1 : p0.toInt < 0 ∨ 26 < p0.toInt
  · refine lv_tableOut (tgt := 547) hx hb dX10_wordOf_1 cl_1 (by decide) ?_
    exact absurd cl_1 (by unfold RI at w_1; omega)
  · have e_1 : p0.toInt = 0 ∨ p0.toInt = 1 ∨ p0.toInt = 2 ∨ p0.toInt = 3 ∨ p0.toInt = 4 ∨ p0.toInt = 5 ∨ p0.toInt = 6 ∨ p0.toInt = 7 ∨ p0.toInt = 8 ∨ p0.toInt = 9 ∨ p0.toInt = 10 ∨ p0.toInt = 11 ∨ p0.toInt = 12 ∨ p0.toInt = 13 ∨ p0.toInt = 14 ∨ p0.toInt = 15 ∨ p0.toInt = 16 ∨ p0.toInt = 17 ∨ p0.toInt = 18 ∨ p0.toInt = 19 ∨ p0.toInt = 20 ∨ p0.toInt = 21 ∨ p0.toInt = 22 ∨ p0.toInt = 23 ∨ p0.toInt = 24 ∨ p0.toInt = 25 ∨ p0.toInt = 26 := by omega
    rcases e_1 with h_1 | h_1 | h_1 | h_1 | h_1 | h_1 | h_1 | h_1 | h_1 | h_1 | h_1 | h_1 | h_1 | h_1 | h_1 | h_1 | h_1 | h_1 | h_1 | h_1 | h_1 | h_1 | h_1 | h_1 | h_1 | h_1 | h_1
    · exact absurd h_1 (by unfold RI at w_1; omega)
    · exact absurd h_1 (by unfold RI at w_1; omega)
    · exact absurd h_1 (by unfold RI at w_1; omega)
    · exact absurd h_1 (by unfold RI at w_1; omega)
    · exact absurd h_1 (by unfold RI at w_1; omega)
    · exact absurd h_1 (by unfold RI at w_1; omega)
    · exact absurd h_1 (by unfold RI at w_1; omega)
    · exact absurd h_1 (by unfold RI at w_1; omega)
    · exact absurd h_1 (by unfold RI at w_1; omega)
    · exact absurd h_1 (by unfold RI at w_1; omega)
    · exact absurd h_1 (by unfold RI at w_1; omega)
    · exact absurd h_1 (by unfold RI at w_1; omega)
    · exact absurd h_1 (by unfold RI at w_1; omega)
    · exact absurd h_1 (by unfold RI at w_1; omega)
    · refine lv_tableIn (tgt := 349) (off := 348) hx hb dX10_wordOf_1 (by omega) (by omega) (by rw [h_1]; rfl) (by decide) ?_
      have r_p0 : RI p0 14 14 := ⟨by omega, by omega⟩
      refine lv_bipush (v := 99) hx hb dX10_wordOf_349 (by decide) ?_
      refine lv_bipush (v := 97) hx hb dX10_wordOf_351 (by decide) ?_
      refine lv_bipush (v := 114) hx hb dX10_wordOf_353 (by decide) ?_
      refine lv_bipush (v := 114) hx hb dX10_wordOf_355 (by decide) ?_
      refine lv_bipush (v := 121) hx hb dX10_wordOf_357 (by decide) ?_
      refine lv_iconst (v := 0) hx hb dX10_wordOf_359 (by decide) ?_
      refine lv_iconst (v := 0) hx hb dX10_wordOf_360 (by decide) ?_
      refine tk_lr (va_runS (As := [.int 99, .int 97, .int 114, .int 114, .int 121, .int 0, .int 0]) (rest := []) ⟨hx, hb, hml, hown, hts⟩ (c_X10_spelt__73 l D cy z s.heap.size Ps w0 hw.1 99 97 114 114 121 0 0 rl_99 rl_97 rl_114 rl_114 rl_121 rl_0 rl_0) (va_cwS 7 hts (gS tw_1325 tw_1326 tw_15 tw_1327) rfl rfl rfl (by decide +kernel) ⟨Nat.le_of_ble_eq_true rfl, Nat.le_of_ble_eq_true rfl⟩) (tg_preS hw hK hSD hA) rfl rfl hl.1 rfl (lv_room (Nat.le_of_ble_eq_true rfl)) dX10_wordOf_361 ⟨Nat.le_of_ble_eq_true rfl, Nat.le_of_ble_eq_true rfl⟩) hw hA (fun v_1  H locs hp_v_1 hw => ?_)
      obtain ⟨hfn, hp_v_1⟩ := hp_v_1
      have q_v_1 : (f_X10_spelt__39 (99 : Int32) (97 : Int32) (114 : Int32) (114 : Int32) (121 : Int32) (0 : Int32) (0 : Int32)) = v_1 := hfn.1
      have r_v_1 : RJ v_1 1627639 1627639 := hp_v_1
      simp only [f_X10_wordOf__12, ↓reduceIte, q_v_1] at hE
      subst hQ
      exact W.lret (v := v_1) hx hb hr (fun t ht hW => ⟨⟨v_1, (), rfl, ⟨⟨(by rw [hR, ← hE]), trivial⟩, r_v_1.to (by decide)⟩, by rw [ht]; exact hw.2.1, va_K.moved hW.alike hK, hw.2.2.1⟩, hw.2.2.2.1.F ht⟩) hw.2.2.2.1.2.2 dX10_wordOf_364
    · exact absurd h_1 (by unfold RI at w_1; omega)
    · exact absurd h_1 (by unfold RI at w_1; omega)
    · exact absurd h_1 (by unfold RI at w_1; omega)
    · exact absurd h_1 (by unfold RI at w_1; omega)
    · exact absurd h_1 (by unfold RI at w_1; omega)
    · exact absurd h_1 (by unfold RI at w_1; omega)
    · exact absurd h_1 (by unfold RI at w_1; omega)
    · exact absurd h_1 (by unfold RI at w_1; omega)
    · exact absurd h_1 (by unfold RI at w_1; omega)
    · exact absurd h_1 (by unfold RI at w_1; omega)
    · exact absurd h_1 (by unfold RI at w_1; omega)
    · exact absurd h_1 (by unfold RI at w_1; omega)
abbrev wr_X10_isWord__7 : List (Nat × Nat) := []
abbrev wa_X10_isWord__7 : List Nat := []
set_option maxHeartbeats 4000000 in
set_option maxRecDepth 100000 in
theorem c_X10_isWord__7 (l : Launch) (D : va_G) (cy : Nat → ClassId) (z : Nat → Nat) (sz : Nat) (Ps : PSI) (w0 : va_W) (hT : HT cy GG Ps w0) (p0 : Nat) (p1 : Int32) (s0 : OS) (h_p0 : (p0, 55) ∈ Ps) (r_p1 : RI p1 14 14) (o_p0 : OV vw_M5 Ps w0 p0 s0) : Met l yX10_isWord (Cond.code yX10_isWord cX10_isWord 2 (some .boolean) :: gT) ({ frames := 3, cells := 0, slots := 0, locals := 600 } : Room) (va_Pc [.ref p0, .int p1] (PRE D cy z w0 sz)) (va_Qi (fun (r : Int32) (u : Unit) => ((f_X10_isWord__7 p1 s0) = r ∧ True) ∧ (RI r 0 1 ∧ (r = 0 → True) ∧ (¬ r = 0 → WRD w0 p0 1627639 ∧ True))) (BB D cy (va_A w0 sz) (fun (u : Unit) => w0)) (va_A w0 sz)) 0 0 (va_A w0 sz) := by
  refine Met.ofW (cc := cX10_isWord) (maxL := 2) (ret := (some .boolean)) (by decide) rfl ?_
  intro p e s m args below meth c s₁ B hml hv
  obtain ⟨rfl, hsz, hP, hK, hD0, hSD⟩ := hv
  have hx := B.exec
  have hb := B.bytes
  have hr := B.returns
  have hlocks := B.notSynchronized
  have hts : ∀ w ∈ gT, w.before _ s = true := fun w h => atoms_spec (ws := Cond.code yX10_isWord cX10_isWord 2 (some .boolean) :: gT) B.pre w (List.mem_cons_of_mem _ h)
  have hown : s.vm.findClass RX10 = some m.cls := findClass_of_methodNamed B.named
  subst hsz
  have hD := hD0.self (sz := s.heap.size)
  generalize hAe : va_A w0 s.heap.size = A at hD hSD ⊢
  have hA : ∀ q : Nat, s.heap.size ≤ q → A q := fun q h => by rw [← hAe]; exact Or.inr h
  have hl := lv_entry ([.ref p0, .int p1]) (n := 2) (Nat.le_of_ble_eq_true rfl)
  rw [lg_entry_eq]
  generalize (lg_sl ([.ref p0, .int p1]) ++ List.replicate (2 - (lg_sl ([.ref p0, .int p1])).length) Slot.unset).toArray = ls at hl ⊢
  have hl : lv_has ls 2 [(0, .ref p0), (1, .int p1)] := hl
  refine nameQ (fun Q hQ => ?_)
  have hw : WD D cy GG A s wr_X10_isWord__7 wa_X10_isWord__7 Ps w0 Ps w0 s.heap [] := ⟨hT, hP, hD, va_S.rf, FR.rf, hT.1, [], (List.append_nil _).symm⟩
  obtain ⟨R9, hR⟩ : ∃ q9 : Int32, f_X10_isWord__7 p1 s0 = q9 := ⟨_, rfl⟩
  have hE := hR
  refine lv_aload_n hx hb dX10_isWord_0 rfl (lv_at hl 0 rfl) ?_
  refine tg_get (ci := 10) (ts := ty_MODEL) (C := RX10) (T := TX10) (N := 49) hx hb hts inX10 hown hK hw h_p0 rfl rfl 7 (by decide) (hts _ tw_1144) (fun _ h9 => h9) (ft := vI (-2147483648) 2147483647) rfl dX10_isWord_1 (fun u_1 hv_u_1 m_u_1 => ?_)
  obtain ⟨vu_1, rfl, r_vu_1⟩ := hv_u_1
  have q_vu_1 : s0.1 7 = vu_1 := OV.eqI (V := vw_M5) hw.2.2.1 o_p0 m_u_1 (by decide)
  refine lv_iconst (v := 2) hx hb dX10_isWord_4 (by decide) ?_
  refine lv_icmp_ne (tgt := 24) hx hb dX10_isWord_5 (by decide) (fun c_5 => ?_) (fun c_5 => ?_)
  · refine lv_iconst (v := 0) hx hb dX10_isWord_24 (by decide) ?_
    simp only [f_X10_isWord__7, ↓reduceIte, q_vu_1, eq_false c_5] at hE
    subst hQ
    exact W.zret (v := 0) hx hb hr (rfl) (fun t ht hW => ⟨⟨0, (), rfl, ⟨⟨(by rw [hR, ← hE]), trivial⟩, rl_0.to (by decide), (fun h0 => trivial), (fun h0 => absurd rfl h0)⟩, by rw [ht]; exact hw.2.1, va_K.moved hW.alike hK, hw.2.2.1⟩, hw.2.2.2.1.F ht⟩) hw.2.2.2.1.2.2 dX10_isWord_25
  · have r_vu_1 : RI vu_1 2 2 := rc_eq1 r_vu_1 rl_2 (ti_eq c_5) (by decide)
    refine lv_aload_n hx hb dX10_isWord_8 rfl (lv_at hl 0 rfl) ?_
    refine tg_get (ci := 10) (ts := ty_MODEL) (C := RX10) (T := TX10) (N := 49) hx hb hts inX10 hown hK hw h_p0 rfl rfl 12 (by decide) (hts _ tw_1149) (fun _ h9 => h9) (ft := vJ (-9223372036854775808) 9223372036854775807) rfl dX10_isWord_9 (fun u_2 hv_u_2 m_u_2 => ?_)
    obtain ⟨vu_2, rfl, r_vu_2⟩ := hv_u_2
    have q_vu_2 : s0.2.1 12 = vu_2 := OV.eqL (V := vw_M5) hw.2.2.1 o_p0 m_u_2 (by decide)
    refine lv_iload_n hx hb dX10_isWord_12 rfl (lv_at hl 1 rfl) ?_
    refine tk_lr (va_runS (As := [.int p1]) (rest := [.long vu_2]) ⟨hx, hb, hml, hown, hts⟩ (c_X10_wordOf__12 l D cy z s.heap.size Ps w0 hw.1 p1 r_p1) (va_cwS 1 hts (gS tw_1322 tw_1323 tw_15 tw_1324) rfl rfl rfl (by decide +kernel) ⟨Nat.le_of_ble_eq_true rfl, Nat.le_of_ble_eq_true rfl⟩) (tg_preS hw hK hSD hA) rfl rfl hl.1 rfl (lv_room (Nat.le_of_ble_eq_true rfl)) dX10_isWord_13 ⟨Nat.le_of_ble_eq_true rfl, Nat.le_of_ble_eq_true rfl⟩) hw hA (fun v_3  H locs hp_v_3 hw => ?_)
    obtain ⟨hfn, hp_v_3⟩ := hp_v_3
    have q_v_3 : (f_X10_wordOf__12 p1) = v_3 := hfn.1
    have r_v_3 : RJ v_3 1627639 1627639 := hp_v_3
    refine W.lcmp hx hb dX10_isWord_16 (lv_topi (fun v_4 e_v_4 => ?_))
    have r_v_4 := ri_any v_4
    have q_v_4 : lg_cmp vu_2 v_3 = v_4 := e_v_4.symm
    refine lv_if_ne (tgt := 24) hx hb dX10_isWord_17 (by decide) (fun c_17 => ?_) (fun c_17 => ?_)
    · refine lv_iconst (v := 0) hx hb dX10_isWord_24 (by decide) ?_
      simp only [f_X10_isWord__7, ↓reduceIte, q_vu_1, eq_true c_5, q_vu_2, q_v_3, q_v_4, eq_false c_17] at hE
      subst hQ
      exact W.zret (v := 0) hx hb hr (rfl) (fun t ht hW => ⟨⟨0, (), rfl, ⟨⟨(by rw [hR, ← hE]), trivial⟩, rl_0.to (by decide), (fun h0 => trivial), (fun h0 => absurd rfl h0)⟩, by rw [ht]; exact hw.2.1, va_K.moved hW.alike hK, hw.2.2.1⟩, hw.2.2.2.1.F ht⟩) hw.2.2.2.1.2.2 dX10_isWord_25
    · have r_v_4 : RI v_4 0 0 := rc_eq1 r_v_4 rl_0 (ti_eq c_17) (by decide)
      have x_WRD_p0_1627639 : WRD w0 p0 1627639 := ⟨_, m_u_2, by have k1 := lcmp_eq e_v_4 c_17; have k2 := r_v_3.1; have k3 := r_v_3.2; rw [k1]; omega⟩
      refine lv_iconst (v := 1) hx hb dX10_isWord_20 (by decide) ?_
      refine lv_goto (tgt := 25) hx hb dX10_isWord_21 (by decide) ?_
      simp only [f_X10_isWord__7, ↓reduceIte, q_vu_1, eq_true c_5, q_vu_2, q_v_3, q_v_4, eq_true c_17] at hE
      subst hQ
      exact W.zret (v := 1) hx hb hr (rfl) (fun t ht hW => ⟨⟨1, (), rfl, ⟨⟨(by rw [hR, ← hE]), trivial⟩, rl_1.to (by decide), (fun _ => trivial), (fun h0 => ⟨x_WRD_p0_1627639, trivial⟩)⟩, by rw [ht]; exact hw.2.1, va_K.moved hW.alike hK, hw.2.2.1⟩, hw.2.2.2.1.F ht⟩) hw.2.2.2.1.2.2 dX10_isWord_25
abbrev wr_X10_wordOf__13 : List (Nat × Nat) := []
abbrev wa_X10_wordOf__13 : List Nat := []
set_option maxHeartbeats 4000000 in
set_option maxRecDepth 100000 in
theorem c_X10_wordOf__13 (l : Launch) (D : va_G) (cy : Nat → ClassId) (z : Nat → Nat) (sz : Nat) (Ps : PSI) (w0 : va_W) (hT : HT cy GG Ps w0) (p0 : Int32) (r_p0 : RI p0 15 15) : Met l yX10_wordOf (Cond.code yX10_wordOf cX10_wordOf 1 (some .long) :: gT) ({ frames := 2, cells := 0, slots := 0, locals := 400 } : Room) (va_Pc [.int p0] (PRE D cy z w0 sz)) (va_Ql (fun (r : Int64) (u : Unit) => ((f_X10_wordOf__13 p0) = r ∧ True) ∧ (RJ r 2968 2968)) (BB D cy (va_A w0 sz) (fun (u : Unit) => w0)) (va_A w0 sz)) 0 0 (va_A w0 sz) := by
  refine Met.ofW (cc := cX10_wordOf) (maxL := 1) (ret := (some .long)) (by decide) rfl ?_
  intro p e s m args below meth c s₁ B hml hv
  obtain ⟨rfl, hsz, hP, hK, hD0, hSD⟩ := hv
  have hx := B.exec
  have hb := B.bytes
  have hr := B.returns
  have hlocks := B.notSynchronized
  have hts : ∀ w ∈ gT, w.before _ s = true := fun w h => atoms_spec (ws := Cond.code yX10_wordOf cX10_wordOf 1 (some .long) :: gT) B.pre w (List.mem_cons_of_mem _ h)
  have hown : s.vm.findClass RX10 = some m.cls := findClass_of_methodNamed B.named
  subst hsz
  have hD := hD0.self (sz := s.heap.size)
  generalize hAe : va_A w0 s.heap.size = A at hD hSD ⊢
  have hA : ∀ q : Nat, s.heap.size ≤ q → A q := fun q h => by rw [← hAe]; exact Or.inr h
  have hl := lv_entry ([.int p0]) (n := 1) (Nat.le_of_ble_eq_true rfl)
  rw [lg_entry_eq]
  generalize (lg_sl ([.int p0]) ++ List.replicate (1 - (lg_sl ([.int p0])).length) Slot.unset).toArray = ls at hl ⊢
  have hl : lv_has ls 1 [(0, .int p0)] := hl
  refine nameQ (fun Q hQ => ?_)
  have hw : WD D cy GG A s wr_X10_wordOf__13 wa_X10_wordOf__13 Ps w0 Ps w0 s.heap [] := ⟨hT, hP, hD, va_S.rf, FR.rf, hT.1, [], (List.append_nil _).symm⟩
  obtain ⟨R9, hR⟩ : ∃ q9 : Int64, f_X10_wordOf__13 p0 = q9 := ⟨_, rfl⟩
  have hE := hR
  refine lv_iload_n hx hb dX10_wordOf_0 rfl (lv_at hl 0 rfl) ?_
  have w_1 := r_p0
  by_cases cl_1 : p0.toInt < 0 ∨ 26 < p0.toInt
  · refine lv_tableOut (tgt := 547) hx hb dX10_wordOf_1 cl_1 (by decide) ?_
    exact absurd cl_1 (by unfold RI at w_1; omega)
  · have e_1 : p0.toInt = 0 ∨ p0.toInt = 1 ∨ p0.toInt = 2 ∨ p0.toInt = 3 ∨ p0.toInt = 4 ∨ p0.toInt = 5 ∨ p0.toInt = 6 ∨ p0.toInt = 7 ∨ p0.toInt = 8 ∨ p0.toInt = 9 ∨ p0.toInt = 10 ∨ p0.toInt = 11 ∨ p0.toInt = 12 ∨ p0.toInt = 13 ∨ p0.toInt = 14 ∨ p0.toInt = 15 ∨ p0.toInt = 16 ∨ p0.toInt = 17 ∨ p0.toInt = 18 ∨ p0.toInt = 19 ∨ p0.toInt = 20 ∨ p0.toInt = 21 ∨ p0.toInt = 22 ∨ p0.toInt = 23 ∨ p0.toInt = 24 ∨ p0.toInt = 25 ∨ p0.toInt = 26 := by omega
    rcases e_1 with h_1 | h_1 | h_1 | h_1 | h_1 | h_1 | h_1 | h_1 | h_1 | h_1 | h_1 | h_1 | h_1 | h_1 | h_1 | h_1 | h_1 | h_1 | h_1 | h_1 | h_1 | h_1 | h_1 | h_1 | h_1 | h_1 | h_1
    · exact absurd h_1 (by unfold RI at w_1; omega)
    · exact absurd h_1 (by unfold RI at w_1; omega)
    · exact absurd h_1 (by unfold RI at w_1; omega)
    · exact absurd h_1 (by unfold RI at w_1; omega)
    · exact absurd h_1 (by unfold RI at w_1; omega)
    · exact absurd h_1 (by unfold RI at w_1; omega)
    · exact absurd h_1 (by unfold RI at w_1; omega)
    · exact absurd h_1 (by unfold RI at w_1; omega)
    · exact absurd h_1 (by unfold RI at w_1; omega)
    · exact absurd h_1 (by unfold RI at w_1; omega)
    · exact absurd h_1 (by unfold RI at w_1; omega)
    · exact absurd h_1 (by unfold RI at w_1; omega)
    · exact absurd h_1 (by unfold RI at w_1; omega)
    · exact absurd h_1 (by unfold RI at w_1; omega)
    · exact absurd h_1 (by unfold RI at w_1; omega)
    · refine lv_tableIn (tgt := 365) (off := 364) hx hb dX10_wordOf_1 (by omega) (by omega) (by rw [h_1]; rfl) (by decide) ?_
      have r_p0 : RI p0 15 15 := ⟨by omega, by omega⟩
      refine lv_bipush (v := 100) hx hb dX10_wordOf_365 (by decide) ?_
      refine lv_bipush (v := 97) hx hb dX10_wordOf_367 (by decide) ?_
      refine lv_bipush (v := 121) hx hb dX10_wordOf_369 (by decide) ?_
      refine lv_iconst (v := 0) hx hb dX10_wordOf_371 (by decide) ?_
      refine lv_iconst (v := 0) hx hb dX10_wordOf_372 (by decide) ?_
      refine lv_iconst (v := 0) hx hb dX10_wordOf_373 (by decide) ?_
      refine lv_iconst (v := 0) hx hb dX10_wordOf_374 (by decide) ?_
      refine tk_lr (va_runS (As := [.int 100, .int 97, .int 121, .int 0, .int 0, .int 0, .int 0]) (rest := []) ⟨hx, hb, hml, hown, hts⟩ (c_X10_spelt__74 l D cy z s.heap.size Ps w0 hw.1 100 97 121 0 0 0 0 rl_100 rl_97 rl_121 rl_0 rl_0 rl_0 rl_0) (va_cwS 7 hts (gS tw_1325 tw_1326 tw_15 tw_1327) rfl rfl rfl (by decide +kernel) ⟨Nat.le_of_ble_eq_true rfl, Nat.le_of_ble_eq_true rfl⟩) (tg_preS hw hK hSD hA) rfl rfl hl.1 rfl (lv_room (Nat.le_of_ble_eq_true rfl)) dX10_wordOf_375 ⟨Nat.le_of_ble_eq_true rfl, Nat.le_of_ble_eq_true rfl⟩) hw hA (fun v_1  H locs hp_v_1 hw => ?_)
      obtain ⟨hfn, hp_v_1⟩ := hp_v_1
      have q_v_1 : (f_X10_spelt__36 (100 : Int32) (97 : Int32) (121 : Int32) (0 : Int32) (0 : Int32) (0 : Int32) (0 : Int32)) = v_1 := hfn.1
      have r_v_1 : RJ v_1 2968 2968 := hp_v_1
      simp only [f_X10_wordOf__13, ↓reduceIte, q_v_1] at hE
      subst hQ
      exact W.lret (v := v_1) hx hb hr (fun t ht hW => ⟨⟨v_1, (), rfl, ⟨⟨(by rw [hR, ← hE]), trivial⟩, r_v_1.to (by decide)⟩, by rw [ht]; exact hw.2.1, va_K.moved hW.alike hK, hw.2.2.1⟩, hw.2.2.2.1.F ht⟩) hw.2.2.2.1.2.2 dX10_wordOf_378
    · exact absurd h_1 (by unfold RI at w_1; omega)
    · exact absurd h_1 (by unfold RI at w_1; omega)
    · exact absurd h_1 (by unfold RI at w_1; omega)
    · exact absurd h_1 (by unfold RI at w_1; omega)
    · exact absurd h_1 (by unfold RI at w_1; omega)
    · exact absurd h_1 (by unfold RI at w_1; omega)
    · exact absurd h_1 (by unfold RI at w_1; omega)
    · exact absurd h_1 (by unfold RI at w_1; omega)
    · exact absurd h_1 (by unfold RI at w_1; omega)
    · exact absurd h_1 (by unfold RI at w_1; omega)
    · exact absurd h_1 (by unfold RI at w_1; omega)
abbrev wr_X10_isWord__8 : List (Nat × Nat) := []
abbrev wa_X10_isWord__8 : List Nat := []
set_option maxHeartbeats 4000000 in
set_option maxRecDepth 100000 in
theorem c_X10_isWord__8 (l : Launch) (D : va_G) (cy : Nat → ClassId) (z : Nat → Nat) (sz : Nat) (Ps : PSI) (w0 : va_W) (hT : HT cy GG Ps w0) (p0 : Nat) (p1 : Int32) (s0 : OS) (h_p0 : (p0, 55) ∈ Ps) (r_p1 : RI p1 15 15) (o_p0 : OV vw_M5 Ps w0 p0 s0) : Met l yX10_isWord (Cond.code yX10_isWord cX10_isWord 2 (some .boolean) :: gT) ({ frames := 3, cells := 0, slots := 0, locals := 600 } : Room) (va_Pc [.ref p0, .int p1] (PRE D cy z w0 sz)) (va_Qi (fun (r : Int32) (u : Unit) => ((f_X10_isWord__8 p1 s0) = r ∧ True) ∧ (RI r 0 1 ∧ (r = 0 → True) ∧ (¬ r = 0 → WRD w0 p0 2968 ∧ True))) (BB D cy (va_A w0 sz) (fun (u : Unit) => w0)) (va_A w0 sz)) 0 0 (va_A w0 sz) := by
  refine Met.ofW (cc := cX10_isWord) (maxL := 2) (ret := (some .boolean)) (by decide) rfl ?_
  intro p e s m args below meth c s₁ B hml hv
  obtain ⟨rfl, hsz, hP, hK, hD0, hSD⟩ := hv
  have hx := B.exec
  have hb := B.bytes
  have hr := B.returns
  have hlocks := B.notSynchronized
  have hts : ∀ w ∈ gT, w.before _ s = true := fun w h => atoms_spec (ws := Cond.code yX10_isWord cX10_isWord 2 (some .boolean) :: gT) B.pre w (List.mem_cons_of_mem _ h)
  have hown : s.vm.findClass RX10 = some m.cls := findClass_of_methodNamed B.named
  subst hsz
  have hD := hD0.self (sz := s.heap.size)
  generalize hAe : va_A w0 s.heap.size = A at hD hSD ⊢
  have hA : ∀ q : Nat, s.heap.size ≤ q → A q := fun q h => by rw [← hAe]; exact Or.inr h
  have hl := lv_entry ([.ref p0, .int p1]) (n := 2) (Nat.le_of_ble_eq_true rfl)
  rw [lg_entry_eq]
  generalize (lg_sl ([.ref p0, .int p1]) ++ List.replicate (2 - (lg_sl ([.ref p0, .int p1])).length) Slot.unset).toArray = ls at hl ⊢
  have hl : lv_has ls 2 [(0, .ref p0), (1, .int p1)] := hl
  refine nameQ (fun Q hQ => ?_)
  have hw : WD D cy GG A s wr_X10_isWord__8 wa_X10_isWord__8 Ps w0 Ps w0 s.heap [] := ⟨hT, hP, hD, va_S.rf, FR.rf, hT.1, [], (List.append_nil _).symm⟩
  obtain ⟨R9, hR⟩ : ∃ q9 : Int32, f_X10_isWord__8 p1 s0 = q9 := ⟨_, rfl⟩
  have hE := hR
  refine lv_aload_n hx hb dX10_isWord_0 rfl (lv_at hl 0 rfl) ?_
  refine tg_get (ci := 10) (ts := ty_MODEL) (C := RX10) (T := TX10) (N := 49) hx hb hts inX10 hown hK hw h_p0 rfl rfl 7 (by decide) (hts _ tw_1144) (fun _ h9 => h9) (ft := vI (-2147483648) 2147483647) rfl dX10_isWord_1 (fun u_1 hv_u_1 m_u_1 => ?_)
  obtain ⟨vu_1, rfl, r_vu_1⟩ := hv_u_1
  have q_vu_1 : s0.1 7 = vu_1 := OV.eqI (V := vw_M5) hw.2.2.1 o_p0 m_u_1 (by decide)
  refine lv_iconst (v := 2) hx hb dX10_isWord_4 (by decide) ?_
  refine lv_icmp_ne (tgt := 24) hx hb dX10_isWord_5 (by decide) (fun c_5 => ?_) (fun c_5 => ?_)
  · refine lv_iconst (v := 0) hx hb dX10_isWord_24 (by decide) ?_
    simp only [f_X10_isWord__8, ↓reduceIte, q_vu_1, eq_false c_5] at hE
    subst hQ
    exact W.zret (v := 0) hx hb hr (rfl) (fun t ht hW => ⟨⟨0, (), rfl, ⟨⟨(by rw [hR, ← hE]), trivial⟩, rl_0.to (by decide), (fun h0 => trivial), (fun h0 => absurd rfl h0)⟩, by rw [ht]; exact hw.2.1, va_K.moved hW.alike hK, hw.2.2.1⟩, hw.2.2.2.1.F ht⟩) hw.2.2.2.1.2.2 dX10_isWord_25
  · have r_vu_1 : RI vu_1 2 2 := rc_eq1 r_vu_1 rl_2 (ti_eq c_5) (by decide)
    refine lv_aload_n hx hb dX10_isWord_8 rfl (lv_at hl 0 rfl) ?_
    refine tg_get (ci := 10) (ts := ty_MODEL) (C := RX10) (T := TX10) (N := 49) hx hb hts inX10 hown hK hw h_p0 rfl rfl 12 (by decide) (hts _ tw_1149) (fun _ h9 => h9) (ft := vJ (-9223372036854775808) 9223372036854775807) rfl dX10_isWord_9 (fun u_2 hv_u_2 m_u_2 => ?_)
    obtain ⟨vu_2, rfl, r_vu_2⟩ := hv_u_2
    have q_vu_2 : s0.2.1 12 = vu_2 := OV.eqL (V := vw_M5) hw.2.2.1 o_p0 m_u_2 (by decide)
    refine lv_iload_n hx hb dX10_isWord_12 rfl (lv_at hl 1 rfl) ?_
    refine tk_lr (va_runS (As := [.int p1]) (rest := [.long vu_2]) ⟨hx, hb, hml, hown, hts⟩ (c_X10_wordOf__13 l D cy z s.heap.size Ps w0 hw.1 p1 r_p1) (va_cwS 1 hts (gS tw_1322 tw_1323 tw_15 tw_1324) rfl rfl rfl (by decide +kernel) ⟨Nat.le_of_ble_eq_true rfl, Nat.le_of_ble_eq_true rfl⟩) (tg_preS hw hK hSD hA) rfl rfl hl.1 rfl (lv_room (Nat.le_of_ble_eq_true rfl)) dX10_isWord_13 ⟨Nat.le_of_ble_eq_true rfl, Nat.le_of_ble_eq_true rfl⟩) hw hA (fun v_3  H locs hp_v_3 hw => ?_)
    obtain ⟨hfn, hp_v_3⟩ := hp_v_3
    have q_v_3 : (f_X10_wordOf__13 p1) = v_3 := hfn.1
    have r_v_3 : RJ v_3 2968 2968 := hp_v_3
    refine W.lcmp hx hb dX10_isWord_16 (lv_topi (fun v_4 e_v_4 => ?_))
    have r_v_4 := ri_any v_4
    have q_v_4 : lg_cmp vu_2 v_3 = v_4 := e_v_4.symm
    refine lv_if_ne (tgt := 24) hx hb dX10_isWord_17 (by decide) (fun c_17 => ?_) (fun c_17 => ?_)
    · refine lv_iconst (v := 0) hx hb dX10_isWord_24 (by decide) ?_
      simp only [f_X10_isWord__8, ↓reduceIte, q_vu_1, eq_true c_5, q_vu_2, q_v_3, q_v_4, eq_false c_17] at hE
      subst hQ
      exact W.zret (v := 0) hx hb hr (rfl) (fun t ht hW => ⟨⟨0, (), rfl, ⟨⟨(by rw [hR, ← hE]), trivial⟩, rl_0.to (by decide), (fun h0 => trivial), (fun h0 => absurd rfl h0)⟩, by rw [ht]; exact hw.2.1, va_K.moved hW.alike hK, hw.2.2.1⟩, hw.2.2.2.1.F ht⟩) hw.2.2.2.1.2.2 dX10_isWord_25
    · have r_v_4 : RI v_4 0 0 := rc_eq1 r_v_4 rl_0 (ti_eq c_17) (by decide)
      have x_WRD_p0_2968 : WRD w0 p0 2968 := ⟨_, m_u_2, by have k1 := lcmp_eq e_v_4 c_17; have k2 := r_v_3.1; have k3 := r_v_3.2; rw [k1]; omega⟩
      refine lv_iconst (v := 1) hx hb dX10_isWord_20 (by decide) ?_
      refine lv_goto (tgt := 25) hx hb dX10_isWord_21 (by decide) ?_
      simp only [f_X10_isWord__8, ↓reduceIte, q_vu_1, eq_true c_5, q_vu_2, q_v_3, q_v_4, eq_true c_17] at hE
      subst hQ
      exact W.zret (v := 1) hx hb hr (rfl) (fun t ht hW => ⟨⟨1, (), rfl, ⟨⟨(by rw [hR, ← hE]), trivial⟩, rl_1.to (by decide), (fun _ => trivial), (fun h0 => ⟨x_WRD_p0_2968, trivial⟩)⟩, by rw [ht]; exact hw.2.1, va_K.moved hW.alike hK, hw.2.2.1⟩, hw.2.2.2.1.F ht⟩) hw.2.2.2.1.2.2 dX10_isWord_25
