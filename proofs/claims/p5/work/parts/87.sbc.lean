abbrev wr_X10_isName__3 : List (Nat × Nat) := []
abbrev wa_X10_isName__3 : List Nat := []
set_option maxHeartbeats 4000000 in
set_option maxRecDepth 100000 in
theorem c_X10_isName__3 (l : Launch) (D : va_G) (cy : Nat → ClassId) (z : Nat → Nat) (sz : Nat) (Ps : PSI) (w0 : va_W) (hT : HT cy GG Ps w0) (p0 : Nat) (s0 : OS) (h_p0 : (p0, 55) ∈ Ps) (o_p0 : OV vw_M5 Ps w0 p0 s0) : Met l yX10_isName (Cond.code yX10_isName cX10_isName 2 (some .boolean) :: gT) ({ frames := 3, cells := 0, slots := 0, locals := 600 } : Room) (va_Pc [.ref p0] (PRE D cy z w0 sz)) (va_Qi (fun (r : Int32) (u : Unit) => ((f_X10_isName__1 s0) = r ∧ True) ∧ (RI r 0 1 ∧ (r = 0 → True) ∧ (¬ r = 0 → True))) (BB D cy (va_A w0 sz) (fun (u : Unit) => w0)) (va_A w0 sz)) 0 0 (va_A w0 sz) := by
  refine Met.ofW (cc := cX10_isName) (maxL := 2) (ret := (some .boolean)) (by decide) rfl ?_
  intro p e s m args below meth c s₁ B hml hv
  obtain ⟨rfl, hsz, hP, hK, hD0, hSD⟩ := hv
  have hx := B.exec
  have hb := B.bytes
  have hr := B.returns
  have hlocks := B.notSynchronized
  have hts : ∀ w ∈ gT, w.before _ s = true := fun w h => atoms_spec (ws := Cond.code yX10_isName cX10_isName 2 (some .boolean) :: gT) B.pre w (List.mem_cons_of_mem _ h)
  have hown : s.vm.findClass RX10 = some m.cls := findClass_of_methodNamed B.named
  subst hsz
  have hD := hD0.self (sz := s.heap.size)
  generalize hAe : va_A w0 s.heap.size = A at hD hSD ⊢
  have hA : ∀ q : Nat, s.heap.size ≤ q → A q := fun q h => by rw [← hAe]; exact Or.inr h
  have hl := lv_entry ([.ref p0]) (n := 2) (Nat.le_of_ble_eq_true rfl)
  rw [lg_entry_eq]
  generalize (lg_sl ([.ref p0]) ++ List.replicate (2 - (lg_sl ([.ref p0])).length) Slot.unset).toArray = ls at hl ⊢
  have hl : lv_has ls 2 [(0, .ref p0)] := hl
  refine nameQ (fun Q hQ => ?_)
  have hw : WD D cy GG A s wr_X10_isName__3 wa_X10_isName__3 Ps w0 Ps w0 s.heap [] := ⟨hT, hP, hD, va_S.rf, FR.rf, hT.1, [], (List.append_nil _).symm⟩
  obtain ⟨R9, hR⟩ : ∃ q9 : Int32, f_X10_isName__1 s0 = q9 := ⟨_, rfl⟩
  have hE := hR
  have B12 : ∀ (nf : Nat) (x1 : Int32) (z0_7 : Int32) (s0 : OS) (H : Heap) (locs : List Loc) (ls : Array Slot), 28 - x1.toInt < (nf : Int) → RI x1 0 28 → RI z0_7 2 2 → FLD w0 p0 10 7 (.int z0_7) → OV vw_M5 Ps w0 p0 s0 → f_X10_isName__1_12 nf x1 s0 = R9 → WD D cy GG A s wr_X10_isName__3 wa_X10_isName__3 Ps w0 Ps w0 H locs → lv_has ls 2 [(0, .ref p0), (1, .int x1)] → W p l e (headSpec (Cond.code yX10_isName cX10_isName 2 (some .boolean) :: gT) ({ frames := 3, cells := 0, slots := 0, locals := 600 } : Room)).room s m ([.ref p0] : List Value).toArray below meth c H locs 0 0 Q (F0 m 12 ls []) := by
    intro nf12
    induction nf12 with
    | zero =>
      intro x1 z0_7 s0 H locs ls hn12 r_x1 r_z0_7 m_z0_7 o_p0 hE hw hl
      exact absurd hn12 (by have q0 := r_x1.1; have u0 := r_x1.2; omega)
    | succ nf12 ih12 =>
      intro x1 z0_7 s0 H locs ls hn12 r_x1 r_z0_7 m_z0_7 o_p0 hE hw hl
      have q_z0_7 : s0.1 7 = z0_7 := OV.eqI (V := vw_M5) hw.2.2.1 o_p0 m_z0_7 (by decide)
      refine lv_iload_n hx hb dX10_isName_12 rfl (lv_at hl 1 rfl) ?_
      refine lv_bipush (v := 27) hx hb dX10_isName_13 (by decide) ?_
      refine lv_icmp_gt (tgt := 38) hx hb dX10_isName_15 (by decide) (fun c_15 => ?_) (fun c_15 => ?_)
      · have r_x1 : RI x1 28 28 := rc_lt2 rl_27 r_x1 (ti_lt c_15) (by decide)
        refine lv_iconst (v := 1) hx hb dX10_isName_38 (by decide) ?_
        simp only [f_X10_isName__1_12, ↓reduceIte, q_z0_7, eq_true c_15] at hE
        subst hQ
        exact W.zret (v := 1) hx hb hr (rfl) (fun t ht hW => ⟨⟨1, (), rfl, ⟨⟨(by rw [hR, ← hE]), trivial⟩, rl_1.to (by decide), (fun _ => trivial), (fun h0 => trivial)⟩, by rw [ht]; exact hw.2.1, va_K.moved hW.alike hK, hw.2.2.1⟩, hw.2.2.2.1.F ht⟩) hw.2.2.2.1.2.2 dX10_isName_39
      · have r_x1 : RI x1 0 27 := rc_le1 r_x1 rl_27 (ti_nlt c_15) (by decide)
        refine lv_aload_n hx hb dX10_isName_18 rfl (lv_at hl 0 rfl) ?_
        refine tg_get (ci := 10) (ts := ty_MODEL) (C := RX10) (T := TX10) (N := 49) hx hb hts inX10 hown hK hw h_p0 rfl rfl 12 (by decide) (hts _ tw_1149) (fun _ h9 => h9) (ft := vJ (-9223372036854775808) 9223372036854775807) rfl dX10_isName_19 (fun u_1 hv_u_1 m_u_1 => ?_)
        obtain ⟨vu_1, rfl, r_vu_1⟩ := hv_u_1
        have q_vu_1 : s0.2.1 12 = vu_1 := OV.eqL (V := vw_M5) hw.2.2.1 o_p0 m_u_1 (by decide)
        refine lv_iload_n hx hb dX10_isName_22 rfl (lv_at hl 1 rfl) ?_
        refine tk_lr (va_runS (As := [.int x1]) (rest := [.long vu_1]) ⟨hx, hb, hml, hown, hts⟩ (c_X10_wordOf__10 l D cy z H.size Ps w0 hw.1 x1 r_x1) (va_cwS 1 hts (gS tw_1322 tw_1323 tw_15 tw_1324) rfl rfl rfl (by decide +kernel) ⟨Nat.le_of_ble_eq_true rfl, Nat.le_of_ble_eq_true rfl⟩) (tg_preS hw hK hSD hA) rfl rfl hl.1 rfl (lv_room (Nat.le_of_ble_eq_true rfl)) dX10_isName_23 ⟨Nat.le_of_ble_eq_true rfl, Nat.le_of_ble_eq_true rfl⟩) hw hA (fun v_2  H locs hp_v_2 hw => ?_)
        obtain ⟨hfn, hp_v_2⟩ := hp_v_2
        have q_v_2 : (f_X10_wordOf__7 x1) = v_2 := hfn.1
        have r_v_2 : RJ v_2 257 8935713994 := hp_v_2
        refine W.lcmp hx hb dX10_isName_26 (lv_topi (fun v_3 e_v_3 => ?_))
        have r_v_3 := ri_any v_3
        have q_v_3 : lg_cmp vu_1 v_2 = v_3 := e_v_3.symm
        refine lv_if_ne (tgt := 32) hx hb dX10_isName_27 (by decide) (fun c_27 => ?_) (fun c_27 => ?_)
        · obtain ⟨v_4, e_v_4⟩ : ∃ q9 : Int32, q9 = x1 + Int32.ofInt 1 := ⟨_, rfl⟩
          obtain ⟨t_v_4, r_v_4⟩ := tq_add (lo := 1) (hi := 28) r_x1 (show RI (Int32.ofInt 1) 1 1 by unfold RI; decide +kernel) (by decide +kernel) e_v_4
          have t_v_4 : v_4.toInt = x1.toInt + 1 := t_v_4
          refine lv_iinc (v := v_4) (lv' := [(1, .int v_4), (0, .ref p0)]) hx hb dX10_isName_32 hl (k := 1) rfl e_v_4.symm (by decide) rfl (fun ls hl => ?_)
          have q_v_4 : x1 + (1 : Int32) = v_4 := by rw [e_v_4, show Int32.ofInt 1 = (1 : Int32) by decide]
          refine lv_goto (tgt := 12) hx hb dX10_isName_35 (by decide) ?_
          simp only [f_X10_isName__1_12, ↓reduceIte, q_z0_7, eq_false c_15, q_vu_1, q_v_2, q_v_3, eq_false c_27, q_v_4] at hE
          exact ih12 v_4 z0_7 s0 _ _ ls (by have q0 := r_v_4.1; have u0 := r_v_4.2; have o0 := r_x1.1; have p0 := r_x1.2; omega) (r_v_4.to (by decide)) r_z0_7 m_z0_7 o_p0 hE hw (lv_sub hl [1, 0] rfl)
        · have r_v_3 : RI v_3 0 0 := rc_eq1 r_v_3 rl_0 (ti_eq c_27) (by decide)
          refine lv_iconst (v := 0) hx hb dX10_isName_30 (by decide) ?_
          simp only [f_X10_isName__1_12, ↓reduceIte, q_z0_7, eq_false c_15, q_vu_1, q_v_2, q_v_3, eq_true c_27] at hE
          subst hQ
          exact W.zret (v := 0) hx hb hr (rfl) (fun t ht hW => ⟨⟨0, (), rfl, ⟨⟨(by rw [hR, ← hE]), trivial⟩, rl_0.to (by decide), (fun h0 => trivial), (fun _ => trivial)⟩, by rw [ht]; exact hw.2.1, va_K.moved hW.alike hK, hw.2.2.1⟩, hw.2.2.2.1.F ht⟩) hw.2.2.2.1.2.2 dX10_isName_31
  refine lv_aload_n hx hb dX10_isName_0 rfl (lv_at hl 0 rfl) ?_
  refine tg_get (ci := 10) (ts := ty_MODEL) (C := RX10) (T := TX10) (N := 49) hx hb hts inX10 hown hK hw h_p0 rfl rfl 7 (by decide) (hts _ tw_1144) (fun _ h9 => h9) (ft := vI (-2147483648) 2147483647) rfl dX10_isName_1 (fun u_5 hv_u_5 m_u_5 => ?_)
  obtain ⟨vu_5, rfl, r_vu_5⟩ := hv_u_5
  have q_vu_5 : s0.1 7 = vu_5 := OV.eqI (V := vw_M5) hw.2.2.1 o_p0 m_u_5 (by decide)
  refine lv_iconst (v := 2) hx hb dX10_isName_4 (by decide) ?_
  refine lv_icmp_eq (tgt := 10) hx hb dX10_isName_5 (by decide) (fun c_5 => ?_) (fun c_5 => ?_)
  · have r_vu_5 : RI vu_5 2 2 := rc_eq1 r_vu_5 rl_2 (ti_eq c_5) (by decide)
    refine lv_iconst (v := 0) hx hb dX10_isName_10 (by decide) ?_
    refine lv_istore_n (lv' := [(1, .int 0), (0, .ref p0)]) hx hb dX10_isName_11 rfl hl (by decide) rfl (fun ls hl => ?_)
    simp only [f_X10_isName__1, ↓reduceIte, q_vu_5, eq_true c_5] at hE
    exact B12 4294967298 0 vu_5 s0 _ _ ls (by have q0 := rl_0.1; have u0 := rl_0.2; omega) (rl_0.to (by decide)) r_vu_5 m_u_5 o_p0 hE hw (lv_sub hl [1, 0] rfl)
  · refine lv_iconst (v := 0) hx hb dX10_isName_8 (by decide) ?_
    simp only [f_X10_isName__1, ↓reduceIte, q_vu_5, eq_false c_5] at hE
    subst hQ
    exact W.zret (v := 0) hx hb hr (rfl) (fun t ht hW => ⟨⟨0, (), rfl, ⟨⟨(by rw [hR, ← hE]), trivial⟩, rl_0.to (by decide), (fun h0 => trivial), (fun _ => trivial)⟩, by rw [ht]; exact hw.2.1, va_K.moved hW.alike hK, hw.2.2.1⟩, hw.2.2.2.1.F ht⟩) hw.2.2.2.1.2.2 dX10_isName_9
abbrev wr_X10_findIn__15 : List (Nat × Nat) := []
abbrev wa_X10_findIn__15 : List Nat := []
set_option maxHeartbeats 4000000 in
set_option maxRecDepth 100000 in
theorem c_X10_findIn__15 (l : Launch) (D : va_G) (cy : Nat → ClassId) (z : Nat → Nat) (sz : Nat) (Ps : PSI) (w0 : va_W) (hT : HT cy GG Ps w0) (p0 : Nat) (p1 : Int32) (p2 : Int32) (p3 : Int64) (s0 : Nat → Int64) (h_p0 : (p0, 41) ∈ Ps) (r_p1 : RI p1 16 16) (r_p2 : RI p2 0 8) (r_p3 : RJ p3 (-9223372036854775808) 9223372036854775807) (o_p0 : ARL Ps w0 p0 41 s0) : Met l yX10_findIn (Cond.code yX10_findIn cX10_findIn 6 (some .int) :: gT) ({ frames := 0, cells := 0, slots := 0, locals := 200 } : Room) (va_Pc [.ref p0, .int p1, .int p2, .long p3] (PRE D cy z w0 sz)) (va_Qi (fun (r : Int32) (u : Unit) => ((f_X10_findIn__9 p1 p2 p3 s0) = r ∧ True) ∧ (RI r (-1) 7 ∧ (r = 0 → True) ∧ (¬ r = 0 → True) ∧ (True) ∧ (r.toInt < 0 → NFD w0 p0 p1 p2 p3 ∧ True) ∧ (0 ≤ r.toInt → FDD w0 p0 p1 p2 p3 ∧ 1 ≤ Int32.toInt p2 ∧ True))) (BB D cy (va_A w0 sz) (fun (u : Unit) => w0)) (va_A w0 sz)) 0 0 (va_A w0 sz) := by
  refine Met.ofW (cc := cX10_findIn) (maxL := 6) (ret := (some .int)) (by decide) rfl ?_
  intro p e s m args below meth c s₁ B hml hv
  obtain ⟨rfl, hsz, hP, hK, hD0, hSD⟩ := hv
  have hx := B.exec
  have hb := B.bytes
  have hr := B.returns
  have hlocks := B.notSynchronized
  have hts : ∀ w ∈ gT, w.before _ s = true := fun w h => atoms_spec (ws := Cond.code yX10_findIn cX10_findIn 6 (some .int) :: gT) B.pre w (List.mem_cons_of_mem _ h)
  have hown : s.vm.findClass RX10 = some m.cls := findClass_of_methodNamed B.named
  subst hsz
  have hD := hD0.self (sz := s.heap.size)
  generalize hAe : va_A w0 s.heap.size = A at hD hSD ⊢
  have hA : ∀ q : Nat, s.heap.size ≤ q → A q := fun q h => by rw [← hAe]; exact Or.inr h
  have hl := lv_entry ([.ref p0, .int p1, .int p2, .long p3]) (n := 6) (Nat.le_of_ble_eq_true rfl)
  rw [lg_entry_eq]
  generalize (lg_sl ([.ref p0, .int p1, .int p2, .long p3]) ++ List.replicate (6 - (lg_sl ([.ref p0, .int p1, .int p2, .long p3])).length) Slot.unset).toArray = ls at hl ⊢
  have hl : lv_has ls 6 [(0, .ref p0), (1, .int p1), (2, .int p2), (3, .long p3)] := hl
  refine nameQ (fun Q hQ => ?_)
  have hw : WD D cy GG A s wr_X10_findIn__15 wa_X10_findIn__15 Ps w0 Ps w0 s.heap [] := ⟨hT, hP, hD, va_S.rf, FR.rf, hT.1, [], (List.append_nil _).symm⟩
  obtain ⟨R9, hR⟩ : ∃ q9 : Int32, f_X10_findIn__9 p1 p2 p3 s0 = q9 := ⟨_, rfl⟩
  have hE := hR
  have B3 : ∀ (nf : Nat) (x5 : Int32) (s0 : Nat → Int64) (H : Heap) (locs : List Loc) (ls : Array Slot), 8 - x5.toInt < (nf : Int) → RI p1 16 16 → RI p2 0 8 → RJ p3 (-9223372036854775808) 9223372036854775807 → RI x5 0 8 → NFD w0 p0 p1 x5 p3 → ARL Ps w0 p0 41 s0 → f_X10_findIn__9_3 p1 p2 p3 nf x5 s0 = R9 → WD D cy GG A s wr_X10_findIn__15 wa_X10_findIn__15 Ps w0 Ps w0 H locs → lv_has ls 6 [(0, .ref p0), (1, .int p1), (2, .int p2), (3, .long p3), (5, .int x5)] → W p l e (headSpec (Cond.code yX10_findIn cX10_findIn 6 (some .int) :: gT) ({ frames := 0, cells := 0, slots := 0, locals := 200 } : Room)).room s m ([.ref p0, .int p1, .int p2, .long p3] : List Value).toArray below meth c H locs 0 0 Q (F0 m 3 ls []) := by
    intro nf3
    induction nf3 with
    | zero =>
      intro x5 s0 H locs ls hn3 r_p1 r_p2 r_p3 r_x5 x_NF_p0_p1__5_p3 o_p0 hE hw hl
      exact absurd hn3 (by have q0 := r_x5.1; have u0 := r_x5.2; omega)
    | succ nf3 ih3 =>
      intro x5 s0 H locs ls hn3 r_p1 r_p2 r_p3 r_x5 x_NF_p0_p1__5_p3 o_p0 hE hw hl
      refine lv_iload hx hb dX10_findIn_3 (lv_at hl 4 rfl) ?_
      refine lv_iload_n hx hb dX10_findIn_5 rfl (lv_at hl 2 rfl) ?_
      refine lv_icmp_ge (tgt := 29) hx hb dX10_findIn_6 (by decide) (fun c_6 => ?_) (fun c_6 => ?_)
      · have x_NF_p0_p1_p2_p3 : NFD w0 p0 p1 p2 p3 := NFD.mono x_NF_p0_p1__5_p3 c_6
        refine lv_iconst (v := (-1)) hx hb dX10_findIn_29 (by decide) ?_
        simp only [f_X10_findIn__9_3, ↓reduceIte, eq_true c_6] at hE
        subst hQ
        exact W.iret (v := (-1)) hx hb hr (fun t ht hW => ⟨⟨(-1), (), rfl, ⟨⟨(by rw [hR, ← hE]), trivial⟩, rl_m1.to (by decide), (fun _ => trivial), (fun h0 => trivial), trivial, (fun h0 => ⟨x_NF_p0_p1_p2_p3, trivial⟩), (fun h0 => absurd h0 (by have h8 := rl_m1; unfold RI at h8; omega))⟩, by rw [ht]; exact hw.2.1, va_K.moved hW.alike hK, hw.2.2.1⟩, hw.2.2.2.1.F ht⟩) hw.2.2.2.1.2.2 dX10_findIn_30
      · have r_x5 : RI x5 0 7 := rc_lt1 r_x5 r_p2 (ti_nle c_6) (by decide)
        have r_p2 : RI p2 1 8 := rc_lt2 r_x5 r_p2 (ti_nle c_6) (by decide)
        refine lv_aload_n hx hb dX10_findIn_9 rfl (lv_at hl 0 rfl) ?_
        refine lv_iload_n hx hb dX10_findIn_10 rfl (lv_at hl 1 rfl) ?_
        refine lv_iload hx hb dX10_findIn_11 (lv_at hl 4 rfl) ?_
        refine lv_iadd hx hb dX10_findIn_13 (lv_topi (fun v_1 e_v_1 => ?_))
        obtain ⟨t_v_1, r_v_1⟩ := tq_add (lo := 16) (hi := 23) r_p1 r_x5 (by decide +kernel) e_v_1
        have q_v_1 : p1 + x5 = v_1 := e_v_1.symm
        refine tg_laldE hx hb hK hw h_p0 rfl r_v_1 (by decide) dX10_findIn_14 (fun w_2 r_w_2 l_w_2 => ?_)
        have q_w_2 : s0 (Int32.toNatClampNeg v_1) = w_2 := ARL.lel hw.2.2.1 o_p0 l_w_2
        refine lv_lload_n hx hb dX10_findIn_15 rfl (lv_at hl 3 rfl) ?_
        refine W.lcmp hx hb dX10_findIn_16 (lv_topi (fun v_3 e_v_3 => ?_))
        have r_v_3 := ri_any v_3
        have q_v_3 : lg_cmp w_2 p3 = v_3 := e_v_3.symm
        refine lv_if_ne (tgt := 23) hx hb dX10_findIn_17 (by decide) (fun c_17 => ?_) (fun c_17 => ?_)
        · obtain ⟨v_4, e_v_4⟩ : ∃ q9 : Int32, q9 = x5 + Int32.ofInt 1 := ⟨_, rfl⟩
          obtain ⟨t_v_4, r_v_4⟩ := tq_add (lo := 1) (hi := 8) r_x5 (show RI (Int32.ofInt 1) 1 1 by unfold RI; decide +kernel) (by decide +kernel) e_v_4
          have t_v_4 : v_4.toInt = x5.toInt + 1 := t_v_4
          refine lv_iinc (v := v_4) (lv' := [(5, .int v_4), (0, .ref p0), (1, .int p1), (2, .int p2), (3, .long p3)]) hx hb dX10_findIn_23 hl (k := 4) rfl e_v_4.symm (by decide) rfl (fun ls hl => ?_)
          have q_v_4 : x5 + (1 : Int32) = v_4 := by rw [e_v_4, show Int32.ofInt 1 = (1 : Int32) by decide]
          refine lv_goto (tgt := 3) hx hb dX10_findIn_26 (by decide) ?_
          simp only [f_X10_findIn__9_3, ↓reduceIte, eq_false c_6, q_v_1, q_w_2, q_v_3, eq_false c_17, q_v_4] at hE
          have x_NF_p0_p1_v_4_p3 : NFD w0 p0 p1 v_4 p3 := NFD.step hw x_NF_p0_p1__5_p3 l_w_2 (by have k1 := r_v_1.cl (by decide); have k2 := r_p1.cl (by decide); have k3 := r_x5.cl (by decide); omega) (lcmp_ne e_v_3 c_17) t_v_4 r_x5.1
          exact ih3 v_4 s0 _ _ ls (by have q0 := r_v_4.1; have u0 := r_v_4.2; have o0 := r_x5.1; have p0 := r_x5.2; omega) r_p1 (r_p2.to (by decide)) r_p3 (r_v_4.to (by decide)) x_NF_p0_p1_v_4_p3 o_p0 hE hw (lv_sub hl [1, 2, 3, 4, 0] rfl)
        · have r_v_3 : RI v_3 0 0 := rc_eq1 r_v_3 rl_0 (ti_eq c_17) (by decide)
          have x_FD_p0_p1_p2_p3 : FDD w0 p0 p1 p2 p3 := FDD.mk l_w_2 (by have k1 := r_v_1.cl (by decide); have k2 := r_p1.cl (by decide); have k3 := r_x5.cl (by decide); omega) (lcmp_eq e_v_3 c_17) (ti_nle c_6) r_x5.1
          have x_POS_p2 : 1 ≤ Int32.toInt p2 := by have k1 := ti_nle c_6; have k2 := r_x5.1; omega
          refine lv_iload hx hb dX10_findIn_20 (lv_at hl 4 rfl) ?_
          simp only [f_X10_findIn__9_3, ↓reduceIte, eq_false c_6, q_v_1, q_w_2, q_v_3, eq_true c_17] at hE
          subst hQ
          exact W.iret (v := x5) hx hb hr (fun t ht hW => ⟨⟨x5, (), rfl, ⟨⟨(by rw [hR, ← hE]), trivial⟩, r_x5.to (by decide), (fun h0 => trivial), (fun h0 => trivial), trivial, (fun h0 => absurd h0 (by have h8 := r_x5; unfold RI at h8; omega)), (fun h0 => ⟨x_FD_p0_p1_p2_p3, x_POS_p2, trivial⟩)⟩, by rw [ht]; exact hw.2.1, va_K.moved hW.alike hK, hw.2.2.1⟩, hw.2.2.2.1.F ht⟩) hw.2.2.2.1.2.2 dX10_findIn_22
  refine lv_iconst (v := 0) hx hb dX10_findIn_0 (by decide) ?_
  refine lv_istore (lv' := [(5, .int 0), (0, .ref p0), (1, .int p1), (2, .int p2), (3, .long p3)]) hx hb dX10_findIn_1 hl (by decide) rfl (fun ls hl => ?_)
  simp only [f_X10_findIn__9, ↓reduceIte] at hE
  have x_NF_p0_p1_0_p3 : NFD w0 p0 p1 0 p3 := NFD.zero hw h_p0 rfl
  exact B3 4294967298 0 s0 _ _ ls (by have q0 := rl_0.1; have u0 := rl_0.2; omega) r_p1 r_p2 r_p3 (rl_0.to (by decide)) x_NF_p0_p1_0_p3 o_p0 hE hw (lv_sub hl [1, 2, 3, 4, 0] rfl)
abbrev wr_X10_bad__3 : List (Nat × Nat) := [(10, 10), (10, 11)]
abbrev wa_X10_bad__3 : List Nat := []
set_option maxHeartbeats 4000000 in
set_option maxRecDepth 100000 in
theorem c_X10_bad__3 (l : Launch) (D : va_G) (cy : Nat → ClassId) (z : Nat → Nat) (sz : Nat) (Ps : PSI) (w0 : va_W) (hT : HT cy GG Ps w0) (p0 : Nat) (p1 : Int32) (s0 : OS) (h_p0 : (p0, 55) ∈ Ps) (r_p1 : RI p1 (-2147483648) 2147483647) (o_p0 : OV vw_M5 Ps w0 p0 s0) : Met l yX10_bad (Cond.code yX10_bad cX10_bad 2 (some .boolean) :: gT) ({ frames := 0, cells := 0, slots := 0, locals := 200 } : Room) (va_Pc [.ref p0, .int p1] (PRE D cy z w0 sz)) (va_Qi (fun (r : Int32) (u : va_W) => ((OV vw_M5 Ps u p0 ((f_X10_bad__1 p1 s0).1) ∧ (f_X10_bad__1 p1 s0).2 = r ∧ True) ∧ (RI r 0 0 ∧ (r = 0 → True) ∧ (¬ r = 0 → True))) ∧ HT cy GG Ps u ∧ FR wr_X10_bad__3 wa_X10_bad__3 Ps w0 u) (BB D cy (va_A w0 sz) (fun (u : va_W) => u)) (va_A w0 sz)) 0 0 (va_A w0 sz) := by
  refine Met.ofW (cc := cX10_bad) (maxL := 2) (ret := (some .boolean)) (by decide) rfl ?_
  intro p e s m args below meth c s₁ B hml hv
  obtain ⟨rfl, hsz, hP, hK, hD0, hSD⟩ := hv
  have hx := B.exec
  have hb := B.bytes
  have hr := B.returns
  have hlocks := B.notSynchronized
  have hts : ∀ w ∈ gT, w.before _ s = true := fun w h => atoms_spec (ws := Cond.code yX10_bad cX10_bad 2 (some .boolean) :: gT) B.pre w (List.mem_cons_of_mem _ h)
  have hown : s.vm.findClass RX10 = some m.cls := findClass_of_methodNamed B.named
  subst hsz
  have hD := hD0.self (sz := s.heap.size)
  generalize hAe : va_A w0 s.heap.size = A at hD hSD ⊢
  have hA : ∀ q : Nat, s.heap.size ≤ q → A q := fun q h => by rw [← hAe]; exact Or.inr h
  have hl := lv_entry ([.ref p0, .int p1]) (n := 2) (Nat.le_of_ble_eq_true rfl)
  rw [lg_entry_eq]
  generalize (lg_sl ([.ref p0, .int p1]) ++ List.replicate (2 - (lg_sl ([.ref p0, .int p1])).length) Slot.unset).toArray = ls at hl ⊢
  have hl : lv_has ls 2 [(0, .ref p0), (1, .int p1)] := hl
  refine nameQ (fun Q hQ => ?_)
  have hw : WD D cy GG A s wr_X10_bad__3 wa_X10_bad__3 Ps w0 Ps w0 s.heap [] := ⟨hT, hP, hD, va_S.rf, FR.rf, hT.1, [], (List.append_nil _).symm⟩
  obtain ⟨R9, hR⟩ : ∃ q9 : OS × Int32, f_X10_bad__1 p1 s0 = q9 := ⟨_, rfl⟩
  have hE := hR
  have B14 : ∀ (y0 : Int32) (s0 : OS) (ws : va_W) (H : Heap) (locs : List Loc) (ls : Array Slot), RI p1 (-2147483648) 2147483647 → RI y0 (-2147483648) 2147483647 → OV vw_M5 Ps ws p0 s0 → f_X10_bad__1_14 p1 y0 s0 = R9 → WD D cy GG A s wr_X10_bad__3 wa_X10_bad__3 Ps w0 Ps ws H locs → lv_has ls 2 [(0, .ref p0), (1, .int p1)] → W p l e (headSpec (Cond.code yX10_bad cX10_bad 2 (some .boolean) :: gT) ({ frames := 0, cells := 0, slots := 0, locals := 200 } : Room)).room s m ([.ref p0, .int p1] : List Value).toArray below meth c H locs 0 0 Q (F0 m 14 ls [.int y0, .ref p0]) := by
    intro y0 s0 ws H locs ls r_p1 r_y0 o_p0 hE hw hl
    refine tg_put (ci := 10) (ts := ty_MODEL) (v := .int y0) (ty := .int) (C := RX10) (T := TX10) (N := 49) hx hb hts inX10 tyX10 tyX10_ok nmX10 hown hK hw h_p0 rfl rfl 10 (by decide) (hts _ tw_1147) (fun _ h9 => h9) rfl (by decide +kernel) rfl rfl (ft := vI (-2147483648) 2147483647) rfl ⟨_, rfl, r_y0⟩ (by decide) dX10_bad_14 (fun ws H locs hw n_k_1 hF9 => ?_)
    obtain ⟨sg_2, q_sg_2⟩ : ∃ q9 : OS, sI s0 10 y0 = q9 := ⟨_, rfl⟩
    have o_p0 : OV vw_M5 Ps ws p0 sg_2 := by rw [← q_sg_2]; exact OV.putI (V := vw_M5) hF9 n_k_1 o_p0 (by decide)
    refine lv_aload_n hx hb dX10_bad_17 rfl (lv_at hl 0 rfl) ?_
    refine lv_aload_n hx hb dX10_bad_18 rfl (lv_at hl 0 rfl) ?_
    refine tg_get (ci := 10) (ts := ty_MODEL) (C := RX10) (T := TX10) (N := 49) hx hb hts inX10 hown hK hw h_p0 rfl rfl 6 (by decide) (hts _ tw_1143) (fun _ h9 => h9) (ft := vI (-2147483648) 2147483647) rfl dX10_bad_19 (fun u_3 hv_u_3 m_u_3 => ?_)
    obtain ⟨vu_3, rfl, r_vu_3⟩ := hv_u_3
    have q_vu_3 : sg_2.1 6 = vu_3 := OV.eqI (V := vw_M5) hw.2.2.1 o_p0 m_u_3 (by decide)
    refine tg_put (ci := 10) (ts := ty_MODEL) (v := .int vu_3) (ty := .int) (C := RX10) (T := TX10) (N := 49) hx hb hts inX10 tyX10 tyX10_ok nmX10 hown hK hw h_p0 rfl rfl 11 (by decide) (hts _ tw_1148) (fun _ h9 => h9) rfl (by decide +kernel) rfl rfl (ft := vI (-2147483648) 2147483647) rfl ⟨_, rfl, r_vu_3⟩ (by decide) dX10_bad_22 (fun ws H locs hw n_k_4 hF9 => ?_)
    have n_k_1 := FLD.over hF9 n_k_1 (by decide)
    have m_u_3 := FLD.over hF9 m_u_3 (by decide)
    obtain ⟨sg_5, q_sg_5⟩ : ∃ q9 : OS, sI sg_2 11 vu_3 = q9 := ⟨_, rfl⟩
    have o_p0 : OV vw_M5 Ps ws p0 sg_5 := by rw [← q_sg_5]; exact OV.putI (V := vw_M5) hF9 n_k_4 o_p0 (by decide)
    refine lv_iconst (v := 0) hx hb dX10_bad_25 (by decide) ?_
    simp only [f_X10_bad__1_14, ↓reduceIte, q_sg_2, q_vu_3, q_sg_5] at hE
    subst hQ
    exact W.zret (v := 0) hx hb hr (rfl) (fun t ht hW => ⟨⟨0, ws, rfl, ⟨⟨⟨(by rw [hR, ← hE]; exact o_p0), (by rw [hR, ← hE]), trivial⟩, rl_0.to (by decide), (fun h0 => trivial), (fun _ => trivial)⟩, hw.1, hw.2.2.2.2.1⟩, by rw [ht]; exact hw.2.1, va_K.moved hW.alike hK, hw.2.2.1⟩, hw.2.2.2.1.F ht⟩) hw.2.2.2.1.2.2 dX10_bad_26
  refine lv_aload_n hx hb dX10_bad_0 rfl (lv_at hl 0 rfl) ?_
  refine lv_aload_n hx hb dX10_bad_1 rfl (lv_at hl 0 rfl) ?_
  refine tg_get (ci := 10) (ts := ty_MODEL) (C := RX10) (T := TX10) (N := 49) hx hb hts inX10 hown hK hw h_p0 rfl rfl 7 (by decide) (hts _ tw_1144) (fun _ h9 => h9) (ft := vI (-2147483648) 2147483647) rfl dX10_bad_2 (fun u_6 hv_u_6 m_u_6 => ?_)
  obtain ⟨vu_6, rfl, r_vu_6⟩ := hv_u_6
  have q_vu_6 : s0.1 7 = vu_6 := OV.eqI (V := vw_M5) hw.2.2.1 o_p0 m_u_6 (by decide)
  refine lv_iconst (v := 1) hx hb dX10_bad_5 (by decide) ?_
  refine lv_icmp_ne (tgt := 13) hx hb dX10_bad_6 (by decide) (fun c_6 => ?_) (fun c_6 => ?_)
  · refine lv_iload_n hx hb dX10_bad_13 rfl (lv_at hl 1 rfl) ?_
    simp only [f_X10_bad__1, ↓reduceIte, q_vu_6, eq_false c_6] at hE
    exact B14 p1 s0 w0 _ _ ls r_p1 r_p1 o_p0 hE hw hl
  · have r_vu_6 : RI vu_6 1 1 := rc_eq1 r_vu_6 rl_1 (ti_eq c_6) (by decide)
    refine lv_iconst (v := 1) hx hb dX10_bad_9 (by decide) ?_
    refine lv_goto (tgt := 14) hx hb dX10_bad_10 (by decide) ?_
    simp only [f_X10_bad__1, ↓reduceIte, q_vu_6, eq_true c_6] at hE
    exact B14 1 s0 w0 _ _ ls r_p1 (rl_1.to (by decide)) o_p0 hE hw hl
abbrev wr_X10_findIn__16 : List (Nat × Nat) := []
abbrev wa_X10_findIn__16 : List Nat := []
set_option maxHeartbeats 4000000 in
set_option maxRecDepth 100000 in
theorem c_X10_findIn__16 (l : Launch) (D : va_G) (cy : Nat → ClassId) (z : Nat → Nat) (sz : Nat) (Ps : PSI) (w0 : va_W) (hT : HT cy GG Ps w0) (p0 : Nat) (p1 : Int32) (p2 : Int32) (p3 : Int64) (s0 : Nat → Int64) (h_p0 : (p0, 41) ∈ Ps) (r_p1 : RI p1 16 16) (r_p2 : RI p2 1 8) (r_p3 : RJ p3 (-9223372036854775808) 9223372036854775807) (o_p0 : ARL Ps w0 p0 41 s0) : Met l yX10_findIn (Cond.code yX10_findIn cX10_findIn 6 (some .int) :: gT) ({ frames := 0, cells := 0, slots := 0, locals := 200 } : Room) (va_Pc [.ref p0, .int p1, .int p2, .long p3] (PRE D cy z w0 sz)) (va_Qi (fun (r : Int32) (u : Unit) => ((f_X10_findIn__9 p1 p2 p3 s0) = r ∧ True) ∧ (RI r (-1) 7 ∧ (r = 0 → True) ∧ (¬ r = 0 → True) ∧ (True) ∧ (r.toInt < 0 → NFD w0 p0 p1 p2 p3 ∧ True) ∧ (0 ≤ r.toInt → FDD w0 p0 p1 p2 p3 ∧ 1 ≤ Int32.toInt p2 ∧ True))) (BB D cy (va_A w0 sz) (fun (u : Unit) => w0)) (va_A w0 sz)) 0 0 (va_A w0 sz) := by
  refine Met.ofW (cc := cX10_findIn) (maxL := 6) (ret := (some .int)) (by decide) rfl ?_
  intro p e s m args below meth c s₁ B hml hv
  obtain ⟨rfl, hsz, hP, hK, hD0, hSD⟩ := hv
  have hx := B.exec
  have hb := B.bytes
  have hr := B.returns
  have hlocks := B.notSynchronized
  have hts : ∀ w ∈ gT, w.before _ s = true := fun w h => atoms_spec (ws := Cond.code yX10_findIn cX10_findIn 6 (some .int) :: gT) B.pre w (List.mem_cons_of_mem _ h)
  have hown : s.vm.findClass RX10 = some m.cls := findClass_of_methodNamed B.named
  subst hsz
  have hD := hD0.self (sz := s.heap.size)
  generalize hAe : va_A w0 s.heap.size = A at hD hSD ⊢
  have hA : ∀ q : Nat, s.heap.size ≤ q → A q := fun q h => by rw [← hAe]; exact Or.inr h
  have hl := lv_entry ([.ref p0, .int p1, .int p2, .long p3]) (n := 6) (Nat.le_of_ble_eq_true rfl)
  rw [lg_entry_eq]
  generalize (lg_sl ([.ref p0, .int p1, .int p2, .long p3]) ++ List.replicate (6 - (lg_sl ([.ref p0, .int p1, .int p2, .long p3])).length) Slot.unset).toArray = ls at hl ⊢
  have hl : lv_has ls 6 [(0, .ref p0), (1, .int p1), (2, .int p2), (3, .long p3)] := hl
  refine nameQ (fun Q hQ => ?_)
  have hw : WD D cy GG A s wr_X10_findIn__16 wa_X10_findIn__16 Ps w0 Ps w0 s.heap [] := ⟨hT, hP, hD, va_S.rf, FR.rf, hT.1, [], (List.append_nil _).symm⟩
  obtain ⟨R9, hR⟩ : ∃ q9 : Int32, f_X10_findIn__9 p1 p2 p3 s0 = q9 := ⟨_, rfl⟩
  have hE := hR
  have B3 : ∀ (nf : Nat) (x5 : Int32) (s0 : Nat → Int64) (H : Heap) (locs : List Loc) (ls : Array Slot), 8 - x5.toInt < (nf : Int) → RI p1 16 16 → RI p2 1 8 → RJ p3 (-9223372036854775808) 9223372036854775807 → RI x5 0 8 → NFD w0 p0 p1 x5 p3 → ARL Ps w0 p0 41 s0 → f_X10_findIn__9_3 p1 p2 p3 nf x5 s0 = R9 → WD D cy GG A s wr_X10_findIn__16 wa_X10_findIn__16 Ps w0 Ps w0 H locs → lv_has ls 6 [(0, .ref p0), (1, .int p1), (2, .int p2), (3, .long p3), (5, .int x5)] → W p l e (headSpec (Cond.code yX10_findIn cX10_findIn 6 (some .int) :: gT) ({ frames := 0, cells := 0, slots := 0, locals := 200 } : Room)).room s m ([.ref p0, .int p1, .int p2, .long p3] : List Value).toArray below meth c H locs 0 0 Q (F0 m 3 ls []) := by
    intro nf3
    induction nf3 with
    | zero =>
      intro x5 s0 H locs ls hn3 r_p1 r_p2 r_p3 r_x5 x_NF_p0_p1__5_p3 o_p0 hE hw hl
      exact absurd hn3 (by have q0 := r_x5.1; have u0 := r_x5.2; omega)
    | succ nf3 ih3 =>
      intro x5 s0 H locs ls hn3 r_p1 r_p2 r_p3 r_x5 x_NF_p0_p1__5_p3 o_p0 hE hw hl
      refine lv_iload hx hb dX10_findIn_3 (lv_at hl 4 rfl) ?_
      refine lv_iload_n hx hb dX10_findIn_5 rfl (lv_at hl 2 rfl) ?_
      refine lv_icmp_ge (tgt := 29) hx hb dX10_findIn_6 (by decide) (fun c_6 => ?_) (fun c_6 => ?_)
      · have r_x5 : RI x5 1 8 := rc_le2 r_p2 r_x5 (ti_le c_6) (by decide)
        have x_NF_p0_p1_p2_p3 : NFD w0 p0 p1 p2 p3 := NFD.mono x_NF_p0_p1__5_p3 c_6
        refine lv_iconst (v := (-1)) hx hb dX10_findIn_29 (by decide) ?_
        simp only [f_X10_findIn__9_3, ↓reduceIte, eq_true c_6] at hE
        subst hQ
        exact W.iret (v := (-1)) hx hb hr (fun t ht hW => ⟨⟨(-1), (), rfl, ⟨⟨(by rw [hR, ← hE]), trivial⟩, rl_m1.to (by decide), (fun _ => trivial), (fun h0 => trivial), trivial, (fun h0 => ⟨x_NF_p0_p1_p2_p3, trivial⟩), (fun h0 => absurd h0 (by have h8 := rl_m1; unfold RI at h8; omega))⟩, by rw [ht]; exact hw.2.1, va_K.moved hW.alike hK, hw.2.2.1⟩, hw.2.2.2.1.F ht⟩) hw.2.2.2.1.2.2 dX10_findIn_30
      · have r_x5 : RI x5 0 7 := rc_lt1 r_x5 r_p2 (ti_nle c_6) (by decide)
        refine lv_aload_n hx hb dX10_findIn_9 rfl (lv_at hl 0 rfl) ?_
        refine lv_iload_n hx hb dX10_findIn_10 rfl (lv_at hl 1 rfl) ?_
        refine lv_iload hx hb dX10_findIn_11 (lv_at hl 4 rfl) ?_
        refine lv_iadd hx hb dX10_findIn_13 (lv_topi (fun v_1 e_v_1 => ?_))
        obtain ⟨t_v_1, r_v_1⟩ := tq_add (lo := 16) (hi := 23) r_p1 r_x5 (by decide +kernel) e_v_1
        have q_v_1 : p1 + x5 = v_1 := e_v_1.symm
        refine tg_laldE hx hb hK hw h_p0 rfl r_v_1 (by decide) dX10_findIn_14 (fun w_2 r_w_2 l_w_2 => ?_)
        have q_w_2 : s0 (Int32.toNatClampNeg v_1) = w_2 := ARL.lel hw.2.2.1 o_p0 l_w_2
        refine lv_lload_n hx hb dX10_findIn_15 rfl (lv_at hl 3 rfl) ?_
        refine W.lcmp hx hb dX10_findIn_16 (lv_topi (fun v_3 e_v_3 => ?_))
        have r_v_3 := ri_any v_3
        have q_v_3 : lg_cmp w_2 p3 = v_3 := e_v_3.symm
        refine lv_if_ne (tgt := 23) hx hb dX10_findIn_17 (by decide) (fun c_17 => ?_) (fun c_17 => ?_)
        · obtain ⟨v_4, e_v_4⟩ : ∃ q9 : Int32, q9 = x5 + Int32.ofInt 1 := ⟨_, rfl⟩
          obtain ⟨t_v_4, r_v_4⟩ := tq_add (lo := 1) (hi := 8) r_x5 (show RI (Int32.ofInt 1) 1 1 by unfold RI; decide +kernel) (by decide +kernel) e_v_4
          have t_v_4 : v_4.toInt = x5.toInt + 1 := t_v_4
          refine lv_iinc (v := v_4) (lv' := [(5, .int v_4), (0, .ref p0), (1, .int p1), (2, .int p2), (3, .long p3)]) hx hb dX10_findIn_23 hl (k := 4) rfl e_v_4.symm (by decide) rfl (fun ls hl => ?_)
          have q_v_4 : x5 + (1 : Int32) = v_4 := by rw [e_v_4, show Int32.ofInt 1 = (1 : Int32) by decide]
          refine lv_goto (tgt := 3) hx hb dX10_findIn_26 (by decide) ?_
          simp only [f_X10_findIn__9_3, ↓reduceIte, eq_false c_6, q_v_1, q_w_2, q_v_3, eq_false c_17, q_v_4] at hE
          have x_NF_p0_p1_v_4_p3 : NFD w0 p0 p1 v_4 p3 := NFD.step hw x_NF_p0_p1__5_p3 l_w_2 (by have k1 := r_v_1.cl (by decide); have k2 := r_p1.cl (by decide); have k3 := r_x5.cl (by decide); omega) (lcmp_ne e_v_3 c_17) t_v_4 r_x5.1
          exact ih3 v_4 s0 _ _ ls (by have q0 := r_v_4.1; have u0 := r_v_4.2; have o0 := r_x5.1; have p0 := r_x5.2; omega) r_p1 r_p2 r_p3 (r_v_4.to (by decide)) x_NF_p0_p1_v_4_p3 o_p0 hE hw (lv_sub hl [1, 2, 3, 4, 0] rfl)
        · have r_v_3 : RI v_3 0 0 := rc_eq1 r_v_3 rl_0 (ti_eq c_17) (by decide)
          have x_FD_p0_p1_p2_p3 : FDD w0 p0 p1 p2 p3 := FDD.mk l_w_2 (by have k1 := r_v_1.cl (by decide); have k2 := r_p1.cl (by decide); have k3 := r_x5.cl (by decide); omega) (lcmp_eq e_v_3 c_17) (ti_nle c_6) r_x5.1
          have x_POS_p2 : 1 ≤ Int32.toInt p2 := by have k1 := ti_nle c_6; have k2 := r_x5.1; omega
          refine lv_iload hx hb dX10_findIn_20 (lv_at hl 4 rfl) ?_
          simp only [f_X10_findIn__9_3, ↓reduceIte, eq_false c_6, q_v_1, q_w_2, q_v_3, eq_true c_17] at hE
          subst hQ
          exact W.iret (v := x5) hx hb hr (fun t ht hW => ⟨⟨x5, (), rfl, ⟨⟨(by rw [hR, ← hE]), trivial⟩, r_x5.to (by decide), (fun h0 => trivial), (fun h0 => trivial), trivial, (fun h0 => absurd h0 (by have h8 := r_x5; unfold RI at h8; omega)), (fun h0 => ⟨x_FD_p0_p1_p2_p3, x_POS_p2, trivial⟩)⟩, by rw [ht]; exact hw.2.1, va_K.moved hW.alike hK, hw.2.2.1⟩, hw.2.2.2.1.F ht⟩) hw.2.2.2.1.2.2 dX10_findIn_22
  refine lv_iconst (v := 0) hx hb dX10_findIn_0 (by decide) ?_
  refine lv_istore (lv' := [(5, .int 0), (0, .ref p0), (1, .int p1), (2, .int p2), (3, .long p3)]) hx hb dX10_findIn_1 hl (by decide) rfl (fun ls hl => ?_)
  simp only [f_X10_findIn__9, ↓reduceIte] at hE
  have x_NF_p0_p1_0_p3 : NFD w0 p0 p1 0 p3 := NFD.zero hw h_p0 rfl
  exact B3 4294967298 0 s0 _ _ ls (by have q0 := rl_0.1; have u0 := rl_0.2; omega) r_p1 r_p2 r_p3 (rl_0.to (by decide)) x_NF_p0_p1_0_p3 o_p0 hE hw (lv_sub hl [1, 2, 3, 4, 0] rfl)
abbrev wr_X10_isWord__9 : List (Nat × Nat) := []
abbrev wa_X10_isWord__9 : List Nat := []
set_option maxHeartbeats 4000000 in
set_option maxRecDepth 100000 in
theorem c_X10_isWord__9 (l : Launch) (D : va_G) (cy : Nat → ClassId) (z : Nat → Nat) (sz : Nat) (Ps : PSI) (w0 : va_W) (hT : HT cy GG Ps w0) (p0 : Nat) (p1 : Int32) (s0 : OS) (h_p0 : (p0, 55) ∈ Ps) (r_p1 : RI p1 (-2147483648) 2147483647) (o_p0 : OV vw_M5 Ps w0 p0 s0) : Met l yX10_isWord (Cond.code yX10_isWord cX10_isWord 2 (some .boolean) :: gT) ({ frames := 3, cells := 0, slots := 0, locals := 600 } : Room) (va_Pc [.ref p0, .int p1] (PRE D cy z w0 sz)) (va_Qi (fun (r : Int32) (u : Unit) => ((f_X10_isWord__4 p1 s0) = r ∧ True) ∧ (RI r 0 1 ∧ (r = 0 → True) ∧ (¬ r = 0 → True))) (BB D cy (va_A w0 sz) (fun (u : Unit) => w0)) (va_A w0 sz)) 0 0 (va_A w0 sz) := by
  refine Met.ofW (cc := cX10_isWord) (maxL := 2) (ret := (some .boolean)) (by decide) rfl ?_
  intro p e s m args below meth c s₁ B hml hv
  obtain ⟨rfl, hsz, hP, hK, hD0, hSD⟩ := hv
  have hx := B.exec
  have hb := B.bytes
  have hr := B.returns
  have hlocks := B.notSynchronized
  have hts : ∀ w ∈ gT, w.before _ s = true := fun w h => atoms_spec (ws := Cond.code yX10_isWord cX10_isWord 2 (some .boolean) :: gT) B.pre w (List.mem_cons_of_mem _ h)
  have hown : s.vm.findClass RX10 = some m.cls := findClass_of_methodNamed B.named
  subst hsz
  have hD := hD0.self (sz := s.heap.size)
  generalize hAe : va_A w0 s.heap.size = A at hD hSD ⊢
  have hA : ∀ q : Nat, s.heap.size ≤ q → A q := fun q h => by rw [← hAe]; exact Or.inr h
  have hl := lv_entry ([.ref p0, .int p1]) (n := 2) (Nat.le_of_ble_eq_true rfl)
  rw [lg_entry_eq]
  generalize (lg_sl ([.ref p0, .int p1]) ++ List.replicate (2 - (lg_sl ([.ref p0, .int p1])).length) Slot.unset).toArray = ls at hl ⊢
  have hl : lv_has ls 2 [(0, .ref p0), (1, .int p1)] := hl
  refine nameQ (fun Q hQ => ?_)
  have hw : WD D cy GG A s wr_X10_isWord__9 wa_X10_isWord__9 Ps w0 Ps w0 s.heap [] := ⟨hT, hP, hD, va_S.rf, FR.rf, hT.1, [], (List.append_nil _).symm⟩
  obtain ⟨R9, hR⟩ : ∃ q9 : Int32, f_X10_isWord__4 p1 s0 = q9 := ⟨_, rfl⟩
  have hE := hR
  refine lv_aload_n hx hb dX10_isWord_0 rfl (lv_at hl 0 rfl) ?_
  refine tg_get (ci := 10) (ts := ty_MODEL) (C := RX10) (T := TX10) (N := 49) hx hb hts inX10 hown hK hw h_p0 rfl rfl 7 (by decide) (hts _ tw_1144) (fun _ h9 => h9) (ft := vI (-2147483648) 2147483647) rfl dX10_isWord_1 (fun u_1 hv_u_1 m_u_1 => ?_)
  obtain ⟨vu_1, rfl, r_vu_1⟩ := hv_u_1
  have q_vu_1 : s0.1 7 = vu_1 := OV.eqI (V := vw_M5) hw.2.2.1 o_p0 m_u_1 (by decide)
  refine lv_iconst (v := 2) hx hb dX10_isWord_4 (by decide) ?_
  refine lv_icmp_ne (tgt := 24) hx hb dX10_isWord_5 (by decide) (fun c_5 => ?_) (fun c_5 => ?_)
  · refine lv_iconst (v := 0) hx hb dX10_isWord_24 (by decide) ?_
    simp only [f_X10_isWord__4, ↓reduceIte, q_vu_1, eq_false c_5] at hE
    subst hQ
    exact W.zret (v := 0) hx hb hr (rfl) (fun t ht hW => ⟨⟨0, (), rfl, ⟨⟨(by rw [hR, ← hE]), trivial⟩, rl_0.to (by decide), (fun h0 => trivial), (fun _ => trivial)⟩, by rw [ht]; exact hw.2.1, va_K.moved hW.alike hK, hw.2.2.1⟩, hw.2.2.2.1.F ht⟩) hw.2.2.2.1.2.2 dX10_isWord_25
  · have r_vu_1 : RI vu_1 2 2 := rc_eq1 r_vu_1 rl_2 (ti_eq c_5) (by decide)
    refine lv_aload_n hx hb dX10_isWord_8 rfl (lv_at hl 0 rfl) ?_
    refine tg_get (ci := 10) (ts := ty_MODEL) (C := RX10) (T := TX10) (N := 49) hx hb hts inX10 hown hK hw h_p0 rfl rfl 12 (by decide) (hts _ tw_1149) (fun _ h9 => h9) (ft := vJ (-9223372036854775808) 9223372036854775807) rfl dX10_isWord_9 (fun u_2 hv_u_2 m_u_2 => ?_)
    obtain ⟨vu_2, rfl, r_vu_2⟩ := hv_u_2
    have q_vu_2 : s0.2.1 12 = vu_2 := OV.eqL (V := vw_M5) hw.2.2.1 o_p0 m_u_2 (by decide)
    refine lv_iload_n hx hb dX10_isWord_12 rfl (lv_at hl 1 rfl) ?_
    refine tk_lr (va_runS (As := [.int p1]) (rest := [.long vu_2]) ⟨hx, hb, hml, hown, hts⟩ (c_X10_wordOf__9 l D cy z s.heap.size Ps w0 hw.1 p1 r_p1) (va_cwS 1 hts (gS tw_1322 tw_1323 tw_15 tw_1324) rfl rfl rfl (by decide +kernel) ⟨Nat.le_of_ble_eq_true rfl, Nat.le_of_ble_eq_true rfl⟩) (tg_preS hw hK hSD hA) rfl rfl hl.1 rfl (lv_room (Nat.le_of_ble_eq_true rfl)) dX10_isWord_13 ⟨Nat.le_of_ble_eq_true rfl, Nat.le_of_ble_eq_true rfl⟩) hw hA (fun v_3  H locs hp_v_3 hw => ?_)
    obtain ⟨hfn, hp_v_3⟩ := hp_v_3
    have q_v_3 : (f_X10_wordOf__7 p1) = v_3 := hfn.1
    have r_v_3 : RJ v_3 257 8935713994 := hp_v_3
    refine W.lcmp hx hb dX10_isWord_16 (lv_topi (fun v_4 e_v_4 => ?_))
    have r_v_4 := ri_any v_4
    have q_v_4 : lg_cmp vu_2 v_3 = v_4 := e_v_4.symm
    refine lv_if_ne (tgt := 24) hx hb dX10_isWord_17 (by decide) (fun c_17 => ?_) (fun c_17 => ?_)
    · refine lv_iconst (v := 0) hx hb dX10_isWord_24 (by decide) ?_
      simp only [f_X10_isWord__4, ↓reduceIte, q_vu_1, eq_true c_5, q_vu_2, q_v_3, q_v_4, eq_false c_17] at hE
      subst hQ
      exact W.zret (v := 0) hx hb hr (rfl) (fun t ht hW => ⟨⟨0, (), rfl, ⟨⟨(by rw [hR, ← hE]), trivial⟩, rl_0.to (by decide), (fun h0 => trivial), (fun _ => trivial)⟩, by rw [ht]; exact hw.2.1, va_K.moved hW.alike hK, hw.2.2.1⟩, hw.2.2.2.1.F ht⟩) hw.2.2.2.1.2.2 dX10_isWord_25
    · have r_v_4 : RI v_4 0 0 := rc_eq1 r_v_4 rl_0 (ti_eq c_17) (by decide)
      refine lv_iconst (v := 1) hx hb dX10_isWord_20 (by decide) ?_
      refine lv_goto (tgt := 25) hx hb dX10_isWord_21 (by decide) ?_
      simp only [f_X10_isWord__4, ↓reduceIte, q_vu_1, eq_true c_5, q_vu_2, q_v_3, q_v_4, eq_true c_17] at hE
      subst hQ
      exact W.zret (v := 1) hx hb hr (rfl) (fun t ht hW => ⟨⟨1, (), rfl, ⟨⟨(by rw [hR, ← hE]), trivial⟩, rl_1.to (by decide), (fun _ => trivial), (fun h0 => trivial)⟩, by rw [ht]; exact hw.2.1, va_K.moved hW.alike hK, hw.2.2.1⟩, hw.2.2.2.1.F ht⟩) hw.2.2.2.1.2.2 dX10_isWord_25
abbrev wr_X10_findIn__17 : List (Nat × Nat) := []
abbrev wa_X10_findIn__17 : List Nat := []
set_option maxHeartbeats 4000000 in
set_option maxRecDepth 100000 in
theorem c_X10_findIn__17 (l : Launch) (D : va_G) (cy : Nat → ClassId) (z : Nat → Nat) (sz : Nat) (Ps : PSI) (w0 : va_W) (hT : HT cy GG Ps w0) (p0 : Nat) (p1 : Int32) (p2 : Int32) (p3 : Int64) (s0 : Nat → Int64) (h_p0 : (p0, 41) ∈ Ps) (r_p1 : RI p1 10 10) (r_p2 : RI p2 0 6) (r_p3 : RJ p3 (-9223372036854775808) 9223372036854775807) (o_p0 : ARL Ps w0 p0 41 s0) : Met l yX10_findIn (Cond.code yX10_findIn cX10_findIn 6 (some .int) :: gT) ({ frames := 0, cells := 0, slots := 0, locals := 200 } : Room) (va_Pc [.ref p0, .int p1, .int p2, .long p3] (PRE D cy z w0 sz)) (va_Qi (fun (r : Int32) (u : Unit) => ((f_X10_findIn__9 p1 p2 p3 s0) = r ∧ True) ∧ (RI r (-1) 5 ∧ (r = 0 → True) ∧ (¬ r = 0 → True) ∧ (True) ∧ (r.toInt < 0 → NFD w0 p0 p1 p2 p3 ∧ True) ∧ (0 ≤ r.toInt → FDD w0 p0 p1 p2 p3 ∧ 1 ≤ Int32.toInt p2 ∧ True))) (BB D cy (va_A w0 sz) (fun (u : Unit) => w0)) (va_A w0 sz)) 0 0 (va_A w0 sz) := by
  refine Met.ofW (cc := cX10_findIn) (maxL := 6) (ret := (some .int)) (by decide) rfl ?_
  intro p e s m args below meth c s₁ B hml hv
  obtain ⟨rfl, hsz, hP, hK, hD0, hSD⟩ := hv
  have hx := B.exec
  have hb := B.bytes
  have hr := B.returns
  have hlocks := B.notSynchronized
  have hts : ∀ w ∈ gT, w.before _ s = true := fun w h => atoms_spec (ws := Cond.code yX10_findIn cX10_findIn 6 (some .int) :: gT) B.pre w (List.mem_cons_of_mem _ h)
  have hown : s.vm.findClass RX10 = some m.cls := findClass_of_methodNamed B.named
  subst hsz
  have hD := hD0.self (sz := s.heap.size)
  generalize hAe : va_A w0 s.heap.size = A at hD hSD ⊢
  have hA : ∀ q : Nat, s.heap.size ≤ q → A q := fun q h => by rw [← hAe]; exact Or.inr h
  have hl := lv_entry ([.ref p0, .int p1, .int p2, .long p3]) (n := 6) (Nat.le_of_ble_eq_true rfl)
  rw [lg_entry_eq]
  generalize (lg_sl ([.ref p0, .int p1, .int p2, .long p3]) ++ List.replicate (6 - (lg_sl ([.ref p0, .int p1, .int p2, .long p3])).length) Slot.unset).toArray = ls at hl ⊢
  have hl : lv_has ls 6 [(0, .ref p0), (1, .int p1), (2, .int p2), (3, .long p3)] := hl
  refine nameQ (fun Q hQ => ?_)
  have hw : WD D cy GG A s wr_X10_findIn__17 wa_X10_findIn__17 Ps w0 Ps w0 s.heap [] := ⟨hT, hP, hD, va_S.rf, FR.rf, hT.1, [], (List.append_nil _).symm⟩
  obtain ⟨R9, hR⟩ : ∃ q9 : Int32, f_X10_findIn__9 p1 p2 p3 s0 = q9 := ⟨_, rfl⟩
  have hE := hR
  have B3 : ∀ (nf : Nat) (x5 : Int32) (s0 : Nat → Int64) (H : Heap) (locs : List Loc) (ls : Array Slot), 6 - x5.toInt < (nf : Int) → RI p1 10 10 → RI p2 0 6 → RJ p3 (-9223372036854775808) 9223372036854775807 → RI x5 0 6 → NFD w0 p0 p1 x5 p3 → ARL Ps w0 p0 41 s0 → f_X10_findIn__9_3 p1 p2 p3 nf x5 s0 = R9 → WD D cy GG A s wr_X10_findIn__17 wa_X10_findIn__17 Ps w0 Ps w0 H locs → lv_has ls 6 [(0, .ref p0), (1, .int p1), (2, .int p2), (3, .long p3), (5, .int x5)] → W p l e (headSpec (Cond.code yX10_findIn cX10_findIn 6 (some .int) :: gT) ({ frames := 0, cells := 0, slots := 0, locals := 200 } : Room)).room s m ([.ref p0, .int p1, .int p2, .long p3] : List Value).toArray below meth c H locs 0 0 Q (F0 m 3 ls []) := by
    intro nf3
    induction nf3 with
    | zero =>
      intro x5 s0 H locs ls hn3 r_p1 r_p2 r_p3 r_x5 x_NF_p0_p1__5_p3 o_p0 hE hw hl
      exact absurd hn3 (by have q0 := r_x5.1; have u0 := r_x5.2; omega)
    | succ nf3 ih3 =>
      intro x5 s0 H locs ls hn3 r_p1 r_p2 r_p3 r_x5 x_NF_p0_p1__5_p3 o_p0 hE hw hl
      refine lv_iload hx hb dX10_findIn_3 (lv_at hl 4 rfl) ?_
      refine lv_iload_n hx hb dX10_findIn_5 rfl (lv_at hl 2 rfl) ?_
      refine lv_icmp_ge (tgt := 29) hx hb dX10_findIn_6 (by decide) (fun c_6 => ?_) (fun c_6 => ?_)
      · have x_NF_p0_p1_p2_p3 : NFD w0 p0 p1 p2 p3 := NFD.mono x_NF_p0_p1__5_p3 c_6
        refine lv_iconst (v := (-1)) hx hb dX10_findIn_29 (by decide) ?_
        simp only [f_X10_findIn__9_3, ↓reduceIte, eq_true c_6] at hE
        subst hQ
        exact W.iret (v := (-1)) hx hb hr (fun t ht hW => ⟨⟨(-1), (), rfl, ⟨⟨(by rw [hR, ← hE]), trivial⟩, rl_m1.to (by decide), (fun _ => trivial), (fun h0 => trivial), trivial, (fun h0 => ⟨x_NF_p0_p1_p2_p3, trivial⟩), (fun h0 => absurd h0 (by have h8 := rl_m1; unfold RI at h8; omega))⟩, by rw [ht]; exact hw.2.1, va_K.moved hW.alike hK, hw.2.2.1⟩, hw.2.2.2.1.F ht⟩) hw.2.2.2.1.2.2 dX10_findIn_30
      · have r_x5 : RI x5 0 5 := rc_lt1 r_x5 r_p2 (ti_nle c_6) (by decide)
        have r_p2 : RI p2 1 6 := rc_lt2 r_x5 r_p2 (ti_nle c_6) (by decide)
        refine lv_aload_n hx hb dX10_findIn_9 rfl (lv_at hl 0 rfl) ?_
        refine lv_iload_n hx hb dX10_findIn_10 rfl (lv_at hl 1 rfl) ?_
        refine lv_iload hx hb dX10_findIn_11 (lv_at hl 4 rfl) ?_
        refine lv_iadd hx hb dX10_findIn_13 (lv_topi (fun v_1 e_v_1 => ?_))
        obtain ⟨t_v_1, r_v_1⟩ := tq_add (lo := 10) (hi := 15) r_p1 r_x5 (by decide +kernel) e_v_1
        have q_v_1 : p1 + x5 = v_1 := e_v_1.symm
        refine tg_laldE hx hb hK hw h_p0 rfl r_v_1 (by decide) dX10_findIn_14 (fun w_2 r_w_2 l_w_2 => ?_)
        have q_w_2 : s0 (Int32.toNatClampNeg v_1) = w_2 := ARL.lel hw.2.2.1 o_p0 l_w_2
        refine lv_lload_n hx hb dX10_findIn_15 rfl (lv_at hl 3 rfl) ?_
        refine W.lcmp hx hb dX10_findIn_16 (lv_topi (fun v_3 e_v_3 => ?_))
        have r_v_3 := ri_any v_3
        have q_v_3 : lg_cmp w_2 p3 = v_3 := e_v_3.symm
        refine lv_if_ne (tgt := 23) hx hb dX10_findIn_17 (by decide) (fun c_17 => ?_) (fun c_17 => ?_)
        · obtain ⟨v_4, e_v_4⟩ : ∃ q9 : Int32, q9 = x5 + Int32.ofInt 1 := ⟨_, rfl⟩
          obtain ⟨t_v_4, r_v_4⟩ := tq_add (lo := 1) (hi := 6) r_x5 (show RI (Int32.ofInt 1) 1 1 by unfold RI; decide +kernel) (by decide +kernel) e_v_4
          have t_v_4 : v_4.toInt = x5.toInt + 1 := t_v_4
          refine lv_iinc (v := v_4) (lv' := [(5, .int v_4), (0, .ref p0), (1, .int p1), (2, .int p2), (3, .long p3)]) hx hb dX10_findIn_23 hl (k := 4) rfl e_v_4.symm (by decide) rfl (fun ls hl => ?_)
          have q_v_4 : x5 + (1 : Int32) = v_4 := by rw [e_v_4, show Int32.ofInt 1 = (1 : Int32) by decide]
          refine lv_goto (tgt := 3) hx hb dX10_findIn_26 (by decide) ?_
          simp only [f_X10_findIn__9_3, ↓reduceIte, eq_false c_6, q_v_1, q_w_2, q_v_3, eq_false c_17, q_v_4] at hE
          have x_NF_p0_p1_v_4_p3 : NFD w0 p0 p1 v_4 p3 := NFD.step hw x_NF_p0_p1__5_p3 l_w_2 (by have k1 := r_v_1.cl (by decide); have k2 := r_p1.cl (by decide); have k3 := r_x5.cl (by decide); omega) (lcmp_ne e_v_3 c_17) t_v_4 r_x5.1
          exact ih3 v_4 s0 _ _ ls (by have q0 := r_v_4.1; have u0 := r_v_4.2; have o0 := r_x5.1; have p0 := r_x5.2; omega) r_p1 (r_p2.to (by decide)) r_p3 (r_v_4.to (by decide)) x_NF_p0_p1_v_4_p3 o_p0 hE hw (lv_sub hl [1, 2, 3, 4, 0] rfl)
        · have r_v_3 : RI v_3 0 0 := rc_eq1 r_v_3 rl_0 (ti_eq c_17) (by decide)
          have x_FD_p0_p1_p2_p3 : FDD w0 p0 p1 p2 p3 := FDD.mk l_w_2 (by have k1 := r_v_1.cl (by decide); have k2 := r_p1.cl (by decide); have k3 := r_x5.cl (by decide); omega) (lcmp_eq e_v_3 c_17) (ti_nle c_6) r_x5.1
          have x_POS_p2 : 1 ≤ Int32.toInt p2 := by have k1 := ti_nle c_6; have k2 := r_x5.1; omega
          refine lv_iload hx hb dX10_findIn_20 (lv_at hl 4 rfl) ?_
          simp only [f_X10_findIn__9_3, ↓reduceIte, eq_false c_6, q_v_1, q_w_2, q_v_3, eq_true c_17] at hE
          subst hQ
          exact W.iret (v := x5) hx hb hr (fun t ht hW => ⟨⟨x5, (), rfl, ⟨⟨(by rw [hR, ← hE]), trivial⟩, r_x5.to (by decide), (fun h0 => trivial), (fun h0 => trivial), trivial, (fun h0 => absurd h0 (by have h8 := r_x5; unfold RI at h8; omega)), (fun h0 => ⟨x_FD_p0_p1_p2_p3, x_POS_p2, trivial⟩)⟩, by rw [ht]; exact hw.2.1, va_K.moved hW.alike hK, hw.2.2.1⟩, hw.2.2.2.1.F ht⟩) hw.2.2.2.1.2.2 dX10_findIn_22
  refine lv_iconst (v := 0) hx hb dX10_findIn_0 (by decide) ?_
  refine lv_istore (lv' := [(5, .int 0), (0, .ref p0), (1, .int p1), (2, .int p2), (3, .long p3)]) hx hb dX10_findIn_1 hl (by decide) rfl (fun ls hl => ?_)
  simp only [f_X10_findIn__9, ↓reduceIte] at hE
  have x_NF_p0_p1_0_p3 : NFD w0 p0 p1 0 p3 := NFD.zero hw h_p0 rfl
  exact B3 4294967298 0 s0 _ _ ls (by have q0 := rl_0.1; have u0 := rl_0.2; omega) r_p1 r_p2 r_p3 (rl_0.to (by decide)) x_NF_p0_p1_0_p3 o_p0 hE hw (lv_sub hl [1, 2, 3, 4, 0] rfl)
abbrev wr_X10_readNamed__5 : List (Nat × Nat) := [(10, 5), (10, 6), (10, 7), (10, 8), (10, 9), (10, 10), (10, 11), (10, 12), (10, 13)]
abbrev wa_X10_readNamed__5 : List Nat := []
set_option maxHeartbeats 4000000 in
set_option maxRecDepth 100000 in
theorem c_X10_readNamed__5 (l : Launch) (D : va_G) (cy : Nat → ClassId) (z : Nat → Nat) (sz : Nat) (Ps : PSI) (w0 : va_W) (hT : HT cy GG Ps w0) (p0 : Nat) (p1 : Int32) (p2 : Int32) (s0 : OS) (h_p0 : (p0, 55) ∈ Ps) (r_p1 : RI p1 10 10) (r_p2 : RI p2 0 6) (o_p0 : OV vw_M5 Ps w0 p0 s0) : Met l yX10_readNamed (Cond.code yX10_readNamed cX10_readNamed 3 (some .boolean) :: gT) ({ frames := 4, cells := 0, slots := 0, locals := 800 } : Room) (va_Pc [.ref p0, .int p1, .int p2] (PRE D cy z w0 sz)) (va_Qi (fun (r : Int32) (u : va_W) => ((OV vw_M5 Ps u p0 ((f_X10_readNamed__3 p1 p2 s0).1) ∧ (f_X10_readNamed__3 p1 p2 s0).2 = r ∧ True) ∧ (RI r 0 1 ∧ (r = 0 → True) ∧ (¬ r = 0 → RI p2 1 6 ∧ (∃ v9 : Int32, FLD u p0 10 13 (.int v9) ∧ RI v9 0 5) ∧ True))) ∧ HT cy GG Ps u ∧ FR wr_X10_readNamed__5 wa_X10_readNamed__5 Ps w0 u) (BB D cy (va_A w0 sz) (fun (u : va_W) => u)) (va_A w0 sz)) 0 0 (va_A w0 sz) := by
  refine Met.ofW (cc := cX10_readNamed) (maxL := 3) (ret := (some .boolean)) (by decide) rfl ?_
  intro p e s m args below meth c s₁ B hml hv
  obtain ⟨rfl, hsz, hP, hK, hD0, hSD⟩ := hv
  have hx := B.exec
  have hb := B.bytes
  have hr := B.returns
  have hlocks := B.notSynchronized
  have hts : ∀ w ∈ gT, w.before _ s = true := fun w h => atoms_spec (ws := Cond.code yX10_readNamed cX10_readNamed 3 (some .boolean) :: gT) B.pre w (List.mem_cons_of_mem _ h)
  have hown : s.vm.findClass RX10 = some m.cls := findClass_of_methodNamed B.named
  subst hsz
  have hD := hD0.self (sz := s.heap.size)
  generalize hAe : va_A w0 s.heap.size = A at hD hSD ⊢
  have hA : ∀ q : Nat, s.heap.size ≤ q → A q := fun q h => by rw [← hAe]; exact Or.inr h
  have hl := lv_entry ([.ref p0, .int p1, .int p2]) (n := 3) (Nat.le_of_ble_eq_true rfl)
  rw [lg_entry_eq]
  generalize (lg_sl ([.ref p0, .int p1, .int p2]) ++ List.replicate (3 - (lg_sl ([.ref p0, .int p1, .int p2])).length) Slot.unset).toArray = ls at hl ⊢
  have hl : lv_has ls 3 [(0, .ref p0), (1, .int p1), (2, .int p2)] := hl
  refine nameQ (fun Q hQ => ?_)
  have hw : WD D cy GG A s wr_X10_readNamed__5 wa_X10_readNamed__5 Ps w0 Ps w0 s.heap [] := ⟨hT, hP, hD, va_S.rf, FR.rf, hT.1, [], (List.append_nil _).symm⟩
  obtain ⟨R9, hR⟩ : ∃ q9 : OS × Int32, f_X10_readNamed__3 p1 p2 s0 = q9 := ⟨_, rfl⟩
  have hE := hR
  refine lv_aload_n hx hb dX10_readNamed_0 rfl (lv_at hl 0 rfl) ?_
  refine tk_ir (va_runV (As := []) (rest := []) ⟨hx, hb, hml, hown, hts⟩ (c_X10_isName__3 l D cy z s.heap.size Ps w0 hw.1 p0 s0 h_p0 o_p0) (cwV 0 hts (gV tw_1344 tw_1346 ts_48 tw_15 tw_1347) rfl rfl rfl (by decide +kernel) ⟨Nat.le_of_ble_eq_true rfl, Nat.le_of_ble_eq_true rfl⟩) (tg_preV hw hK hSD hA (ci := 10) (q := (RX10, TX10, 49)) rfl h_p0 rfl) rfl rfl hl.1 rfl (lv_room (Nat.le_of_ble_eq_true rfl)) dX10_readNamed_1 ⟨Nat.le_of_ble_eq_true rfl, Nat.le_of_ble_eq_true rfl⟩) hw hA (fun v_1  H locs hp_v_1 hw => ?_)
  obtain ⟨hfn, hp_v_1⟩ := hp_v_1
  have q_v_1 : (f_X10_isName__1 s0) = v_1 := hfn.1
  have r_v_1 : RI v_1 0 1 := hp_v_1.1
  refine lv_if_ne (tgt := 13) hx hb dX10_readNamed_4 (by decide) (fun c_4 => ?_) (fun c_4 => ?_)
  · have r_v_1 : RI v_1 1 1 := rc_neL r_v_1 rl_0 (ti_ne c_4) (by decide)
    refine lv_aload_n hx hb dX10_readNamed_13 rfl (lv_at hl 0 rfl) ?_
    refine lv_aload_n hx hb dX10_readNamed_14 rfl (lv_at hl 0 rfl) ?_
    refine tg_get (ci := 10) (ts := ty_MODEL) (C := RX10) (T := TX10) (N := 49) hx hb hts inX10 hown hK hw h_p0 rfl rfl 20 (by decide) (hts _ tw_1157) (fun _ h9 => h9) (ft := vR 41) rfl dX10_readNamed_15 (fun u_2 hv_u_2 m_u_2 => ?_)
    obtain ⟨vu_2, rfl, h_vu_2⟩ := hv_u_2
    refine lv_iload_n hx hb dX10_readNamed_18 rfl (lv_at hl 1 rfl) ?_
    refine lv_iload_n hx hb dX10_readNamed_19 rfl (lv_at hl 2 rfl) ?_
    refine lv_aload_n hx hb dX10_readNamed_20 rfl (lv_at hl 0 rfl) ?_
    refine tg_get (ci := 10) (ts := ty_MODEL) (C := RX10) (T := TX10) (N := 49) hx hb hts inX10 hown hK hw h_p0 rfl rfl 12 (by decide) (hts _ tw_1149) (fun _ h9 => h9) (ft := vJ (-9223372036854775808) 9223372036854775807) rfl dX10_readNamed_21 (fun u_3 hv_u_3 m_u_3 => ?_)
    obtain ⟨vu_3, rfl, r_vu_3⟩ := hv_u_3
    have q_vu_3 : s0.2.1 12 = vu_3 := OV.eqL (V := vw_M5) hw.2.2.1 o_p0 m_u_3 (by decide)
    have oa_vu_2 := OV.arrB (V := vw_M5) (t := 41) hw.2.2.1 o_p0 m_u_2 (by decide)
    have mo9_vu_2 := And.intro hw.2.2.1 m_u_2
    refine tk_ir (va_runS (As := [.ref vu_2, .int p1, .int p2, .long vu_3]) (rest := [.ref p0]) ⟨hx, hb, hml, hown, hts⟩ (c_X10_findIn__17 l D cy z H.size Ps w0 hw.1 vu_2 p1 p2 vu_3 (s0.2.2.2 20) h_vu_2 r_p1 r_p2 r_vu_3 oa_vu_2) (va_cwS 4 hts (gS tw_1352 tw_1353 tw_15 tw_1354) rfl rfl rfl (by decide +kernel) ⟨Nat.le_of_ble_eq_true rfl, Nat.le_of_ble_eq_true rfl⟩) (tg_preS hw hK hSD hA) rfl rfl hl.1 rfl (lv_room (Nat.le_of_ble_eq_true rfl)) dX10_readNamed_24 ⟨Nat.le_of_ble_eq_true rfl, Nat.le_of_ble_eq_true rfl⟩) hw hA (fun v_4  H locs hp_v_4 hw => ?_)
    obtain ⟨hfn, hp_v_4⟩ := hp_v_4
    have q_v_4 : (f_X10_findIn__9 p1 p2 vu_3 (s0.2.2.2 20)) = v_4 := hfn.1
    have r_v_4 : RI v_4 (-1) 5 := hp_v_4.1
    by_cases c9_v_4 : v_4.toInt < 0
    · have r_v_4 : RI v_4 (-1) (-1) := by unfold RI at r_v_4 ⊢; omega
      have x_NF_vu_2_p1_p2_vu_3 := (hp_v_4.2.2.2.2.1 (by omega)).1
      have hw8 := hw
      refine tg_put (ci := 10) (ts := ty_MODEL) (v := .int v_4) (ty := .int) (C := RX10) (T := TX10) (N := 49) hx hb hts inX10 tyX10 tyX10_ok nmX10 hown hK hw h_p0 rfl rfl 13 (by decide) (hts _ tw_1150) (fun _ h9 => h9) rfl (by decide +kernel) rfl rfl (ft := vI (-2147483648) 2147483647) rfl ⟨_, rfl, (r_v_4.to (by decide))⟩ (by decide) dX10_readNamed_27 (fun ws H locs hw n_k_5 hF9 => ?_)
      have m_u_2 := FLD.over hF9 m_u_2 (by decide)
      have m_u_3 := FLD.over hF9 m_u_3 (by decide)
      have x_NF_vu_2_p1_p2_vu_3 := NFD.over hw8 hF9 h_vu_2 x_NF_vu_2_p1_p2_vu_3 (by decide)
      obtain ⟨sg_6, q_sg_6⟩ : ∃ q9 : OS, sI s0 13 v_4 = q9 := ⟨_, rfl⟩
      have o_p0 : OV vw_M5 Ps ws p0 sg_6 := by rw [← q_sg_6]; exact OV.putI (V := vw_M5) hF9 n_k_5 o_p0 (by decide)
      refine lv_aload_n hx hb dX10_readNamed_30 rfl (lv_at hl 0 rfl) ?_
      refine tg_mem (ci := 10) (C := RX10) (T := TX10) (N := 49) hx hb hts inX10 hown hK hw 13 n_k_5 rfl (by decide) (hts _ tw_1150) (fun _ h9 => h9) dX10_readNamed_31 ?_
      refine lv_iconst (v := (-1)) hx hb dX10_readNamed_34 (by decide) ?_
      refine lv_icmp_ne (tgt := 44) hx hb dX10_readNamed_35 (by decide) (fun c_35 => ?_) (fun c_35 => ?_)
      · exact absurd (r_v_4.eq.trans rl_m1.eq.symm) ((ti_ne c_35))
      · refine lv_aload_n hx hb dX10_readNamed_38 rfl (lv_at hl 0 rfl) ?_
        refine lv_iconst (v := 3) hx hb dX10_readNamed_39 (by decide) ?_
        have hw8 := hw
        refine tk_i (va_runV (As := [.int 3]) (rest := []) ⟨hx, hb, hml, hown, hts⟩ (c_X10_bad__3 l D cy z H.size Ps ws hw.1 p0 3 sg_6 h_p0 (rl_3.to (by decide)) o_p0) (cwV 1 hts (gV tw_1336 tw_1338 ts_46 tw_15 tw_1339) rfl rfl rfl (by decide +kernel) ⟨Nat.le_of_ble_eq_true rfl, Nat.le_of_ble_eq_true rfl⟩) (tg_preV hw hK hSD hA (ci := 10) (q := (RX10, TX10, 49)) rfl h_p0 rfl) rfl rfl hl.1 rfl (lv_room (Nat.le_of_ble_eq_true rfl)) dX10_readNamed_40 ⟨Nat.le_of_ble_eq_true rfl, Nat.le_of_ble_eq_true rfl⟩) hw hA ⟨by decide, by decide⟩ (fun v_7 ws H locs hp_v_7 hw hF9 => ?_)
        have m_u_2 := FLD.over hF9 m_u_2 (by decide)
        have m_u_3 := FLD.over hF9 m_u_3 (by decide)
        have n_k_5 := FLD.over hF9 n_k_5 (by decide)
        have x_NF_vu_2_p1_p2_vu_3 := NFD.over hw8 hF9 h_vu_2 x_NF_vu_2_p1_p2_vu_3 (by decide)
        obtain ⟨hfn, hp_v_7⟩ := hp_v_7
        obtain ⟨sg_8, q_sg_8⟩ : ∃ q9 : OS, (f_X10_bad__1 (3 : Int32) sg_6).1 = q9 := ⟨_, rfl⟩
        have o_p0 : OV vw_M5 Ps ws p0 sg_8 := by rw [← q_sg_8]; exact hfn.1
        have q_v_7 : (f_X10_bad__1 (3 : Int32) sg_6).2 = v_7 := hfn.2.1
        have r_v_7 : RI v_7 0 0 := hp_v_7.1
        simp only [f_X10_readNamed__3, ↓reduceIte, q_v_1, eq_false c_4, q_vu_3, q_v_4, eq_true c9_v_4, q_sg_6, eq_true c_35, q_sg_8, q_v_7] at hE
        subst hQ
        exact W.zret (v := v_7) hx hb hr (tq_nz (r_v_7.to (by decide))) (fun t ht hW => ⟨⟨v_7, ws, rfl, ⟨⟨⟨(by rw [hR, ← hE]; exact o_p0), (by rw [hR, ← hE]), trivial⟩, r_v_7.to (by decide), (fun h0 => trivial), (fun h0 => absurd (Int32.toInt_inj.mp (by have h8 := r_v_7; unfold RI at h8; rw [Int32.toInt_zero]; omega)) h0)⟩, hw.1, hw.2.2.2.2.1⟩, by rw [ht]; exact hw.2.1, va_K.moved hW.alike hK, hw.2.2.1⟩, hw.2.2.2.1.F ht⟩) hw.2.2.2.1.2.2 dX10_readNamed_43
    · have r_v_4 : RI v_4 0 5 := by unfold RI at r_v_4 ⊢; omega
      have x_FD_vu_2_p1_p2_vu_3 := (hp_v_4.2.2.2.2.2 (by omega)).1
      have x_POS_p2 := (hp_v_4.2.2.2.2.2 (by omega)).2.1
      have r_p2 : RI p2 1 6 := ⟨x_POS_p2, r_p2.2⟩
      have hw8 := hw
      refine tg_put (ci := 10) (ts := ty_MODEL) (v := .int v_4) (ty := .int) (C := RX10) (T := TX10) (N := 49) hx hb hts inX10 tyX10 tyX10_ok nmX10 hown hK hw h_p0 rfl rfl 13 (by decide) (hts _ tw_1150) (fun _ h9 => h9) rfl (by decide +kernel) rfl rfl (ft := vI (-2147483648) 2147483647) rfl ⟨_, rfl, (r_v_4.to (by decide))⟩ (by decide) dX10_readNamed_27 (fun ws H locs hw n_k_9 hF9 => ?_)
      have m_u_2 := FLD.over hF9 m_u_2 (by decide)
      have m_u_3 := FLD.over hF9 m_u_3 (by decide)
      have x_FD_vu_2_p1_p2_vu_3 := FDD.over hw8 hF9 h_vu_2 x_FD_vu_2_p1_p2_vu_3 (by decide)
      obtain ⟨sg_10, q_sg_10⟩ : ∃ q9 : OS, sI s0 13 v_4 = q9 := ⟨_, rfl⟩
      have o_p0 : OV vw_M5 Ps ws p0 sg_10 := by rw [← q_sg_10]; exact OV.putI (V := vw_M5) hF9 n_k_9 o_p0 (by decide)
      refine lv_aload_n hx hb dX10_readNamed_30 rfl (lv_at hl 0 rfl) ?_
      refine tg_mem (ci := 10) (C := RX10) (T := TX10) (N := 49) hx hb hts inX10 hown hK hw 13 n_k_9 rfl (by decide) (hts _ tw_1150) (fun _ h9 => h9) dX10_readNamed_31 ?_
      refine lv_iconst (v := (-1)) hx hb dX10_readNamed_34 (by decide) ?_
      refine lv_icmp_ne (tgt := 44) hx hb dX10_readNamed_35 (by decide) (fun c_35 => ?_) (fun c_35 => ?_)
      · refine lv_aload_n hx hb dX10_readNamed_44 rfl (lv_at hl 0 rfl) ?_
        have hw8 := hw
        refine tk_v (va_runV (As := []) (rest := []) ⟨hx, hb, hml, hown, hts⟩ (c_X10_go__5 l D cy z H.size Ps ws hw.1 p0 sg_10 h_p0 o_p0) (cwV 0 hts (gV tw_1298 tw_1300 ts_40 tw_15 tw_1301) rfl rfl rfl (by decide +kernel) ⟨Nat.le_of_ble_eq_true rfl, Nat.le_of_ble_eq_true rfl⟩) (tg_preV hw hK hSD hA (ci := 10) (q := (RX10, TX10, 49)) rfl h_p0 rfl) rfl rfl hl.1 rfl (lv_room (Nat.le_of_ble_eq_true rfl)) dX10_readNamed_45 ⟨Nat.le_of_ble_eq_true rfl, Nat.le_of_ble_eq_true rfl⟩) hw hA ⟨by decide, by decide⟩ (fun ws H locs hp_v_11 hw hF9 => ?_)
        have m_u_2 := FLD.over hF9 m_u_2 (by decide)
        have n_k_9 := FLD.over hF9 n_k_9 (by decide)
        have x_FD_vu_2_p1_p2_vu_3 := FDD.over hw8 hF9 h_vu_2 x_FD_vu_2_p1_p2_vu_3 (by decide)
        obtain ⟨hfn, hp_v_11⟩ := hp_v_11
        obtain ⟨sg_12, q_sg_12⟩ : ∃ q9 : OS, (f_X10_go__2 sg_10) = q9 := ⟨_, rfl⟩
        have o_p0 : OV vw_M5 Ps ws p0 sg_12 := by rw [← q_sg_12]; exact hfn.1
        refine lv_iconst (v := 1) hx hb dX10_readNamed_48 (by decide) ?_
        simp only [f_X10_readNamed__3, ↓reduceIte, q_v_1, eq_false c_4, q_vu_3, q_v_4, eq_false c9_v_4, q_sg_10, eq_false c_35, q_sg_12] at hE
        subst hQ
        exact W.zret (v := 1) hx hb hr (rfl) (fun t ht hW => ⟨⟨1, ws, rfl, ⟨⟨⟨(by rw [hR, ← hE]; exact o_p0), (by rw [hR, ← hE]), trivial⟩, rl_1.to (by decide), (fun _ => trivial), (fun h0 => ⟨r_p2, ⟨_, n_k_9, r_v_4⟩, trivial⟩)⟩, hw.1, hw.2.2.2.2.1⟩, by rw [ht]; exact hw.2.1, va_K.moved hW.alike hK, hw.2.2.1⟩, hw.2.2.2.1.F ht⟩) hw.2.2.2.1.2.2 dX10_readNamed_49
      · have r_v_4 : RI v_4 0 (-1) := rc_eq1 r_v_4 rl_m1 (ti_eq c_35) (by decide)
        exact (r_v_4.no (by decide)).elim
  · have r_v_1 : RI v_1 0 0 := rc_eq1 r_v_1 rl_0 (ti_eq c_4) (by decide)
    refine lv_aload_n hx hb dX10_readNamed_7 rfl (lv_at hl 0 rfl) ?_
    refine lv_iconst (v := 1) hx hb dX10_readNamed_8 (by decide) ?_
    refine tk_i (va_runV (As := [.int 1]) (rest := []) ⟨hx, hb, hml, hown, hts⟩ (c_X10_bad__3 l D cy z H.size Ps w0 hw.1 p0 1 s0 h_p0 (rl_1.to (by decide)) o_p0) (cwV 1 hts (gV tw_1336 tw_1338 ts_46 tw_15 tw_1339) rfl rfl rfl (by decide +kernel) ⟨Nat.le_of_ble_eq_true rfl, Nat.le_of_ble_eq_true rfl⟩) (tg_preV hw hK hSD hA (ci := 10) (q := (RX10, TX10, 49)) rfl h_p0 rfl) rfl rfl hl.1 rfl (lv_room (Nat.le_of_ble_eq_true rfl)) dX10_readNamed_9 ⟨Nat.le_of_ble_eq_true rfl, Nat.le_of_ble_eq_true rfl⟩) hw hA ⟨by decide, by decide⟩ (fun v_13 ws H locs hp_v_13 hw hF9 => ?_)
    obtain ⟨hfn, hp_v_13⟩ := hp_v_13
    obtain ⟨sg_14, q_sg_14⟩ : ∃ q9 : OS, (f_X10_bad__1 (1 : Int32) s0).1 = q9 := ⟨_, rfl⟩
    have o_p0 : OV vw_M5 Ps ws p0 sg_14 := by rw [← q_sg_14]; exact hfn.1
    have q_v_13 : (f_X10_bad__1 (1 : Int32) s0).2 = v_13 := hfn.2.1
    have r_v_13 : RI v_13 0 0 := hp_v_13.1
    simp only [f_X10_readNamed__3, ↓reduceIte, q_v_1, eq_true c_4, q_sg_14, q_v_13] at hE
    subst hQ
    exact W.zret (v := v_13) hx hb hr (tq_nz (r_v_13.to (by decide))) (fun t ht hW => ⟨⟨v_13, ws, rfl, ⟨⟨⟨(by rw [hR, ← hE]; exact o_p0), (by rw [hR, ← hE]), trivial⟩, r_v_13.to (by decide), (fun h0 => trivial), (fun h0 => absurd (Int32.toInt_inj.mp (by have h8 := r_v_13; unfold RI at h8; rw [Int32.toInt_zero]; omega)) h0)⟩, hw.1, hw.2.2.2.2.1⟩, by rw [ht]; exact hw.2.1, va_K.moved hW.alike hK, hw.2.2.1⟩, hw.2.2.2.1.F ht⟩) hw.2.2.2.1.2.2 dX10_readNamed_12
abbrev wr_X10_readParcelName__1 : List (Nat × Nat) := [(10, 5), (10, 6), (10, 7), (10, 8), (10, 9), (10, 10), (10, 11), (10, 12), (10, 13)]
abbrev wa_X10_readParcelName__1 : List Nat := []
set_option maxHeartbeats 4000000 in
set_option maxRecDepth 100000 in
theorem c_X10_readParcelName__1 (l : Launch) (D : va_G) (cy : Nat → ClassId) (z : Nat → Nat) (sz : Nat) (Ps : PSI) (w0 : va_W) (hT : HT cy GG Ps w0) (p0 : Nat) (s0 : OS) (h_p0 : (p0, 55) ∈ Ps) (o_p0 : OV vw_M5 Ps w0 p0 s0) : Met l yX10_readParcelName (Cond.code yX10_readParcelName cX10_readParcelName 1 (some .boolean) :: gT) ({ frames := 5, cells := 0, slots := 0, locals := 1000 } : Room) (va_Pc [.ref p0] (PRE D cy z w0 sz)) (va_Qi (fun (r : Int32) (u : va_W) => ((OV vw_M5 Ps u p0 ((f_X10_readParcelName__1 s0).1) ∧ (f_X10_readParcelName__1 s0).2 = r ∧ True) ∧ (RI r 0 1 ∧ (r = 0 → True) ∧ (¬ r = 0 → (∃ v9 : Int32, FLD u p0 10 13 (.int v9) ∧ RI v9 0 5) ∧ True))) ∧ HT cy GG Ps u ∧ FR wr_X10_readParcelName__1 wa_X10_readParcelName__1 Ps w0 u) (BB D cy (va_A w0 sz) (fun (u : va_W) => u)) (va_A w0 sz)) 0 0 (va_A w0 sz) := by
  refine Met.ofW (cc := cX10_readParcelName) (maxL := 1) (ret := (some .boolean)) (by decide) rfl ?_
  intro p e s m args below meth c s₁ B hml hv
  obtain ⟨rfl, hsz, hP, hK, hD0, hSD⟩ := hv
  have hx := B.exec
  have hb := B.bytes
  have hr := B.returns
  have hlocks := B.notSynchronized
  have hts : ∀ w ∈ gT, w.before _ s = true := fun w h => atoms_spec (ws := Cond.code yX10_readParcelName cX10_readParcelName 1 (some .boolean) :: gT) B.pre w (List.mem_cons_of_mem _ h)
  have hown : s.vm.findClass RX10 = some m.cls := findClass_of_methodNamed B.named
  subst hsz
  have hD := hD0.self (sz := s.heap.size)
  generalize hAe : va_A w0 s.heap.size = A at hD hSD ⊢
  have hA : ∀ q : Nat, s.heap.size ≤ q → A q := fun q h => by rw [← hAe]; exact Or.inr h
  have hl := lv_entry ([.ref p0]) (n := 1) (Nat.le_of_ble_eq_true rfl)
  rw [lg_entry_eq]
  generalize (lg_sl ([.ref p0]) ++ List.replicate (1 - (lg_sl ([.ref p0])).length) Slot.unset).toArray = ls at hl ⊢
  have hl : lv_has ls 1 [(0, .ref p0)] := hl
  refine nameQ (fun Q hQ => ?_)
  have hw : WD D cy GG A s wr_X10_readParcelName__1 wa_X10_readParcelName__1 Ps w0 Ps w0 s.heap [] := ⟨hT, hP, hD, va_S.rf, FR.rf, hT.1, [], (List.append_nil _).symm⟩
  obtain ⟨R9, hR⟩ : ∃ q9 : OS × Int32, f_X10_readParcelName__1 s0 = q9 := ⟨_, rfl⟩
  have hE := hR
  refine lv_aload_n hx hb dX10_readParcelName_0 rfl (lv_at hl 0 rfl) ?_
  refine lv_bipush (v := 10) hx hb dX10_readParcelName_1 (by decide) ?_
  refine lv_aload_n hx hb dX10_readParcelName_3 rfl (lv_at hl 0 rfl) ?_
  refine tg_get (ci := 10) (ts := ty_MODEL) (C := RX10) (T := TX10) (N := 49) hx hb hts inX10 hown hK hw h_p0 rfl rfl 14 (by decide) (hts _ tw_1151) (fun _ h9 => h9) (ft := vR 34) rfl dX10_readParcelName_4 (fun u_1 hv_u_1 m_u_1 => ?_)
  obtain ⟨vu_1, rfl, h_vu_1⟩ := hv_u_1
  refine lv_iconst (v := 2) hx hb dX10_readParcelName_7 (by decide) ?_
  refine tg_iald (lo := 0) (hi := 6) hx hb hK hw h_vu_1 rfl 2 2 rl_2 (by decide) (by decide +kernel) dX10_readParcelName_8 (fun v_2 r_v_2 m_v_2 o_v_2 => ?_)
  have q_v_2 : s0.2.2.1 14 (Int32.toNatClampNeg (2 : Int32)) = v_2 := OV.eqA (V := vw_M5) (t := 34) hw.2.2.1 o_p0 m_u_1 m_v_2 (by decide)
  have hw8 := hw
  refine tk_i (va_runV (As := [.int 10, .int v_2]) (rest := []) ⟨hx, hb, hml, hown, hts⟩ (c_X10_readNamed__5 l D cy z s.heap.size Ps w0 hw.1 p0 10 v_2 s0 h_p0 rl_10 r_v_2 o_p0) (cwV 2 hts (gV tw_1723 tw_1725 ts_106 tw_15 tw_1726) rfl rfl rfl (by decide +kernel) ⟨Nat.le_of_ble_eq_true rfl, Nat.le_of_ble_eq_true rfl⟩) (tg_preV hw hK hSD hA (ci := 10) (q := (RX10, TX10, 49)) rfl h_p0 rfl) rfl rfl hl.1 rfl (lv_room (Nat.le_of_ble_eq_true rfl)) dX10_readParcelName_9 ⟨Nat.le_of_ble_eq_true rfl, Nat.le_of_ble_eq_true rfl⟩) hw hA ⟨by decide, by decide⟩ (fun v_3 ws H locs hp_v_3 hw hF9 => ?_)
  have m_v_2 := AEL.over hw8 hF9 h_vu_1 m_v_2 (by decide)
  have m_u_1 := FLD.over hF9 m_u_1 (by decide)
  obtain ⟨hfn, hp_v_3⟩ := hp_v_3
  obtain ⟨sg_4, q_sg_4⟩ : ∃ q9 : OS, (f_X10_readNamed__3 (10 : Int32) v_2 s0).1 = q9 := ⟨_, rfl⟩
  have o_p0 : OV vw_M5 Ps ws p0 sg_4 := by rw [← q_sg_4]; exact hfn.1
  have q_v_3 : (f_X10_readNamed__3 (10 : Int32) v_2 s0).2 = v_3 := hfn.2.1
  have r_v_3 : RI v_3 0 1 := hp_v_3.1
  by_cases c9_v_3 : v_3 = 0
  · have r_v_3 : RI v_3 0 0 := by rw [c9_v_3]; exact rl_0
    simp only [f_X10_readParcelName__1, ↓reduceIte, q_v_2, q_sg_4, q_v_3, eq_true c9_v_3] at hE
    subst hQ
    exact W.zret (v := v_3) hx hb hr (tq_nz (r_v_3.to (by decide))) (fun t ht hW => ⟨⟨v_3, ws, rfl, ⟨⟨⟨(by rw [hR, ← hE]; exact o_p0), (by rw [hR, ← hE]), trivial⟩, r_v_3.to (by decide), (fun h0 => trivial), (fun h0 => absurd (Int32.toInt_inj.mp (by have h8 := r_v_3; unfold RI at h8; rw [Int32.toInt_zero]; omega)) h0)⟩, hw.1, hw.2.2.2.2.1⟩, by rw [ht]; exact hw.2.1, va_K.moved hW.alike hK, hw.2.2.1⟩, hw.2.2.2.1.F ht⟩) hw.2.2.2.1.2.2 dX10_readParcelName_12
  · have r_v_3 : RI v_3 1 1 := rc_neL r_v_3 rl_0 (ti_ne c9_v_3) (by decide)
    have r_v_2 : RI v_2 1 6 := ((hp_v_3.2.2 c9_v_3).1)
    obtain ⟨v_5, m_v_5, r_v_5⟩ := ((hp_v_3.2.2 c9_v_3).2.1)
    simp only [f_X10_readParcelName__1, ↓reduceIte, q_v_2, q_sg_4, q_v_3, eq_false c9_v_3] at hE
    subst hQ
    exact W.zret (v := v_3) hx hb hr (tq_nz (r_v_3.to (by decide))) (fun t ht hW => ⟨⟨v_3, ws, rfl, ⟨⟨⟨(by rw [hR, ← hE]; exact o_p0), (by rw [hR, ← hE]), trivial⟩, r_v_3.to (by decide), (fun _ => trivial), (fun h0 => ⟨⟨_, m_v_5, r_v_5⟩, trivial⟩)⟩, hw.1, hw.2.2.2.2.1⟩, by rw [ht]; exact hw.2.1, va_K.moved hW.alike hK, hw.2.2.1⟩, hw.2.2.2.1.F ht⟩) hw.2.2.2.1.2.2 dX10_readParcelName_12
abbrev wr_X10_keep__6 : List (Nat × Nat) := []
abbrev wa_X10_keep__6 : List Nat := []
set_option maxHeartbeats 4000000 in
set_option maxRecDepth 100000 in
theorem c_X10_keep__6 (l : Launch) (D : va_G) (cy : Nat → ClassId) (z : Nat → Nat) (sz : Nat) (Ps : PSI) (w0 : va_W) (hT : HT cy GG Ps w0) (p0 : Nat) (p1 : Int32) (p2 : Int32) (F : (Nat → Int32) → Prop) (F2 : (Nat → Int32) → Prop) (s0 : OS) (h_p0 : (p0, 55) ∈ Ps) (r_p1 : RI p1 2 119) (r_p2 : RI p2 0 0) (x_F : AX 40 52 F Ps w0 p0) (hF : ∀ (f : Nat → Int32) (v : Int32), RI v (-2147483648) 2147483647 → F f → F2 (upd f (Int32.toNatClampNeg p1) v)) (o_p0 : OV vw_M5 Ps w0 p0 s0) : Met l yX10_keep (Cond.code yX10_keep cX10_keep 3 (some .boolean) :: gT) ({ frames := 0, cells := 0, slots := 0, locals := 200 } : Room) (va_Pc [.ref p0, .int p1, .int p2] (PRE D cy z w0 sz)) (va_Qi (fun (r : Int32) (u : Unit) => ((f_X10_keep__6 p1 p2 s0) = r ∧ True) ∧ (RI r 0 0 ∧ (r = 0 → AX 40 52 F Ps w0 p0 ∧ True) ∧ (¬ r = 0 → AX 40 52 F2 Ps w0 p0 ∧ True))) (BB D cy (va_A w0 sz) (fun (u : Unit) => w0)) (va_A w0 sz)) 0 0 (va_A w0 sz) := by
  refine Met.ofW (cc := cX10_keep) (maxL := 3) (ret := (some .boolean)) (by decide) rfl ?_
  intro p e s m args below meth c s₁ B hml hv
  obtain ⟨rfl, hsz, hP, hK, hD0, hSD⟩ := hv
  have hx := B.exec
  have hb := B.bytes
  have hr := B.returns
  have hlocks := B.notSynchronized
  have hts : ∀ w ∈ gT, w.before _ s = true := fun w h => atoms_spec (ws := Cond.code yX10_keep cX10_keep 3 (some .boolean) :: gT) B.pre w (List.mem_cons_of_mem _ h)
  have hown : s.vm.findClass RX10 = some m.cls := findClass_of_methodNamed B.named
  subst hsz
  have hD := hD0.self (sz := s.heap.size)
  generalize hAe : va_A w0 s.heap.size = A at hD hSD ⊢
  have hA : ∀ q : Nat, s.heap.size ≤ q → A q := fun q h => by rw [← hAe]; exact Or.inr h
  have hl := lv_entry ([.ref p0, .int p1, .int p2]) (n := 3) (Nat.le_of_ble_eq_true rfl)
  rw [lg_entry_eq]
  generalize (lg_sl ([.ref p0, .int p1, .int p2]) ++ List.replicate (3 - (lg_sl ([.ref p0, .int p1, .int p2])).length) Slot.unset).toArray = ls at hl ⊢
  have hl : lv_has ls 3 [(0, .ref p0), (1, .int p1), (2, .int p2)] := hl
  refine nameQ (fun Q hQ => ?_)
  have hw : WD D cy GG A s wr_X10_keep__6 wa_X10_keep__6 Ps w0 Ps w0 s.heap [] := ⟨hT, hP, hD, va_S.rf, FR.rf, hT.1, [], (List.append_nil _).symm⟩
  obtain ⟨R9, hR⟩ : ∃ q9 : Int32, f_X10_keep__6 p1 p2 s0 = q9 := ⟨_, rfl⟩
  have hE := hR
  refine lv_iload_n hx hb dX10_keep_0 rfl (lv_at hl 2 rfl) ?_
  refine lv_if_eq (tgt := 14) hx hb dX10_keep_1 (by decide) (fun c_1 => ?_) (fun c_1 => ?_)
  · refine lv_iload_n hx hb dX10_keep_14 rfl (lv_at hl 2 rfl) ?_
    simp only [f_X10_keep__6, ↓reduceIte, eq_true c_1] at hE
    subst hQ
    exact W.zret (v := p2) hx hb hr (tq_nz (r_p2.to (by decide))) (fun t ht hW => ⟨⟨p2, (), rfl, ⟨⟨(by rw [hR, ← hE]), trivial⟩, r_p2.to (by decide), (fun h0 => ⟨x_F, trivial⟩), (fun h0 => absurd (Int32.toInt_inj.mp (by have h8 := r_p2; unfold RI at h8; rw [Int32.toInt_zero]; omega)) h0)⟩, by rw [ht]; exact hw.2.1, va_K.moved hW.alike hK, hw.2.2.1⟩, hw.2.2.2.1.F ht⟩) hw.2.2.2.1.2.2 dX10_keep_15
  · exact absurd (r_p2.eq.trans rl_0.eq.symm) ((ti_ne c_1))
abbrev wr_X10_keep__7 : List (Nat × Nat) := []
abbrev wa_X10_keep__7 : List Nat := [52]
set_option maxHeartbeats 4000000 in
set_option maxRecDepth 100000 in
theorem c_X10_keep__7 (l : Launch) (D : va_G) (cy : Nat → ClassId) (z : Nat → Nat) (sz : Nat) (Ps : PSI) (w0 : va_W) (hT : HT cy GG Ps w0) (p0 : Nat) (p1 : Int32) (p2 : Int32) (f0_13 : Int32) (F : (Nat → Int32) → Prop) (F2 : (Nat → Int32) → Prop) (s0 : OS) (h_p0 : (p0, 55) ∈ Ps) (r_p1 : RI p1 2 119) (r_p2 : RI p2 1 1) (r_f0_13 : RI f0_13 0 5) (m_f0_13 : FLD w0 p0 10 13 (.int f0_13)) (x_F : AX 40 52 F Ps w0 p0) (hF : ∀ (f : Nat → Int32) (v : Int32), RI v 0 5 → F f → F2 (upd f (Int32.toNatClampNeg p1) v)) (o_p0 : OV vw_M5 Ps w0 p0 s0) : Met l yX10_keep (Cond.code yX10_keep cX10_keep 3 (some .boolean) :: gT) ({ frames := 0, cells := 0, slots := 0, locals := 200 } : Room) (va_Pc [.ref p0, .int p1, .int p2] (PRE D cy z w0 sz)) (va_Qi (fun (r : Int32) (u : va_W) => ((OV vw_M5 Ps u p0 ((f_X10_keep__7 p1 p2 s0).1) ∧ (f_X10_keep__7 p1 p2 s0).2 = r ∧ True) ∧ (RI r 1 1 ∧ (r = 0 → AX 40 52 F Ps u p0 ∧ True) ∧ (¬ r = 0 → (∃ v9 : Int32, FLD u p0 10 13 (.int v9) ∧ RI v9 0 5) ∧ AX 40 52 F2 Ps u p0 ∧ True))) ∧ HT cy GG Ps u ∧ FR wr_X10_keep__7 wa_X10_keep__7 Ps w0 u) (BB D cy (va_A w0 sz) (fun (u : va_W) => u)) (va_A w0 sz)) 0 0 (va_A w0 sz) := by
  refine Met.ofW (cc := cX10_keep) (maxL := 3) (ret := (some .boolean)) (by decide) rfl ?_
  intro p e s m args below meth c s₁ B hml hv
  obtain ⟨rfl, hsz, hP, hK, hD0, hSD⟩ := hv
  have hx := B.exec
  have hb := B.bytes
  have hr := B.returns
  have hlocks := B.notSynchronized
  have hts : ∀ w ∈ gT, w.before _ s = true := fun w h => atoms_spec (ws := Cond.code yX10_keep cX10_keep 3 (some .boolean) :: gT) B.pre w (List.mem_cons_of_mem _ h)
  have hown : s.vm.findClass RX10 = some m.cls := findClass_of_methodNamed B.named
  subst hsz
  have hD := hD0.self (sz := s.heap.size)
  generalize hAe : va_A w0 s.heap.size = A at hD hSD ⊢
  have hA : ∀ q : Nat, s.heap.size ≤ q → A q := fun q h => by rw [← hAe]; exact Or.inr h
  have hl := lv_entry ([.ref p0, .int p1, .int p2]) (n := 3) (Nat.le_of_ble_eq_true rfl)
  rw [lg_entry_eq]
  generalize (lg_sl ([.ref p0, .int p1, .int p2]) ++ List.replicate (3 - (lg_sl ([.ref p0, .int p1, .int p2])).length) Slot.unset).toArray = ls at hl ⊢
  have hl : lv_has ls 3 [(0, .ref p0), (1, .int p1), (2, .int p2)] := hl
  refine nameQ (fun Q hQ => ?_)
  have hw : WD D cy GG A s wr_X10_keep__7 wa_X10_keep__7 Ps w0 Ps w0 s.heap [] := ⟨hT, hP, hD, va_S.rf, FR.rf, hT.1, [], (List.append_nil _).symm⟩
  obtain ⟨R9, hR⟩ : ∃ q9 : OS × Int32, f_X10_keep__7 p1 p2 s0 = q9 := ⟨_, rfl⟩
  have hE := hR
  refine lv_iload_n hx hb dX10_keep_0 rfl (lv_at hl 2 rfl) ?_
  refine lv_if_eq (tgt := 14) hx hb dX10_keep_1 (by decide) (fun c_1 => ?_) (fun c_1 => ?_)
  · have r_p2 : RI p2 1 0 := rc_eq1 r_p2 rl_0 (ti_eq c_1) (by decide)
    exact (r_p2.no (by decide)).elim
  · refine lv_aload_n hx hb dX10_keep_4 rfl (lv_at hl 0 rfl) ?_
    refine tg_get (ci := 10) (ts := ty_MODEL) (C := RX10) (T := TX10) (N := 49) hx hb hts inX10 hown hK hw h_p0 rfl rfl 40 (by decide) (hts _ tw_1177) (fun _ h9 => h9) (ft := vR 52) rfl dX10_keep_5 (fun u_1 hv_u_1 m_u_1 => ?_)
    obtain ⟨vu_1, rfl, h_vu_1⟩ := hv_u_1
    refine lv_iload_n hx hb dX10_keep_8 rfl (lv_at hl 1 rfl) ?_
    refine lv_aload_n hx hb dX10_keep_9 rfl (lv_at hl 0 rfl) ?_
    refine tg_mem (ci := 10) (C := RX10) (T := TX10) (N := 49) hx hb hts inX10 hown hK hw 13 m_f0_13 rfl (by decide) (hts _ tw_1150) (fun _ h9 => h9) dX10_keep_10 ?_
    have q_f0_13 : s0.1 13 = f0_13 := OV.eqI (V := vw_M5) hw.2.2.1 o_p0 m_f0_13 (by decide)
    have mo9 := m_u_1
    refine tg_iast hx hb hK hw h_vu_1 rfl 2 119 r_p1 (by decide) r_f0_13 (by exact fun _ _ _ => by decide) (fun _ _ _ _ _ => trivial) (by decide) dX10_keep_13 (fun ws H locs hw hF9 hU9 => ?_)
    have x_GFLB_p0 : AX 40 52 F2 Ps ws p0 := AX.ast hF9 hU9 x_F m_u_1 (fun f9 h9 => hF f9 _ r_f0_13 h9)
    have m_f0_13 := FLD.over hF9 m_f0_13 (by decide)
    have m_u_1 := FLD.over hF9 m_u_1 (by decide)
    obtain ⟨sg_2, q_sg_2⟩ : ∃ q9 : OS, sA s0 40 (Int32.toNatClampNeg p1) f0_13 = q9 := ⟨_, rfl⟩
    have o_p0 : OV vw_M5 Ps ws p0 sg_2 := by rw [← q_sg_2]; exact OV.putA (V := vw_M5) (t := 52) hF9 hU9 o_p0 mo9 (by decide) (by decide)
    refine lv_iload_n hx hb dX10_keep_14 rfl (lv_at hl 2 rfl) ?_
    simp only [f_X10_keep__7, ↓reduceIte, eq_false c_1, q_f0_13, q_sg_2] at hE
    subst hQ
    exact W.zret (v := p2) hx hb hr (tq_nz (r_p2.to (by decide))) (fun t ht hW => ⟨⟨p2, ws, rfl, ⟨⟨⟨(by rw [hR, ← hE]; exact o_p0), (by rw [hR, ← hE]), trivial⟩, r_p2.to (by decide), (fun h0 => absurd (ti_eq h0) (by have h8 := r_p2; unfold RI at h8; rw [Int32.toInt_zero]; omega)), (fun h0 => ⟨⟨_, m_f0_13, r_f0_13⟩, x_GFLB_p0, trivial⟩)⟩, hw.1, hw.2.2.2.2.1⟩, by rw [ht]; exact hw.2.1, va_K.moved hW.alike hK, hw.2.2.1⟩, hw.2.2.2.1.F ht⟩) hw.2.2.2.1.2.2 dX10_keep_15
abbrev wr_X10_readNamed__6 : List (Nat × Nat) := [(10, 5), (10, 6), (10, 7), (10, 8), (10, 9), (10, 10), (10, 11), (10, 12), (10, 13)]
abbrev wa_X10_readNamed__6 : List Nat := []
set_option maxHeartbeats 4000000 in
set_option maxRecDepth 100000 in
theorem c_X10_readNamed__6 (l : Launch) (D : va_G) (cy : Nat → ClassId) (z : Nat → Nat) (sz : Nat) (Ps : PSI) (w0 : va_W) (hT : HT cy GG Ps w0) (p0 : Nat) (p1 : Int32) (p2 : Int32) (s0 : OS) (h_p0 : (p0, 55) ∈ Ps) (r_p1 : RI p1 0 0) (r_p2 : RI p2 0 6) (o_p0 : OV vw_M5 Ps w0 p0 s0) : Met l yX10_readNamed (Cond.code yX10_readNamed cX10_readNamed 3 (some .boolean) :: gT) ({ frames := 4, cells := 0, slots := 0, locals := 800 } : Room) (va_Pc [.ref p0, .int p1, .int p2] (PRE D cy z w0 sz)) (va_Qi (fun (r : Int32) (u : va_W) => ((OV vw_M5 Ps u p0 ((f_X10_readNamed__3 p1 p2 s0).1) ∧ (f_X10_readNamed__3 p1 p2 s0).2 = r ∧ True) ∧ (RI r 0 1 ∧ (r = 0 → True) ∧ (¬ r = 0 → RI p2 1 6 ∧ (∃ v9 : Int32, FLD u p0 10 13 (.int v9) ∧ RI v9 0 5) ∧ True))) ∧ HT cy GG Ps u ∧ FR wr_X10_readNamed__6 wa_X10_readNamed__6 Ps w0 u) (BB D cy (va_A w0 sz) (fun (u : va_W) => u)) (va_A w0 sz)) 0 0 (va_A w0 sz) := by
  refine Met.ofW (cc := cX10_readNamed) (maxL := 3) (ret := (some .boolean)) (by decide) rfl ?_
  intro p e s m args below meth c s₁ B hml hv
  obtain ⟨rfl, hsz, hP, hK, hD0, hSD⟩ := hv
  have hx := B.exec
  have hb := B.bytes
  have hr := B.returns
  have hlocks := B.notSynchronized
  have hts : ∀ w ∈ gT, w.before _ s = true := fun w h => atoms_spec (ws := Cond.code yX10_readNamed cX10_readNamed 3 (some .boolean) :: gT) B.pre w (List.mem_cons_of_mem _ h)
  have hown : s.vm.findClass RX10 = some m.cls := findClass_of_methodNamed B.named
  subst hsz
  have hD := hD0.self (sz := s.heap.size)
  generalize hAe : va_A w0 s.heap.size = A at hD hSD ⊢
  have hA : ∀ q : Nat, s.heap.size ≤ q → A q := fun q h => by rw [← hAe]; exact Or.inr h
  have hl := lv_entry ([.ref p0, .int p1, .int p2]) (n := 3) (Nat.le_of_ble_eq_true rfl)
  rw [lg_entry_eq]
  generalize (lg_sl ([.ref p0, .int p1, .int p2]) ++ List.replicate (3 - (lg_sl ([.ref p0, .int p1, .int p2])).length) Slot.unset).toArray = ls at hl ⊢
  have hl : lv_has ls 3 [(0, .ref p0), (1, .int p1), (2, .int p2)] := hl
  refine nameQ (fun Q hQ => ?_)
  have hw : WD D cy GG A s wr_X10_readNamed__6 wa_X10_readNamed__6 Ps w0 Ps w0 s.heap [] := ⟨hT, hP, hD, va_S.rf, FR.rf, hT.1, [], (List.append_nil _).symm⟩
  obtain ⟨R9, hR⟩ : ∃ q9 : OS × Int32, f_X10_readNamed__3 p1 p2 s0 = q9 := ⟨_, rfl⟩
  have hE := hR
  refine lv_aload_n hx hb dX10_readNamed_0 rfl (lv_at hl 0 rfl) ?_
  refine tk_ir (va_runV (As := []) (rest := []) ⟨hx, hb, hml, hown, hts⟩ (c_X10_isName__3 l D cy z s.heap.size Ps w0 hw.1 p0 s0 h_p0 o_p0) (cwV 0 hts (gV tw_1344 tw_1346 ts_48 tw_15 tw_1347) rfl rfl rfl (by decide +kernel) ⟨Nat.le_of_ble_eq_true rfl, Nat.le_of_ble_eq_true rfl⟩) (tg_preV hw hK hSD hA (ci := 10) (q := (RX10, TX10, 49)) rfl h_p0 rfl) rfl rfl hl.1 rfl (lv_room (Nat.le_of_ble_eq_true rfl)) dX10_readNamed_1 ⟨Nat.le_of_ble_eq_true rfl, Nat.le_of_ble_eq_true rfl⟩) hw hA (fun v_1  H locs hp_v_1 hw => ?_)
  obtain ⟨hfn, hp_v_1⟩ := hp_v_1
  have q_v_1 : (f_X10_isName__1 s0) = v_1 := hfn.1
  have r_v_1 : RI v_1 0 1 := hp_v_1.1
  refine lv_if_ne (tgt := 13) hx hb dX10_readNamed_4 (by decide) (fun c_4 => ?_) (fun c_4 => ?_)
  · have r_v_1 : RI v_1 1 1 := rc_neL r_v_1 rl_0 (ti_ne c_4) (by decide)
    refine lv_aload_n hx hb dX10_readNamed_13 rfl (lv_at hl 0 rfl) ?_
    refine lv_aload_n hx hb dX10_readNamed_14 rfl (lv_at hl 0 rfl) ?_
    refine tg_get (ci := 10) (ts := ty_MODEL) (C := RX10) (T := TX10) (N := 49) hx hb hts inX10 hown hK hw h_p0 rfl rfl 20 (by decide) (hts _ tw_1157) (fun _ h9 => h9) (ft := vR 41) rfl dX10_readNamed_15 (fun u_2 hv_u_2 m_u_2 => ?_)
    obtain ⟨vu_2, rfl, h_vu_2⟩ := hv_u_2
    refine lv_iload_n hx hb dX10_readNamed_18 rfl (lv_at hl 1 rfl) ?_
    refine lv_iload_n hx hb dX10_readNamed_19 rfl (lv_at hl 2 rfl) ?_
    refine lv_aload_n hx hb dX10_readNamed_20 rfl (lv_at hl 0 rfl) ?_
    refine tg_get (ci := 10) (ts := ty_MODEL) (C := RX10) (T := TX10) (N := 49) hx hb hts inX10 hown hK hw h_p0 rfl rfl 12 (by decide) (hts _ tw_1149) (fun _ h9 => h9) (ft := vJ (-9223372036854775808) 9223372036854775807) rfl dX10_readNamed_21 (fun u_3 hv_u_3 m_u_3 => ?_)
    obtain ⟨vu_3, rfl, r_vu_3⟩ := hv_u_3
    have q_vu_3 : s0.2.1 12 = vu_3 := OV.eqL (V := vw_M5) hw.2.2.1 o_p0 m_u_3 (by decide)
    have oa_vu_2 := OV.arrB (V := vw_M5) (t := 41) hw.2.2.1 o_p0 m_u_2 (by decide)
    have mo9_vu_2 := And.intro hw.2.2.1 m_u_2
    refine tk_ir (va_runS (As := [.ref vu_2, .int p1, .int p2, .long vu_3]) (rest := [.ref p0]) ⟨hx, hb, hml, hown, hts⟩ (c_X10_findIn__14 l D cy z H.size Ps w0 hw.1 vu_2 p1 p2 vu_3 (s0.2.2.2 20) h_vu_2 r_p1 r_p2 r_vu_3 oa_vu_2) (va_cwS 4 hts (gS tw_1352 tw_1353 tw_15 tw_1354) rfl rfl rfl (by decide +kernel) ⟨Nat.le_of_ble_eq_true rfl, Nat.le_of_ble_eq_true rfl⟩) (tg_preS hw hK hSD hA) rfl rfl hl.1 rfl (lv_room (Nat.le_of_ble_eq_true rfl)) dX10_readNamed_24 ⟨Nat.le_of_ble_eq_true rfl, Nat.le_of_ble_eq_true rfl⟩) hw hA (fun v_4  H locs hp_v_4 hw => ?_)
    obtain ⟨hfn, hp_v_4⟩ := hp_v_4
    have q_v_4 : (f_X10_findIn__9 p1 p2 vu_3 (s0.2.2.2 20)) = v_4 := hfn.1
    have r_v_4 : RI v_4 (-1) 5 := hp_v_4.1
    by_cases c9_v_4 : v_4.toInt < 0
    · have r_v_4 : RI v_4 (-1) (-1) := by unfold RI at r_v_4 ⊢; omega
      have x_NF_vu_2_p1_p2_vu_3 := (hp_v_4.2.2.2.2.1 (by omega)).1
      have hw8 := hw
      refine tg_put (ci := 10) (ts := ty_MODEL) (v := .int v_4) (ty := .int) (C := RX10) (T := TX10) (N := 49) hx hb hts inX10 tyX10 tyX10_ok nmX10 hown hK hw h_p0 rfl rfl 13 (by decide) (hts _ tw_1150) (fun _ h9 => h9) rfl (by decide +kernel) rfl rfl (ft := vI (-2147483648) 2147483647) rfl ⟨_, rfl, (r_v_4.to (by decide))⟩ (by decide) dX10_readNamed_27 (fun ws H locs hw n_k_5 hF9 => ?_)
      have m_u_2 := FLD.over hF9 m_u_2 (by decide)
      have m_u_3 := FLD.over hF9 m_u_3 (by decide)
      have x_NF_vu_2_p1_p2_vu_3 := NFD.over hw8 hF9 h_vu_2 x_NF_vu_2_p1_p2_vu_3 (by decide)
      obtain ⟨sg_6, q_sg_6⟩ : ∃ q9 : OS, sI s0 13 v_4 = q9 := ⟨_, rfl⟩
      have o_p0 : OV vw_M5 Ps ws p0 sg_6 := by rw [← q_sg_6]; exact OV.putI (V := vw_M5) hF9 n_k_5 o_p0 (by decide)
      refine lv_aload_n hx hb dX10_readNamed_30 rfl (lv_at hl 0 rfl) ?_
      refine tg_mem (ci := 10) (C := RX10) (T := TX10) (N := 49) hx hb hts inX10 hown hK hw 13 n_k_5 rfl (by decide) (hts _ tw_1150) (fun _ h9 => h9) dX10_readNamed_31 ?_
      refine lv_iconst (v := (-1)) hx hb dX10_readNamed_34 (by decide) ?_
      refine lv_icmp_ne (tgt := 44) hx hb dX10_readNamed_35 (by decide) (fun c_35 => ?_) (fun c_35 => ?_)
      · exact absurd (r_v_4.eq.trans rl_m1.eq.symm) ((ti_ne c_35))
      · refine lv_aload_n hx hb dX10_readNamed_38 rfl (lv_at hl 0 rfl) ?_
        refine lv_iconst (v := 3) hx hb dX10_readNamed_39 (by decide) ?_
        have hw8 := hw
        refine tk_i (va_runV (As := [.int 3]) (rest := []) ⟨hx, hb, hml, hown, hts⟩ (c_X10_bad__3 l D cy z H.size Ps ws hw.1 p0 3 sg_6 h_p0 (rl_3.to (by decide)) o_p0) (cwV 1 hts (gV tw_1336 tw_1338 ts_46 tw_15 tw_1339) rfl rfl rfl (by decide +kernel) ⟨Nat.le_of_ble_eq_true rfl, Nat.le_of_ble_eq_true rfl⟩) (tg_preV hw hK hSD hA (ci := 10) (q := (RX10, TX10, 49)) rfl h_p0 rfl) rfl rfl hl.1 rfl (lv_room (Nat.le_of_ble_eq_true rfl)) dX10_readNamed_40 ⟨Nat.le_of_ble_eq_true rfl, Nat.le_of_ble_eq_true rfl⟩) hw hA ⟨by decide, by decide⟩ (fun v_7 ws H locs hp_v_7 hw hF9 => ?_)
        have m_u_2 := FLD.over hF9 m_u_2 (by decide)
        have m_u_3 := FLD.over hF9 m_u_3 (by decide)
        have n_k_5 := FLD.over hF9 n_k_5 (by decide)
        have x_NF_vu_2_p1_p2_vu_3 := NFD.over hw8 hF9 h_vu_2 x_NF_vu_2_p1_p2_vu_3 (by decide)
        obtain ⟨hfn, hp_v_7⟩ := hp_v_7
        obtain ⟨sg_8, q_sg_8⟩ : ∃ q9 : OS, (f_X10_bad__1 (3 : Int32) sg_6).1 = q9 := ⟨_, rfl⟩
        have o_p0 : OV vw_M5 Ps ws p0 sg_8 := by rw [← q_sg_8]; exact hfn.1
        have q_v_7 : (f_X10_bad__1 (3 : Int32) sg_6).2 = v_7 := hfn.2.1
        have r_v_7 : RI v_7 0 0 := hp_v_7.1
        simp only [f_X10_readNamed__3, ↓reduceIte, q_v_1, eq_false c_4, q_vu_3, q_v_4, eq_true c9_v_4, q_sg_6, eq_true c_35, q_sg_8, q_v_7] at hE
        subst hQ
        exact W.zret (v := v_7) hx hb hr (tq_nz (r_v_7.to (by decide))) (fun t ht hW => ⟨⟨v_7, ws, rfl, ⟨⟨⟨(by rw [hR, ← hE]; exact o_p0), (by rw [hR, ← hE]), trivial⟩, r_v_7.to (by decide), (fun h0 => trivial), (fun h0 => absurd (Int32.toInt_inj.mp (by have h8 := r_v_7; unfold RI at h8; rw [Int32.toInt_zero]; omega)) h0)⟩, hw.1, hw.2.2.2.2.1⟩, by rw [ht]; exact hw.2.1, va_K.moved hW.alike hK, hw.2.2.1⟩, hw.2.2.2.1.F ht⟩) hw.2.2.2.1.2.2 dX10_readNamed_43
    · have r_v_4 : RI v_4 0 5 := by unfold RI at r_v_4 ⊢; omega
      have x_FD_vu_2_p1_p2_vu_3 := (hp_v_4.2.2.2.2.2 (by omega)).1
      have x_POS_p2 := (hp_v_4.2.2.2.2.2 (by omega)).2.1
      have r_p2 : RI p2 1 6 := ⟨x_POS_p2, r_p2.2⟩
      have hw8 := hw
      refine tg_put (ci := 10) (ts := ty_MODEL) (v := .int v_4) (ty := .int) (C := RX10) (T := TX10) (N := 49) hx hb hts inX10 tyX10 tyX10_ok nmX10 hown hK hw h_p0 rfl rfl 13 (by decide) (hts _ tw_1150) (fun _ h9 => h9) rfl (by decide +kernel) rfl rfl (ft := vI (-2147483648) 2147483647) rfl ⟨_, rfl, (r_v_4.to (by decide))⟩ (by decide) dX10_readNamed_27 (fun ws H locs hw n_k_9 hF9 => ?_)
      have m_u_2 := FLD.over hF9 m_u_2 (by decide)
      have m_u_3 := FLD.over hF9 m_u_3 (by decide)
      have x_FD_vu_2_p1_p2_vu_3 := FDD.over hw8 hF9 h_vu_2 x_FD_vu_2_p1_p2_vu_3 (by decide)
      obtain ⟨sg_10, q_sg_10⟩ : ∃ q9 : OS, sI s0 13 v_4 = q9 := ⟨_, rfl⟩
      have o_p0 : OV vw_M5 Ps ws p0 sg_10 := by rw [← q_sg_10]; exact OV.putI (V := vw_M5) hF9 n_k_9 o_p0 (by decide)
      refine lv_aload_n hx hb dX10_readNamed_30 rfl (lv_at hl 0 rfl) ?_
      refine tg_mem (ci := 10) (C := RX10) (T := TX10) (N := 49) hx hb hts inX10 hown hK hw 13 n_k_9 rfl (by decide) (hts _ tw_1150) (fun _ h9 => h9) dX10_readNamed_31 ?_
      refine lv_iconst (v := (-1)) hx hb dX10_readNamed_34 (by decide) ?_
      refine lv_icmp_ne (tgt := 44) hx hb dX10_readNamed_35 (by decide) (fun c_35 => ?_) (fun c_35 => ?_)
      · refine lv_aload_n hx hb dX10_readNamed_44 rfl (lv_at hl 0 rfl) ?_
        have hw8 := hw
        refine tk_v (va_runV (As := []) (rest := []) ⟨hx, hb, hml, hown, hts⟩ (c_X10_go__5 l D cy z H.size Ps ws hw.1 p0 sg_10 h_p0 o_p0) (cwV 0 hts (gV tw_1298 tw_1300 ts_40 tw_15 tw_1301) rfl rfl rfl (by decide +kernel) ⟨Nat.le_of_ble_eq_true rfl, Nat.le_of_ble_eq_true rfl⟩) (tg_preV hw hK hSD hA (ci := 10) (q := (RX10, TX10, 49)) rfl h_p0 rfl) rfl rfl hl.1 rfl (lv_room (Nat.le_of_ble_eq_true rfl)) dX10_readNamed_45 ⟨Nat.le_of_ble_eq_true rfl, Nat.le_of_ble_eq_true rfl⟩) hw hA ⟨by decide, by decide⟩ (fun ws H locs hp_v_11 hw hF9 => ?_)
        have m_u_2 := FLD.over hF9 m_u_2 (by decide)
        have n_k_9 := FLD.over hF9 n_k_9 (by decide)
        have x_FD_vu_2_p1_p2_vu_3 := FDD.over hw8 hF9 h_vu_2 x_FD_vu_2_p1_p2_vu_3 (by decide)
        obtain ⟨hfn, hp_v_11⟩ := hp_v_11
        obtain ⟨sg_12, q_sg_12⟩ : ∃ q9 : OS, (f_X10_go__2 sg_10) = q9 := ⟨_, rfl⟩
        have o_p0 : OV vw_M5 Ps ws p0 sg_12 := by rw [← q_sg_12]; exact hfn.1
        refine lv_iconst (v := 1) hx hb dX10_readNamed_48 (by decide) ?_
        simp only [f_X10_readNamed__3, ↓reduceIte, q_v_1, eq_false c_4, q_vu_3, q_v_4, eq_false c9_v_4, q_sg_10, eq_false c_35, q_sg_12] at hE
        subst hQ
        exact W.zret (v := 1) hx hb hr (rfl) (fun t ht hW => ⟨⟨1, ws, rfl, ⟨⟨⟨(by rw [hR, ← hE]; exact o_p0), (by rw [hR, ← hE]), trivial⟩, rl_1.to (by decide), (fun _ => trivial), (fun h0 => ⟨r_p2, ⟨_, n_k_9, r_v_4⟩, trivial⟩)⟩, hw.1, hw.2.2.2.2.1⟩, by rw [ht]; exact hw.2.1, va_K.moved hW.alike hK, hw.2.2.1⟩, hw.2.2.2.1.F ht⟩) hw.2.2.2.1.2.2 dX10_readNamed_49
      · have r_v_4 : RI v_4 0 (-1) := rc_eq1 r_v_4 rl_m1 (ti_eq c_35) (by decide)
        exact (r_v_4.no (by decide)).elim
  · have r_v_1 : RI v_1 0 0 := rc_eq1 r_v_1 rl_0 (ti_eq c_4) (by decide)
    refine lv_aload_n hx hb dX10_readNamed_7 rfl (lv_at hl 0 rfl) ?_
    refine lv_iconst (v := 1) hx hb dX10_readNamed_8 (by decide) ?_
    refine tk_i (va_runV (As := [.int 1]) (rest := []) ⟨hx, hb, hml, hown, hts⟩ (c_X10_bad__3 l D cy z H.size Ps w0 hw.1 p0 1 s0 h_p0 (rl_1.to (by decide)) o_p0) (cwV 1 hts (gV tw_1336 tw_1338 ts_46 tw_15 tw_1339) rfl rfl rfl (by decide +kernel) ⟨Nat.le_of_ble_eq_true rfl, Nat.le_of_ble_eq_true rfl⟩) (tg_preV hw hK hSD hA (ci := 10) (q := (RX10, TX10, 49)) rfl h_p0 rfl) rfl rfl hl.1 rfl (lv_room (Nat.le_of_ble_eq_true rfl)) dX10_readNamed_9 ⟨Nat.le_of_ble_eq_true rfl, Nat.le_of_ble_eq_true rfl⟩) hw hA ⟨by decide, by decide⟩ (fun v_13 ws H locs hp_v_13 hw hF9 => ?_)
    obtain ⟨hfn, hp_v_13⟩ := hp_v_13
    obtain ⟨sg_14, q_sg_14⟩ : ∃ q9 : OS, (f_X10_bad__1 (1 : Int32) s0).1 = q9 := ⟨_, rfl⟩
    have o_p0 : OV vw_M5 Ps ws p0 sg_14 := by rw [← q_sg_14]; exact hfn.1
    have q_v_13 : (f_X10_bad__1 (1 : Int32) s0).2 = v_13 := hfn.2.1
    have r_v_13 : RI v_13 0 0 := hp_v_13.1
    simp only [f_X10_readNamed__3, ↓reduceIte, q_v_1, eq_true c_4, q_sg_14, q_v_13] at hE
    subst hQ
    exact W.zret (v := v_13) hx hb hr (tq_nz (r_v_13.to (by decide))) (fun t ht hW => ⟨⟨v_13, ws, rfl, ⟨⟨⟨(by rw [hR, ← hE]; exact o_p0), (by rw [hR, ← hE]), trivial⟩, r_v_13.to (by decide), (fun h0 => trivial), (fun h0 => absurd (Int32.toInt_inj.mp (by have h8 := r_v_13; unfold RI at h8; rw [Int32.toInt_zero]; omega)) h0)⟩, hw.1, hw.2.2.2.2.1⟩, by rw [ht]; exact hw.2.1, va_K.moved hW.alike hK, hw.2.2.1⟩, hw.2.2.2.1.F ht⟩) hw.2.2.2.1.2.2 dX10_readNamed_12
abbrev wr_X10_readIdeaName__1 : List (Nat × Nat) := [(10, 5), (10, 6), (10, 7), (10, 8), (10, 9), (10, 10), (10, 11), (10, 12), (10, 13)]
abbrev wa_X10_readIdeaName__1 : List Nat := []
set_option maxHeartbeats 4000000 in
set_option maxRecDepth 100000 in
theorem c_X10_readIdeaName__1 (l : Launch) (D : va_G) (cy : Nat → ClassId) (z : Nat → Nat) (sz : Nat) (Ps : PSI) (w0 : va_W) (hT : HT cy GG Ps w0) (p0 : Nat) (s0 : OS) (h_p0 : (p0, 55) ∈ Ps) (o_p0 : OV vw_M5 Ps w0 p0 s0) : Met l yX10_readIdeaName (Cond.code yX10_readIdeaName cX10_readIdeaName 1 (some .boolean) :: gT) ({ frames := 5, cells := 0, slots := 0, locals := 1000 } : Room) (va_Pc [.ref p0] (PRE D cy z w0 sz)) (va_Qi (fun (r : Int32) (u : va_W) => ((OV vw_M5 Ps u p0 ((f_X10_readIdeaName__1 s0).1) ∧ (f_X10_readIdeaName__1 s0).2 = r ∧ True) ∧ (RI r 0 1 ∧ (r = 0 → True) ∧ (¬ r = 0 → (∃ v9 : Int32, FLD u p0 10 13 (.int v9) ∧ RI v9 0 5) ∧ True))) ∧ HT cy GG Ps u ∧ FR wr_X10_readIdeaName__1 wa_X10_readIdeaName__1 Ps w0 u) (BB D cy (va_A w0 sz) (fun (u : va_W) => u)) (va_A w0 sz)) 0 0 (va_A w0 sz) := by
  refine Met.ofW (cc := cX10_readIdeaName) (maxL := 1) (ret := (some .boolean)) (by decide) rfl ?_
  intro p e s m args below meth c s₁ B hml hv
  obtain ⟨rfl, hsz, hP, hK, hD0, hSD⟩ := hv
  have hx := B.exec
  have hb := B.bytes
  have hr := B.returns
  have hlocks := B.notSynchronized
  have hts : ∀ w ∈ gT, w.before _ s = true := fun w h => atoms_spec (ws := Cond.code yX10_readIdeaName cX10_readIdeaName 1 (some .boolean) :: gT) B.pre w (List.mem_cons_of_mem _ h)
  have hown : s.vm.findClass RX10 = some m.cls := findClass_of_methodNamed B.named
  subst hsz
  have hD := hD0.self (sz := s.heap.size)
  generalize hAe : va_A w0 s.heap.size = A at hD hSD ⊢
  have hA : ∀ q : Nat, s.heap.size ≤ q → A q := fun q h => by rw [← hAe]; exact Or.inr h
  have hl := lv_entry ([.ref p0]) (n := 1) (Nat.le_of_ble_eq_true rfl)
  rw [lg_entry_eq]
  generalize (lg_sl ([.ref p0]) ++ List.replicate (1 - (lg_sl ([.ref p0])).length) Slot.unset).toArray = ls at hl ⊢
  have hl : lv_has ls 1 [(0, .ref p0)] := hl
  refine nameQ (fun Q hQ => ?_)
  have hw : WD D cy GG A s wr_X10_readIdeaName__1 wa_X10_readIdeaName__1 Ps w0 Ps w0 s.heap [] := ⟨hT, hP, hD, va_S.rf, FR.rf, hT.1, [], (List.append_nil _).symm⟩
  obtain ⟨R9, hR⟩ : ∃ q9 : OS × Int32, f_X10_readIdeaName__1 s0 = q9 := ⟨_, rfl⟩
  have hE := hR
  refine lv_aload_n hx hb dX10_readIdeaName_0 rfl (lv_at hl 0 rfl) ?_
  refine lv_iconst (v := 0) hx hb dX10_readIdeaName_1 (by decide) ?_
  refine lv_aload_n hx hb dX10_readIdeaName_2 rfl (lv_at hl 0 rfl) ?_
  refine tg_get (ci := 10) (ts := ty_MODEL) (C := RX10) (T := TX10) (N := 49) hx hb hts inX10 hown hK hw h_p0 rfl rfl 14 (by decide) (hts _ tw_1151) (fun _ h9 => h9) (ft := vR 34) rfl dX10_readIdeaName_3 (fun u_1 hv_u_1 m_u_1 => ?_)
  obtain ⟨vu_1, rfl, h_vu_1⟩ := hv_u_1
  refine lv_iconst (v := 0) hx hb dX10_readIdeaName_6 (by decide) ?_
  refine tg_iald (lo := 0) (hi := 6) hx hb hK hw h_vu_1 rfl 0 0 rl_0 (by decide) (by decide +kernel) dX10_readIdeaName_7 (fun v_2 r_v_2 m_v_2 o_v_2 => ?_)
  have q_v_2 : s0.2.2.1 14 (Int32.toNatClampNeg (0 : Int32)) = v_2 := OV.eqA (V := vw_M5) (t := 34) hw.2.2.1 o_p0 m_u_1 m_v_2 (by decide)
  have hw8 := hw
  refine tk_i (va_runV (As := [.int 0, .int v_2]) (rest := []) ⟨hx, hb, hml, hown, hts⟩ (c_X10_readNamed__6 l D cy z s.heap.size Ps w0 hw.1 p0 0 v_2 s0 h_p0 rl_0 r_v_2 o_p0) (cwV 2 hts (gV tw_1723 tw_1725 ts_106 tw_15 tw_1726) rfl rfl rfl (by decide +kernel) ⟨Nat.le_of_ble_eq_true rfl, Nat.le_of_ble_eq_true rfl⟩) (tg_preV hw hK hSD hA (ci := 10) (q := (RX10, TX10, 49)) rfl h_p0 rfl) rfl rfl hl.1 rfl (lv_room (Nat.le_of_ble_eq_true rfl)) dX10_readIdeaName_8 ⟨Nat.le_of_ble_eq_true rfl, Nat.le_of_ble_eq_true rfl⟩) hw hA ⟨by decide, by decide⟩ (fun v_3 ws H locs hp_v_3 hw hF9 => ?_)
  have m_v_2 := AEL.over hw8 hF9 h_vu_1 m_v_2 (by decide)
  have m_u_1 := FLD.over hF9 m_u_1 (by decide)
  obtain ⟨hfn, hp_v_3⟩ := hp_v_3
  obtain ⟨sg_4, q_sg_4⟩ : ∃ q9 : OS, (f_X10_readNamed__3 (0 : Int32) v_2 s0).1 = q9 := ⟨_, rfl⟩
  have o_p0 : OV vw_M5 Ps ws p0 sg_4 := by rw [← q_sg_4]; exact hfn.1
  have q_v_3 : (f_X10_readNamed__3 (0 : Int32) v_2 s0).2 = v_3 := hfn.2.1
  have r_v_3 : RI v_3 0 1 := hp_v_3.1
  by_cases c9_v_3 : v_3 = 0
  · have r_v_3 : RI v_3 0 0 := by rw [c9_v_3]; exact rl_0
    simp only [f_X10_readIdeaName__1, ↓reduceIte, q_v_2, q_sg_4, q_v_3, eq_true c9_v_3] at hE
    subst hQ
    exact W.zret (v := v_3) hx hb hr (tq_nz (r_v_3.to (by decide))) (fun t ht hW => ⟨⟨v_3, ws, rfl, ⟨⟨⟨(by rw [hR, ← hE]; exact o_p0), (by rw [hR, ← hE]), trivial⟩, r_v_3.to (by decide), (fun h0 => trivial), (fun h0 => absurd (Int32.toInt_inj.mp (by have h8 := r_v_3; unfold RI at h8; rw [Int32.toInt_zero]; omega)) h0)⟩, hw.1, hw.2.2.2.2.1⟩, by rw [ht]; exact hw.2.1, va_K.moved hW.alike hK, hw.2.2.1⟩, hw.2.2.2.1.F ht⟩) hw.2.2.2.1.2.2 dX10_readIdeaName_11
  · have r_v_3 : RI v_3 1 1 := rc_neL r_v_3 rl_0 (ti_ne c9_v_3) (by decide)
    have r_v_2 : RI v_2 1 6 := ((hp_v_3.2.2 c9_v_3).1)
    obtain ⟨v_5, m_v_5, r_v_5⟩ := ((hp_v_3.2.2 c9_v_3).2.1)
    simp only [f_X10_readIdeaName__1, ↓reduceIte, q_v_2, q_sg_4, q_v_3, eq_false c9_v_3] at hE
    subst hQ
    exact W.zret (v := v_3) hx hb hr (tq_nz (r_v_3.to (by decide))) (fun t ht hW => ⟨⟨v_3, ws, rfl, ⟨⟨⟨(by rw [hR, ← hE]; exact o_p0), (by rw [hR, ← hE]), trivial⟩, r_v_3.to (by decide), (fun _ => trivial), (fun h0 => ⟨⟨_, m_v_5, r_v_5⟩, trivial⟩)⟩, hw.1, hw.2.2.2.2.1⟩, by rw [ht]; exact hw.2.1, va_K.moved hW.alike hK, hw.2.2.1⟩, hw.2.2.2.1.F ht⟩) hw.2.2.2.1.2.2 dX10_readIdeaName_11
abbrev wr_X10_readDoes__1 : List (Nat × Nat) := [(10, 5), (10, 6), (10, 7), (10, 8), (10, 9), (10, 10), (10, 11), (10, 12), (10, 13)]
abbrev wa_X10_readDoes__1 : List Nat := [52]
set_option maxHeartbeats 4000000 in
set_option maxRecDepth 100000 in
theorem c_X10_readDoes__1 (l : Launch) (D : va_G) (cy : Nat → ClassId) (z : Nat → Nat) (sz : Nat) (Ps : PSI) (w0 : va_W) (hT : HT cy GG Ps w0) (p0 : Nat) (p1 : Int32) (s0 : OS) (h_p0 : (p0, 55) ∈ Ps) (r_p1 : RI p1 0 117) (x_OL_p0_p1 : AX 40 52 (fun f => OLp f p1) Ps w0 p0) (x_LE_p0_p1_1_0_7 : AX 40 52 (fun f => 0 ≤ (f (Int32.toNatClampNeg p1 + 1)).toInt ∧ (f (Int32.toNatClampNeg p1 + 1)).toInt ≤ 7) Ps w0 p0) (x_LE_p0_p1_2_0_0 : AX 40 52 (fun f => 0 ≤ (f (Int32.toNatClampNeg p1 + 2)).toInt ∧ (f (Int32.toNatClampNeg p1 + 2)).toInt ≤ 0) Ps w0 p0) (x_MUL3_p1 : (∃ n : Int, Int32.toInt p1 = 3 * n)) (o_p0 : OV vw_M5 Ps w0 p0 s0) : Met l yX10_readDoes (Cond.code yX10_readDoes cX10_readDoes 3 (some .boolean) :: gT) ({ frames := 6, cells := 0, slots := 0, locals := 1200 } : Room) (va_Pc [.ref p0, .int p1] (PRE D cy z w0 sz)) (va_Qi (fun (r : Int32) (u : va_W) => ((OV vw_M5 Ps u p0 ((f_X10_readDoes__1 p1 s0).1) ∧ (f_X10_readDoes__1 p1 s0).2 = r ∧ True) ∧ (RI r 0 1 ∧ (r = 0 → True) ∧ (¬ r = 0 → AX 40 52 (fun f => OLp f p1) Ps u p0 ∧ AX 40 52 (fun f => GLk f (Int32.toNatClampNeg p1)) Ps u p0 ∧ True))) ∧ HT cy GG Ps u ∧ FR wr_X10_readDoes__1 wa_X10_readDoes__1 Ps w0 u) (BB D cy (va_A w0 sz) (fun (u : va_W) => u)) (va_A w0 sz)) 0 0 (va_A w0 sz) := by
  refine Met.ofW (cc := cX10_readDoes) (maxL := 3) (ret := (some .boolean)) (by decide) rfl ?_
  intro p e s m args below meth c s₁ B hml hv
  obtain ⟨rfl, hsz, hP, hK, hD0, hSD⟩ := hv
  have hx := B.exec
  have hb := B.bytes
  have hr := B.returns
  have hlocks := B.notSynchronized
  have hts : ∀ w ∈ gT, w.before _ s = true := fun w h => atoms_spec (ws := Cond.code yX10_readDoes cX10_readDoes 3 (some .boolean) :: gT) B.pre w (List.mem_cons_of_mem _ h)
  have hown : s.vm.findClass RX10 = some m.cls := findClass_of_methodNamed B.named
  subst hsz
  have hD := hD0.self (sz := s.heap.size)
  generalize hAe : va_A w0 s.heap.size = A at hD hSD ⊢
  have hA : ∀ q : Nat, s.heap.size ≤ q → A q := fun q h => by rw [← hAe]; exact Or.inr h
  have hl := lv_entry ([.ref p0, .int p1]) (n := 3) (Nat.le_of_ble_eq_true rfl)
  rw [lg_entry_eq]
  generalize (lg_sl ([.ref p0, .int p1]) ++ List.replicate (3 - (lg_sl ([.ref p0, .int p1])).length) Slot.unset).toArray = ls at hl ⊢
  have hl : lv_has ls 3 [(0, .ref p0), (1, .int p1)] := hl
  refine nameQ (fun Q hQ => ?_)
  have hw : WD D cy GG A s wr_X10_readDoes__1 wa_X10_readDoes__1 Ps w0 Ps w0 s.heap [] := ⟨hT, hP, hD, va_S.rf, FR.rf, hT.1, [], (List.append_nil _).symm⟩
  obtain ⟨R9, hR⟩ : ∃ q9 : OS × Int32, f_X10_readDoes__1 p1 s0 = q9 := ⟨_, rfl⟩
  have hE := hR
  have B3 : ∀ (nf : Nat) (x2 : Int32) (s0 : OS) (ws : va_W) (H : Heap) (locs : List Loc) (ls : Array Slot), 13 - x2.toInt < (nf : Int) → RI p1 0 117 → RI x2 9 13 → AX 40 52 (fun f => 0 ≤ (f (Int32.toNatClampNeg p1 + 1)).toInt ∧ (f (Int32.toNatClampNeg p1 + 1)).toInt ≤ 7) Ps ws p0 → AX 40 52 (fun f => 0 ≤ (f (Int32.toNatClampNeg p1 + 2)).toInt ∧ (f (Int32.toNatClampNeg p1 + 2)).toInt ≤ 0) Ps ws p0 → (∃ n : Int, Int32.toInt p1 = 3 * n) → AX 40 52 (fun f => OLp f p1) Ps ws p0 → OV vw_M5 Ps ws p0 s0 → f_X10_readDoes__1_3 p1 nf x2 s0 = R9 → WD D cy GG A s wr_X10_readDoes__1 wa_X10_readDoes__1 Ps w0 Ps ws H locs → lv_has ls 3 [(0, .ref p0), (1, .int p1), (2, .int x2)] → W p l e (headSpec (Cond.code yX10_readDoes cX10_readDoes 3 (some .boolean) :: gT) ({ frames := 6, cells := 0, slots := 0, locals := 1200 } : Room)).room s m ([.ref p0, .int p1] : List Value).toArray below meth c H locs 0 0 Q (F0 m 3 ls []) := by
    intro nf3
    induction nf3 with
    | zero =>
      intro x2 s0 ws H locs ls hn3 r_p1 r_x2 x_LE_p0_p1_1_0_7 x_LE_p0_p1_2_0_0 x_MUL3_p1 x_OL_p0_p1 o_p0 hE hw hl
      exact absurd hn3 (by have q0 := r_x2.1; have u0 := r_x2.2; omega)
    | succ nf3 ih3 =>
      intro x2 s0 ws H locs ls hn3 r_p1 r_x2 x_LE_p0_p1_1_0_7 x_LE_p0_p1_2_0_0 x_MUL3_p1 x_OL_p0_p1 o_p0 hE hw hl
      refine lv_iload_n hx hb dX10_readDoes_3 rfl (lv_at hl 2 rfl) ?_
      refine lv_bipush (v := 12) hx hb dX10_readDoes_4 (by decide) ?_
      refine lv_icmp_gt (tgt := 23) hx hb dX10_readDoes_6 (by decide) (fun c_6 => ?_) (fun c_6 => ?_)
      · have r_x2 : RI x2 13 13 := rc_lt2 rl_12 r_x2 (ti_lt c_6) (by decide)
        refine lv_iload_n hx hb dX10_readDoes_23 rfl (lv_at hl 2 rfl) ?_
        refine lv_bipush (v := 12) hx hb dX10_readDoes_24 (by decide) ?_
        refine lv_icmp_le (tgt := 35) hx hb dX10_readDoes_26 (by decide) (fun c_26 => ?_) (fun c_26 => ?_)
        · have r_x2 : RI x2 13 12 := rc_le1 r_x2 rl_12 (ti_le c_26) (by decide)
          exact (r_x2.no (by decide)).elim
        · refine lv_aload_n hx hb dX10_readDoes_29 rfl (lv_at hl 0 rfl) ?_
          refine lv_iconst (v := 1) hx hb dX10_readDoes_30 (by decide) ?_
          refine tk_i (va_runV (As := [.int 1]) (rest := []) ⟨hx, hb, hml, hown, hts⟩ (c_X10_bad__3 l D cy z H.size Ps ws hw.1 p0 1 s0 h_p0 (rl_1.to (by decide)) o_p0) (cwV 1 hts (gV tw_1336 tw_1338 ts_46 tw_15 tw_1339) rfl rfl rfl (by decide +kernel) ⟨Nat.le_of_ble_eq_true rfl, Nat.le_of_ble_eq_true rfl⟩) (tg_preV hw hK hSD hA (ci := 10) (q := (RX10, TX10, 49)) rfl h_p0 rfl) rfl rfl hl.1 rfl (lv_room (Nat.le_of_ble_eq_true rfl)) dX10_readDoes_31 ⟨Nat.le_of_ble_eq_true rfl, Nat.le_of_ble_eq_true rfl⟩) hw hA ⟨by decide, by decide⟩ (fun v_1 ws H locs hp_v_1 hw hF9 => ?_)
          have x_LE_p0_p1_1_0_7 := AX.over hF9 x_LE_p0_p1_1_0_7 (by decide)
          have x_LE_p0_p1_2_0_0 := AX.over hF9 x_LE_p0_p1_2_0_0 (by decide)
          have x_OL_p0_p1 := AX.over hF9 x_OL_p0_p1 (by decide)
          obtain ⟨hfn, hp_v_1⟩ := hp_v_1
          obtain ⟨sg_2, q_sg_2⟩ : ∃ q9 : OS, (f_X10_bad__1 (1 : Int32) s0).1 = q9 := ⟨_, rfl⟩
          have o_p0 : OV vw_M5 Ps ws p0 sg_2 := by rw [← q_sg_2]; exact hfn.1
          have q_v_1 : (f_X10_bad__1 (1 : Int32) s0).2 = v_1 := hfn.2.1
          have r_v_1 : RI v_1 0 0 := hp_v_1.1
          simp only [f_X10_readDoes__1_3, ↓reduceIte, eq_true c_6, eq_false c_26, q_sg_2, q_v_1] at hE
          subst hQ
          exact W.zret (v := v_1) hx hb hr (tq_nz (r_v_1.to (by decide))) (fun t ht hW => ⟨⟨v_1, ws, rfl, ⟨⟨⟨(by rw [hR, ← hE]; exact o_p0), (by rw [hR, ← hE]), trivial⟩, r_v_1.to (by decide), (fun h0 => trivial), (fun h0 => absurd (Int32.toInt_inj.mp (by have h8 := r_v_1; unfold RI at h8; rw [Int32.toInt_zero]; omega)) h0)⟩, hw.1, hw.2.2.2.2.1⟩, by rw [ht]; exact hw.2.1, va_K.moved hW.alike hK, hw.2.2.1⟩, hw.2.2.2.1.F ht⟩) hw.2.2.2.1.2.2 dX10_readDoes_34
      · have r_x2 : RI x2 9 12 := rc_le1 r_x2 rl_12 (ti_nlt c_6) (by decide)
        refine lv_aload_n hx hb dX10_readDoes_9 rfl (lv_at hl 0 rfl) ?_
        refine lv_iload_n hx hb dX10_readDoes_10 rfl (lv_at hl 2 rfl) ?_
        refine tk_ir (va_runV (As := [.int x2]) (rest := []) ⟨hx, hb, hml, hown, hts⟩ (c_X10_isWord__9 l D cy z H.size Ps ws hw.1 p0 x2 s0 h_p0 (r_x2.to (by decide)) o_p0) (cwV 1 hts (gV tw_1318 tw_1320 ts_43 tw_15 tw_1321) rfl rfl rfl (by decide +kernel) ⟨Nat.le_of_ble_eq_true rfl, Nat.le_of_ble_eq_true rfl⟩) (tg_preV hw hK hSD hA (ci := 10) (q := (RX10, TX10, 49)) rfl h_p0 rfl) rfl rfl hl.1 rfl (lv_room (Nat.le_of_ble_eq_true rfl)) dX10_readDoes_11 ⟨Nat.le_of_ble_eq_true rfl, Nat.le_of_ble_eq_true rfl⟩) hw hA (fun v_3  H locs hp_v_3 hw => ?_)
        obtain ⟨hfn, hp_v_3⟩ := hp_v_3
        have q_v_3 : (f_X10_isWord__4 x2 s0) = v_3 := hfn.1
        have r_v_3 : RI v_3 0 1 := hp_v_3.1
        refine lv_if_ne (tgt := 23) hx hb dX10_readDoes_14 (by decide) (fun c_14 => ?_) (fun c_14 => ?_)
        · have r_v_3 : RI v_3 1 1 := rc_neL r_v_3 rl_0 (ti_ne c_14) (by decide)
          refine lv_iload_n hx hb dX10_readDoes_23 rfl (lv_at hl 2 rfl) ?_
          refine lv_bipush (v := 12) hx hb dX10_readDoes_24 (by decide) ?_
          refine lv_icmp_le (tgt := 35) hx hb dX10_readDoes_26 (by decide) (fun c_26 => ?_) (fun c_26 => ?_)
          · have g_at := x_MUL3_p1
            have x_LE_p0_p1_0_0_60 : AX 40 52 (fun f => 0 ≤ (f (Int32.toNatClampNeg p1)).toInt ∧ (f (Int32.toNatClampNeg p1)).toInt ≤ 60) Ps ws p0 := AX.imp (ax_of (k := 40) (t := 52) hw h_p0 rfl (fun _ => rfl)) (fun f9 h9 => h9.2 _ (by have k1 := r_p1.cl (by decide); have k2 := r_p1.2; omega))
            refine lv_aload_n hx hb dX10_readDoes_35 rfl (lv_at hl 0 rfl) ?_
            refine tg_get (ci := 10) (ts := ty_MODEL) (C := RX10) (T := TX10) (N := 49) hx hb hts inX10 hown hK hw h_p0 rfl rfl 40 (by decide) (hts _ tw_1177) (fun _ h9 => h9) (ft := vR 52) rfl dX10_readDoes_36 (fun u_4 hv_u_4 m_u_4 => ?_)
            obtain ⟨vu_4, rfl, h_vu_4⟩ := hv_u_4
            refine lv_iload_n hx hb dX10_readDoes_39 rfl (lv_at hl 1 rfl) ?_
            refine lv_iload_n hx hb dX10_readDoes_40 rfl (lv_at hl 2 rfl) ?_
            refine lv_bipush (v := 9) hx hb dX10_readDoes_41 (by decide) ?_
            refine lv_isub hx hb dX10_readDoes_43 (lv_topi (fun v_5 e_v_5 => ?_))
            obtain ⟨t_v_5, r_v_5⟩ := tq_sub (lo := 0) (hi := 3) r_x2 rl_9 (by decide +kernel) e_v_5
            have t_v_5 : v_5.toInt = x2.toInt - 9 := t_v_5
            have q_v_5 : x2 - (9 : Int32) = v_5 := e_v_5.symm
            have mo9 := m_u_4
            refine tg_iast hx hb hK hw h_vu_4 rfl 0 117 r_p1 (by decide) r_v_5 (by exact fun _ _ _ => by decide) (fun _ _ _ _ _ => trivial) (by decide) dX10_readDoes_44 (fun ws H locs hw hF9 hU9 => ?_)
            have x_LE_p0_p1_1_0_7 : AX 40 52 (fun f => 0 ≤ (f (Int32.toNatClampNeg p1 + 1)).toInt ∧ (f (Int32.toNatClampNeg p1 + 1)).toInt ≤ 7) Ps ws p0 := AX.ast hF9 hU9 x_LE_p0_p1_1_0_7 m_u_4 (fun f9 h9 => by have j9 : Int32.toNatClampNeg p1 = Int32.toNatClampNeg p1 + 0 := (by have k1 := r_p1.cl (by decide); have k2 := r_p1.cl (by decide); omega); show _ ∧ _; rw [pk_un (by omega)]; exact h9)
            have x_LE_p0_p1_2_0_0 : AX 40 52 (fun f => 0 ≤ (f (Int32.toNatClampNeg p1 + 2)).toInt ∧ (f (Int32.toNatClampNeg p1 + 2)).toInt ≤ 0) Ps ws p0 := AX.ast hF9 hU9 x_LE_p0_p1_2_0_0 m_u_4 (fun f9 h9 => by have j9 : Int32.toNatClampNeg p1 = Int32.toNatClampNeg p1 + 0 := (by have k1 := r_p1.cl (by decide); have k2 := r_p1.cl (by decide); omega); show _ ∧ _; rw [pk_un (by omega)]; exact h9)
            have x_OL_p0_p1 : AX 40 52 (fun f => OLp f p1) Ps ws p0 := AX.ast hF9 hU9 x_OL_p0_p1 m_u_4 (fun f9 h9 => OL_upd h9 g_at (by have k1 := r_p1.cl (by decide); have k2 := r_p1.1; omega))
            have x_LE_p0_p1_0_0_3 : AX 40 52 (fun f => 0 ≤ (f (Int32.toNatClampNeg p1)).toInt ∧ (f (Int32.toNatClampNeg p1)).toInt ≤ 3) Ps ws p0 := AX.ast hF9 hU9 x_LE_p0_p1_0_0_60 m_u_4 (fun f9 h9 => by show _ ∧ _; rw [pk_us]; exact r_v_5)
            have m_u_4 := FLD.over hF9 m_u_4 (by decide)
            obtain ⟨sg_6, q_sg_6⟩ : ∃ q9 : OS, sA s0 40 (Int32.toNatClampNeg p1) v_5 = q9 := ⟨_, rfl⟩
            have o_p0 : OV vw_M5 Ps ws p0 sg_6 := by rw [← q_sg_6]; exact OV.putA (V := vw_M5) (t := 52) hF9 hU9 o_p0 mo9 (by decide) (by decide)
            refine lv_aload_n hx hb dX10_readDoes_45 rfl (lv_at hl 0 rfl) ?_
            refine tk_v (va_runV (As := []) (rest := []) ⟨hx, hb, hml, hown, hts⟩ (c_X10_go__5 l D cy z H.size Ps ws hw.1 p0 sg_6 h_p0 o_p0) (cwV 0 hts (gV tw_1298 tw_1300 ts_40 tw_15 tw_1301) rfl rfl rfl (by decide +kernel) ⟨Nat.le_of_ble_eq_true rfl, Nat.le_of_ble_eq_true rfl⟩) (tg_preV hw hK hSD hA (ci := 10) (q := (RX10, TX10, 49)) rfl h_p0 rfl) rfl rfl hl.1 rfl (lv_room (Nat.le_of_ble_eq_true rfl)) dX10_readDoes_46 ⟨Nat.le_of_ble_eq_true rfl, Nat.le_of_ble_eq_true rfl⟩) hw hA ⟨by decide, by decide⟩ (fun ws H locs hp_v_7 hw hF9 => ?_)
            have m_u_4 := FLD.over hF9 m_u_4 (by decide)
            have x_LE_p0_p1_1_0_7 := AX.over hF9 x_LE_p0_p1_1_0_7 (by decide)
            have x_LE_p0_p1_2_0_0 := AX.over hF9 x_LE_p0_p1_2_0_0 (by decide)
            have x_OL_p0_p1 := AX.over hF9 x_OL_p0_p1 (by decide)
            have x_LE_p0_p1_0_0_3 := AX.over hF9 x_LE_p0_p1_0_0_3 (by decide)
            obtain ⟨hfn, hp_v_7⟩ := hp_v_7
            obtain ⟨sg_8, q_sg_8⟩ : ∃ q9 : OS, (f_X10_go__2 sg_6) = q9 := ⟨_, rfl⟩
            have o_p0 : OV vw_M5 Ps ws p0 sg_8 := by rw [← q_sg_8]; exact hfn.1
            refine lv_aload_n hx hb dX10_readDoes_49 rfl (lv_at hl 0 rfl) ?_
            refine tg_mem (ci := 10) (C := RX10) (T := TX10) (N := 49) hx hb hts inX10 hown hK hw 40 m_u_4 rfl (by decide) (hts _ tw_1177) (fun _ h9 => h9) dX10_readDoes_50 ?_
            refine lv_iload_n hx hb dX10_readDoes_53 rfl (lv_at hl 1 rfl) ?_
            refine tg_iald (lo := 0) (hi := 60) hx hb hK hw h_vu_4 rfl 0 117 r_p1 (by decide) (by exact fun _ _ _ => ⟨Int.le_refl _, Int.le_refl _⟩) dX10_readDoes_54 (fun v_9 r_v_9 m_v_9 o_v_9 => ?_)
            have q_v_9 : sg_8.2.2.1 40 (Int32.toNatClampNeg p1) = v_9 := OV.eqA (V := vw_M5) (t := 52) hw.2.2.1 o_p0 m_u_4 m_v_9 (by decide)
            by_cases k_55_0 : v_9 = 0
            · refine lv_lookup (tgt := 80) (off := 25) hx hb dX10_readDoes_55 (by decide) (by rw [k_55_0]; decide) (by decide) ?_
              have r_v_9 : RI v_9 0 0 := by rw [k_55_0]; exact rl_0
              refine lv_aload_n hx hb dX10_readDoes_80 rfl (lv_at hl 0 rfl) ?_
              refine lv_iload_n hx hb dX10_readDoes_81 rfl (lv_at hl 1 rfl) ?_
              refine lv_iconst (v := 2) hx hb dX10_readDoes_82 (by decide) ?_
              refine lv_iadd hx hb dX10_readDoes_83 (lv_topi (fun v_10 e_v_10 => ?_))
              obtain ⟨t_v_10, r_v_10⟩ := tq_add (lo := 2) (hi := 119) r_p1 rl_2 (by decide +kernel) e_v_10
              have t_v_10 : v_10.toInt = p1.toInt + 2 := t_v_10
              have q_v_10 : p1 + (2 : Int32) = v_10 := e_v_10.symm
              refine lv_aload_n hx hb dX10_readDoes_84 rfl (lv_at hl 0 rfl) ?_
              have hw8 := hw
              refine tk_i (va_runV (As := []) (rest := [.int v_10, .ref p0]) ⟨hx, hb, hml, hown, hts⟩ (c_X10_readParcelName__1 l D cy z H.size Ps ws hw.1 p0 sg_8 h_p0 o_p0) (cwV 0 hts (gV tw_1719 tw_1721 ts_105 tw_15 tw_1722) rfl rfl rfl (by decide +kernel) ⟨Nat.le_of_ble_eq_true rfl, Nat.le_of_ble_eq_true rfl⟩) (tg_preV hw hK hSD hA (ci := 10) (q := (RX10, TX10, 49)) rfl h_p0 rfl) rfl rfl hl.1 rfl (lv_room (Nat.le_of_ble_eq_true rfl)) dX10_readDoes_85 ⟨Nat.le_of_ble_eq_true rfl, Nat.le_of_ble_eq_true rfl⟩) hw hA ⟨by decide, by decide⟩ (fun v_11 ws H locs hp_v_11 hw hF9 => ?_)
              have m_v_9 := AEL.over hw8 hF9 h_vu_4 m_v_9 (by decide)
              have m_u_4 := FLD.over hF9 m_u_4 (by decide)
              have x_LE_p0_p1_1_0_7 := AX.over hF9 x_LE_p0_p1_1_0_7 (by decide)
              have x_LE_p0_p1_2_0_0 := AX.over hF9 x_LE_p0_p1_2_0_0 (by decide)
              have x_OL_p0_p1 := AX.over hF9 x_OL_p0_p1 (by decide)
              have x_LE_p0_p1_0_0_3 := AX.over hF9 x_LE_p0_p1_0_0_3 (by decide)
              obtain ⟨hfn, hp_v_11⟩ := hp_v_11
              obtain ⟨sg_12, q_sg_12⟩ : ∃ q9 : OS, (f_X10_readParcelName__1 sg_8).1 = q9 := ⟨_, rfl⟩
              have o_p0 : OV vw_M5 Ps ws p0 sg_12 := by rw [← q_sg_12]; exact hfn.1
              have q_v_11 : (f_X10_readParcelName__1 sg_8).2 = v_11 := hfn.2.1
              have r_v_11 : RI v_11 0 1 := hp_v_11.1
              by_cases c9_v_11 : v_11 = 0
              · have r_v_11 : RI v_11 0 0 := by rw [c9_v_11]; exact rl_0
                refine tk_ir (va_runV (As := [.int v_10, .int v_11]) (rest := []) ⟨hx, hb, hml, hown, hts⟩ (c_X10_keep__6 l D cy z H.size Ps ws hw.1 p0 v_10 v_11 (fun f => (0 ≤ (f (Int32.toNatClampNeg p1 + 1)).toInt ∧ (f (Int32.toNatClampNeg p1 + 1)).toInt ≤ 7) ∧ (0 ≤ (f (Int32.toNatClampNeg p1 + 2)).toInt ∧ (f (Int32.toNatClampNeg p1 + 2)).toInt ≤ 0) ∧ OLp f p1 ∧ (0 ≤ (f (Int32.toNatClampNeg p1)).toInt ∧ (f (Int32.toNatClampNeg p1)).toInt ≤ 3) ∧ True) (fun f => (0 ≤ (f (Int32.toNatClampNeg p1 + 1)).toInt ∧ (f (Int32.toNatClampNeg p1 + 1)).toInt ≤ 7) ∧ ((-2147483648) ≤ (f (Int32.toNatClampNeg p1 + 2)).toInt ∧ (f (Int32.toNatClampNeg p1 + 2)).toInt ≤ 2147483647) ∧ OLp f p1 ∧ (0 ≤ (f (Int32.toNatClampNeg p1)).toInt ∧ (f (Int32.toNatClampNeg p1)).toInt ≤ 3) ∧ True) sg_12 h_p0 r_v_10 r_v_11 (AX.and hw x_LE_p0_p1_1_0_7 (AX.and hw x_LE_p0_p1_2_0_0 (AX.and hw x_OL_p0_p1 (AX.and hw x_LE_p0_p1_0_0_3 (lx_true hw h_p0))))) (fun f9 v9 hv9 H9 => ⟨(have h9 := H9.1; by have j9 : Int32.toNatClampNeg v_10 = Int32.toNatClampNeg p1 + 2 := (by have k1 := r_v_10.cl (by decide); have k2 := r_p1.cl (by decide); omega); show _ ∧ _; rw [pk_un (by omega)]; exact h9), (have h9 := H9.2.1; by have j9 : Int32.toNatClampNeg v_10 = Int32.toNatClampNeg p1 + 2 := (by have k1 := r_v_10.cl (by decide); have k2 := r_p1.cl (by decide); omega); show _ ∧ _; rw [← j9, pk_us]; exact hv9), (have h9 := H9.2.2.1; OL_upd h9 g_at (by have k1 := r_v_10.cl (by decide); have k2 := r_p1.1; omega)), (have h9 := H9.2.2.2.1; by have j9 : Int32.toNatClampNeg v_10 = Int32.toNatClampNeg p1 + 2 := (by have k1 := r_v_10.cl (by decide); have k2 := r_p1.cl (by decide); omega); show _ ∧ _; rw [pk_un (by omega)]; exact h9), trivial⟩) o_p0) (cwV 2 hts (gV tw_1727 tw_1729 ts_107 tw_15 tw_1730) rfl rfl rfl (by decide +kernel) ⟨Nat.le_of_ble_eq_true rfl, Nat.le_of_ble_eq_true rfl⟩) (tg_preV hw hK hSD hA (ci := 10) (q := (RX10, TX10, 49)) rfl h_p0 rfl) rfl rfl hl.1 rfl (lv_room (Nat.le_of_ble_eq_true rfl)) dX10_readDoes_88 ⟨Nat.le_of_ble_eq_true rfl, Nat.le_of_ble_eq_true rfl⟩) hw hA (fun v_13  H locs hp_v_13 hw => ?_)
                obtain ⟨hfn, hp_v_13⟩ := hp_v_13
                have q_v_13 : (f_X10_keep__6 v_10 v_11 sg_12) = v_13 := hfn.1
                have r_v_13 : RI v_13 0 0 := hp_v_13.1
                by_cases c9_v_13 : v_13 = 0
                · have r_v_13 : RI v_13 0 0 := by rw [c9_v_13]; exact rl_0
                  have x_LE_p0_p1_1_0_7 : AX 40 52 (fun f => 0 ≤ (f (Int32.toNatClampNeg p1 + 1)).toInt ∧ (f (Int32.toNatClampNeg p1 + 1)).toInt ≤ 7) Ps ws p0 := AX.imp ((hp_v_13.2.1 c9_v_13).1) (fun _ h9 => h9.1)
                  have x_LE_p0_p1_2_0_0 : AX 40 52 (fun f => 0 ≤ (f (Int32.toNatClampNeg p1 + 2)).toInt ∧ (f (Int32.toNatClampNeg p1 + 2)).toInt ≤ 0) Ps ws p0 := AX.imp ((hp_v_13.2.1 c9_v_13).1) (fun _ h9 => h9.2.1)
                  have x_OL_p0_p1 : AX 40 52 (fun f => OLp f p1) Ps ws p0 := AX.imp ((hp_v_13.2.1 c9_v_13).1) (fun _ h9 => h9.2.2.1)
                  have x_LE_p0_p1_0_0_3 : AX 40 52 (fun f => 0 ≤ (f (Int32.toNatClampNeg p1)).toInt ∧ (f (Int32.toNatClampNeg p1)).toInt ≤ 3) Ps ws p0 := AX.imp ((hp_v_13.2.1 c9_v_13).1) (fun _ h9 => h9.2.2.2.1)
                  simp only [f_X10_readDoes__1_3, ↓reduceIte, eq_false c_6, q_v_3, eq_false c_14, eq_true c_26, q_v_5, q_sg_6, q_sg_8, q_v_9, eq_true k_55_0, q_v_10, q_sg_12, q_v_11, eq_true c9_v_11, q_v_13, eq_true c9_v_13] at hE
                  subst hQ
                  exact W.zret (v := v_13) hx hb hr (tq_nz (r_v_13.to (by decide))) (fun t ht hW => ⟨⟨v_13, ws, rfl, ⟨⟨⟨(by rw [hR, ← hE]; exact o_p0), (by rw [hR, ← hE]), trivial⟩, r_v_13.to (by decide), (fun h0 => trivial), (fun h0 => absurd (Int32.toInt_inj.mp (by have h8 := r_v_13; unfold RI at h8; rw [Int32.toInt_zero]; omega)) h0)⟩, hw.1, hw.2.2.2.2.1⟩, by rw [ht]; exact hw.2.1, va_K.moved hW.alike hK, hw.2.2.1⟩, hw.2.2.2.1.F ht⟩) hw.2.2.2.1.2.2 dX10_readDoes_91
                · exact absurd (Int32.toInt_inj.mp (by rw [Int32.toInt_zero]; unfold RI at r_v_13; omega)) c9_v_13
              · have r_v_11 : RI v_11 1 1 := rc_neL r_v_11 rl_0 (ti_ne c9_v_11) (by decide)
                obtain ⟨v_14, m_v_14, r_v_14⟩ := ((hp_v_11.2.2 c9_v_11).1)
                have hw8 := hw
                refine tk_i (va_runV (As := [.int v_10, .int v_11]) (rest := []) ⟨hx, hb, hml, hown, hts⟩ (c_X10_keep__7 l D cy z H.size Ps ws hw.1 p0 v_10 v_11 v_14 (fun f => (0 ≤ (f (Int32.toNatClampNeg p1 + 1)).toInt ∧ (f (Int32.toNatClampNeg p1 + 1)).toInt ≤ 7) ∧ (0 ≤ (f (Int32.toNatClampNeg p1 + 2)).toInt ∧ (f (Int32.toNatClampNeg p1 + 2)).toInt ≤ 0) ∧ OLp f p1 ∧ (0 ≤ (f (Int32.toNatClampNeg p1)).toInt ∧ (f (Int32.toNatClampNeg p1)).toInt ≤ 3) ∧ True) (fun f => (0 ≤ (f (Int32.toNatClampNeg p1 + 1)).toInt ∧ (f (Int32.toNatClampNeg p1 + 1)).toInt ≤ 7) ∧ (0 ≤ (f (Int32.toNatClampNeg p1 + 2)).toInt ∧ (f (Int32.toNatClampNeg p1 + 2)).toInt ≤ 5) ∧ OLp f p1 ∧ (0 ≤ (f (Int32.toNatClampNeg p1)).toInt ∧ (f (Int32.toNatClampNeg p1)).toInt ≤ 3) ∧ True) sg_12 h_p0 r_v_10 r_v_11 r_v_14 m_v_14 (AX.and hw x_LE_p0_p1_1_0_7 (AX.and hw x_LE_p0_p1_2_0_0 (AX.and hw x_OL_p0_p1 (AX.and hw x_LE_p0_p1_0_0_3 (lx_true hw h_p0))))) (fun f9 v9 hv9 H9 => ⟨(have h9 := H9.1; by have j9 : Int32.toNatClampNeg v_10 = Int32.toNatClampNeg p1 + 2 := (by have k1 := r_v_10.cl (by decide); have k2 := r_p1.cl (by decide); omega); show _ ∧ _; rw [pk_un (by omega)]; exact h9), (have h9 := H9.2.1; by have j9 : Int32.toNatClampNeg v_10 = Int32.toNatClampNeg p1 + 2 := (by have k1 := r_v_10.cl (by decide); have k2 := r_p1.cl (by decide); omega); show _ ∧ _; rw [← j9, pk_us]; exact hv9), (have h9 := H9.2.2.1; OL_upd h9 g_at (by have k1 := r_v_10.cl (by decide); have k2 := r_p1.1; omega)), (have h9 := H9.2.2.2.1; by have j9 : Int32.toNatClampNeg v_10 = Int32.toNatClampNeg p1 + 2 := (by have k1 := r_v_10.cl (by decide); have k2 := r_p1.cl (by decide); omega); show _ ∧ _; rw [pk_un (by omega)]; exact h9), trivial⟩) o_p0) (cwV 2 hts (gV tw_1727 tw_1729 ts_107 tw_15 tw_1730) rfl rfl rfl (by decide +kernel) ⟨Nat.le_of_ble_eq_true rfl, Nat.le_of_ble_eq_true rfl⟩) (tg_preV hw hK hSD hA (ci := 10) (q := (RX10, TX10, 49)) rfl h_p0 rfl) rfl rfl hl.1 rfl (lv_room (Nat.le_of_ble_eq_true rfl)) dX10_readDoes_88 ⟨Nat.le_of_ble_eq_true rfl, Nat.le_of_ble_eq_true rfl⟩) hw hA ⟨by decide, by decide⟩ (fun v_15 ws H locs hp_v_15 hw hF9 => ?_)
                have m_u_4 := FLD.over hF9 m_u_4 (by decide)
                have m_v_14 := FLD.over hF9 m_v_14 (by decide)
                obtain ⟨hfn, hp_v_15⟩ := hp_v_15
                obtain ⟨sg_16, q_sg_16⟩ : ∃ q9 : OS, (f_X10_keep__7 v_10 v_11 sg_12).1 = q9 := ⟨_, rfl⟩
                have o_p0 : OV vw_M5 Ps ws p0 sg_16 := by rw [← q_sg_16]; exact hfn.1
                have q_v_15 : (f_X10_keep__7 v_10 v_11 sg_12).2 = v_15 := hfn.2.1
                have r_v_15 : RI v_15 1 1 := hp_v_15.1
                by_cases c9_v_15 : v_15 = 0
                · exact absurd (ti_eq c9_v_15) (by unfold RI at r_v_15; rw [Int32.toInt_zero]; omega)
                · obtain ⟨v_17, m_v_17, r_v_17⟩ := ((hp_v_15.2.2 c9_v_15).1)
                  have x_LE_p0_p1_1_0_7 : AX 40 52 (fun f => 0 ≤ (f (Int32.toNatClampNeg p1 + 1)).toInt ∧ (f (Int32.toNatClampNeg p1 + 1)).toInt ≤ 7) Ps ws p0 := AX.imp ((hp_v_15.2.2 c9_v_15).2.1) (fun _ h9 => h9.1)
                  have x_LE_p0_p1_2_0_5 : AX 40 52 (fun f => 0 ≤ (f (Int32.toNatClampNeg p1 + 2)).toInt ∧ (f (Int32.toNatClampNeg p1 + 2)).toInt ≤ 5) Ps ws p0 := AX.imp ((hp_v_15.2.2 c9_v_15).2.1) (fun _ h9 => h9.2.1)
                  have x_OL_p0_p1 : AX 40 52 (fun f => OLp f p1) Ps ws p0 := AX.imp ((hp_v_15.2.2 c9_v_15).2.1) (fun _ h9 => h9.2.2.1)
                  have x_LE_p0_p1_0_0_3 : AX 40 52 (fun f => 0 ≤ (f (Int32.toNatClampNeg p1)).toInt ∧ (f (Int32.toNatClampNeg p1)).toInt ≤ 3) Ps ws p0 := AX.imp ((hp_v_15.2.2 c9_v_15).2.1) (fun _ h9 => h9.2.2.2.1)
                  have x_L9 := AX.and hw x_LE_p0_p1_0_0_3 (AX.and hw x_LE_p0_p1_1_0_7 x_LE_p0_p1_2_0_5)
                  have x_GL_p0_p1 : AX 40 52 (fun f => GLk f (Int32.toNatClampNeg p1)) Ps ws p0 := AX.imp x_L9 (fun f9 h9 => ⟨⟨by have k1 := h9.1.1; omega, by have k1 := h9.1.2; omega⟩, by have k1 := h9.1.1; have k2 := h9.2.1.2; omega, by have k3 := h9.2.2.2; omega⟩)
                  simp only [f_X10_readDoes__1_3, ↓reduceIte, eq_false c_6, q_v_3, eq_false c_14, eq_true c_26, q_v_5, q_sg_6, q_sg_8, q_v_9, eq_true k_55_0, q_v_10, q_sg_12, q_v_11, eq_false c9_v_11, q_sg_16, q_v_15, eq_false c9_v_15] at hE
                  subst hQ
                  exact W.zret (v := v_15) hx hb hr (tq_nz (r_v_15.to (by decide))) (fun t ht hW => ⟨⟨v_15, ws, rfl, ⟨⟨⟨(by rw [hR, ← hE]; exact o_p0), (by rw [hR, ← hE]), trivial⟩, r_v_15.to (by decide), (fun _ => trivial), (fun h0 => ⟨x_OL_p0_p1, x_GL_p0_p1, trivial⟩)⟩, hw.1, hw.2.2.2.2.1⟩, by rw [ht]; exact hw.2.1, va_K.moved hW.alike hK, hw.2.2.1⟩, hw.2.2.2.1.F ht⟩) hw.2.2.2.1.2.2 dX10_readDoes_91
            · by_cases k_55_1 : v_9 = 1
              · refine lv_lookup (tgt := 92) (off := 37) hx hb dX10_readDoes_55 (by decide) (by rw [k_55_1]; decide) (by decide) ?_
                have r_v_9 : RI v_9 1 1 := by rw [k_55_1]; exact rl_1
                refine lv_iconst (v := 1) hx hb dX10_readDoes_92 (by decide) ?_
                have x_L9 := AX.and hw x_LE_p0_p1_0_0_3 (AX.and hw x_LE_p0_p1_1_0_7 x_LE_p0_p1_2_0_0)
                have x_GL_p0_p1 : AX 40 52 (fun f => GLk f (Int32.toNatClampNeg p1)) Ps ws p0 := AX.imp x_L9 (fun f9 h9 => ⟨⟨by have k1 := h9.1.1; omega, by have k1 := h9.1.2; omega⟩, by have k1 := h9.1.1; have k2 := h9.2.1.2; omega, by have k3 := h9.2.2.2; omega⟩)
                simp only [f_X10_readDoes__1_3, ↓reduceIte, eq_false c_6, q_v_3, eq_false c_14, eq_true c_26, q_v_5, q_sg_6, q_sg_8, q_v_9, eq_false k_55_0, eq_true k_55_1] at hE
                subst hQ
                exact W.zret (v := 1) hx hb hr (rfl) (fun t ht hW => ⟨⟨1, ws, rfl, ⟨⟨⟨(by rw [hR, ← hE]; exact o_p0), (by rw [hR, ← hE]), trivial⟩, rl_1.to (by decide), (fun _ => trivial), (fun h0 => ⟨x_OL_p0_p1, x_GL_p0_p1, trivial⟩)⟩, hw.1, hw.2.2.2.2.1⟩, by rw [ht]; exact hw.2.1, va_K.moved hW.alike hK, hw.2.2.1⟩, hw.2.2.2.1.F ht⟩) hw.2.2.2.1.2.2 dX10_readDoes_93
              · refine lv_lookup (tgt := 94) (off := 39) hx hb dX10_readDoes_55 (by decide) ((lv_osw k_55_0 (by decide)).trans ((lv_osw k_55_1 (by decide)).trans (rfl))) (by decide) ?_
                refine lv_aload_n hx hb dX10_readDoes_94 rfl (lv_at hl 0 rfl) ?_
                refine lv_iload_n hx hb dX10_readDoes_95 rfl (lv_at hl 1 rfl) ?_
                refine lv_iconst (v := 2) hx hb dX10_readDoes_96 (by decide) ?_
                refine lv_iadd hx hb dX10_readDoes_97 (lv_topi (fun v_18 e_v_18 => ?_))
                obtain ⟨t_v_18, r_v_18⟩ := tq_add (lo := 2) (hi := 119) r_p1 rl_2 (by decide +kernel) e_v_18
                have t_v_18 : v_18.toInt = p1.toInt + 2 := t_v_18
                have q_v_18 : p1 + (2 : Int32) = v_18 := e_v_18.symm
                refine lv_aload_n hx hb dX10_readDoes_98 rfl (lv_at hl 0 rfl) ?_
                have hw8 := hw
                refine tk_i (va_runV (As := []) (rest := [.int v_18, .ref p0]) ⟨hx, hb, hml, hown, hts⟩ (c_X10_readIdeaName__1 l D cy z H.size Ps ws hw.1 p0 sg_8 h_p0 o_p0) (cwV 0 hts (gV tw_1731 tw_1733 ts_108 tw_15 tw_1734) rfl rfl rfl (by decide +kernel) ⟨Nat.le_of_ble_eq_true rfl, Nat.le_of_ble_eq_true rfl⟩) (tg_preV hw hK hSD hA (ci := 10) (q := (RX10, TX10, 49)) rfl h_p0 rfl) rfl rfl hl.1 rfl (lv_room (Nat.le_of_ble_eq_true rfl)) dX10_readDoes_99 ⟨Nat.le_of_ble_eq_true rfl, Nat.le_of_ble_eq_true rfl⟩) hw hA ⟨by decide, by decide⟩ (fun v_19 ws H locs hp_v_19 hw hF9 => ?_)
                have m_v_9 := AEL.over hw8 hF9 h_vu_4 m_v_9 (by decide)
                have m_u_4 := FLD.over hF9 m_u_4 (by decide)
                have x_LE_p0_p1_1_0_7 := AX.over hF9 x_LE_p0_p1_1_0_7 (by decide)
                have x_LE_p0_p1_2_0_0 := AX.over hF9 x_LE_p0_p1_2_0_0 (by decide)
                have x_OL_p0_p1 := AX.over hF9 x_OL_p0_p1 (by decide)
                have x_LE_p0_p1_0_0_3 := AX.over hF9 x_LE_p0_p1_0_0_3 (by decide)
                obtain ⟨hfn, hp_v_19⟩ := hp_v_19
                obtain ⟨sg_20, q_sg_20⟩ : ∃ q9 : OS, (f_X10_readIdeaName__1 sg_8).1 = q9 := ⟨_, rfl⟩
                have o_p0 : OV vw_M5 Ps ws p0 sg_20 := by rw [← q_sg_20]; exact hfn.1
                have q_v_19 : (f_X10_readIdeaName__1 sg_8).2 = v_19 := hfn.2.1
                have r_v_19 : RI v_19 0 1 := hp_v_19.1
                by_cases c9_v_19 : v_19 = 0
                · have r_v_19 : RI v_19 0 0 := by rw [c9_v_19]; exact rl_0
                  refine tk_ir (va_runV (As := [.int v_18, .int v_19]) (rest := []) ⟨hx, hb, hml, hown, hts⟩ (c_X10_keep__6 l D cy z H.size Ps ws hw.1 p0 v_18 v_19 (fun f => (0 ≤ (f (Int32.toNatClampNeg p1 + 1)).toInt ∧ (f (Int32.toNatClampNeg p1 + 1)).toInt ≤ 7) ∧ (0 ≤ (f (Int32.toNatClampNeg p1 + 2)).toInt ∧ (f (Int32.toNatClampNeg p1 + 2)).toInt ≤ 0) ∧ OLp f p1 ∧ (0 ≤ (f (Int32.toNatClampNeg p1)).toInt ∧ (f (Int32.toNatClampNeg p1)).toInt ≤ 3) ∧ True) (fun f => (0 ≤ (f (Int32.toNatClampNeg p1 + 1)).toInt ∧ (f (Int32.toNatClampNeg p1 + 1)).toInt ≤ 7) ∧ ((-2147483648) ≤ (f (Int32.toNatClampNeg p1 + 2)).toInt ∧ (f (Int32.toNatClampNeg p1 + 2)).toInt ≤ 2147483647) ∧ OLp f p1 ∧ (0 ≤ (f (Int32.toNatClampNeg p1)).toInt ∧ (f (Int32.toNatClampNeg p1)).toInt ≤ 3) ∧ True) sg_20 h_p0 r_v_18 r_v_19 (AX.and hw x_LE_p0_p1_1_0_7 (AX.and hw x_LE_p0_p1_2_0_0 (AX.and hw x_OL_p0_p1 (AX.and hw x_LE_p0_p1_0_0_3 (lx_true hw h_p0))))) (fun f9 v9 hv9 H9 => ⟨(have h9 := H9.1; by have j9 : Int32.toNatClampNeg v_18 = Int32.toNatClampNeg p1 + 2 := (by have k1 := r_v_18.cl (by decide); have k2 := r_p1.cl (by decide); omega); show _ ∧ _; rw [pk_un (by omega)]; exact h9), (have h9 := H9.2.1; by have j9 : Int32.toNatClampNeg v_18 = Int32.toNatClampNeg p1 + 2 := (by have k1 := r_v_18.cl (by decide); have k2 := r_p1.cl (by decide); omega); show _ ∧ _; rw [← j9, pk_us]; exact hv9), (have h9 := H9.2.2.1; OL_upd h9 g_at (by have k1 := r_v_18.cl (by decide); have k2 := r_p1.1; omega)), (have h9 := H9.2.2.2.1; by have j9 : Int32.toNatClampNeg v_18 = Int32.toNatClampNeg p1 + 2 := (by have k1 := r_v_18.cl (by decide); have k2 := r_p1.cl (by decide); omega); show _ ∧ _; rw [pk_un (by omega)]; exact h9), trivial⟩) o_p0) (cwV 2 hts (gV tw_1727 tw_1729 ts_107 tw_15 tw_1730) rfl rfl rfl (by decide +kernel) ⟨Nat.le_of_ble_eq_true rfl, Nat.le_of_ble_eq_true rfl⟩) (tg_preV hw hK hSD hA (ci := 10) (q := (RX10, TX10, 49)) rfl h_p0 rfl) rfl rfl hl.1 rfl (lv_room (Nat.le_of_ble_eq_true rfl)) dX10_readDoes_102 ⟨Nat.le_of_ble_eq_true rfl, Nat.le_of_ble_eq_true rfl⟩) hw hA (fun v_21  H locs hp_v_21 hw => ?_)
                  obtain ⟨hfn, hp_v_21⟩ := hp_v_21
                  have q_v_21 : (f_X10_keep__6 v_18 v_19 sg_20) = v_21 := hfn.1
                  have r_v_21 : RI v_21 0 0 := hp_v_21.1
                  by_cases c9_v_21 : v_21 = 0
                  · have r_v_21 : RI v_21 0 0 := by rw [c9_v_21]; exact rl_0
                    have x_LE_p0_p1_1_0_7 : AX 40 52 (fun f => 0 ≤ (f (Int32.toNatClampNeg p1 + 1)).toInt ∧ (f (Int32.toNatClampNeg p1 + 1)).toInt ≤ 7) Ps ws p0 := AX.imp ((hp_v_21.2.1 c9_v_21).1) (fun _ h9 => h9.1)
                    have x_LE_p0_p1_2_0_0 : AX 40 52 (fun f => 0 ≤ (f (Int32.toNatClampNeg p1 + 2)).toInt ∧ (f (Int32.toNatClampNeg p1 + 2)).toInt ≤ 0) Ps ws p0 := AX.imp ((hp_v_21.2.1 c9_v_21).1) (fun _ h9 => h9.2.1)
                    have x_OL_p0_p1 : AX 40 52 (fun f => OLp f p1) Ps ws p0 := AX.imp ((hp_v_21.2.1 c9_v_21).1) (fun _ h9 => h9.2.2.1)
                    have x_LE_p0_p1_0_0_3 : AX 40 52 (fun f => 0 ≤ (f (Int32.toNatClampNeg p1)).toInt ∧ (f (Int32.toNatClampNeg p1)).toInt ≤ 3) Ps ws p0 := AX.imp ((hp_v_21.2.1 c9_v_21).1) (fun _ h9 => h9.2.2.2.1)
                    simp only [f_X10_readDoes__1_3, ↓reduceIte, eq_false c_6, q_v_3, eq_false c_14, eq_true c_26, q_v_5, q_sg_6, q_sg_8, q_v_9, eq_false k_55_0, eq_false k_55_1, q_v_18, q_sg_20, q_v_19, eq_true c9_v_19, q_v_21, eq_true c9_v_21] at hE
                    subst hQ
                    exact W.zret (v := v_21) hx hb hr (tq_nz (r_v_21.to (by decide))) (fun t ht hW => ⟨⟨v_21, ws, rfl, ⟨⟨⟨(by rw [hR, ← hE]; exact o_p0), (by rw [hR, ← hE]), trivial⟩, r_v_21.to (by decide), (fun h0 => trivial), (fun h0 => absurd (Int32.toInt_inj.mp (by have h8 := r_v_21; unfold RI at h8; rw [Int32.toInt_zero]; omega)) h0)⟩, hw.1, hw.2.2.2.2.1⟩, by rw [ht]; exact hw.2.1, va_K.moved hW.alike hK, hw.2.2.1⟩, hw.2.2.2.1.F ht⟩) hw.2.2.2.1.2.2 dX10_readDoes_105
                  · exact absurd (Int32.toInt_inj.mp (by rw [Int32.toInt_zero]; unfold RI at r_v_21; omega)) c9_v_21
                · have r_v_19 : RI v_19 1 1 := rc_neL r_v_19 rl_0 (ti_ne c9_v_19) (by decide)
                  obtain ⟨v_22, m_v_22, r_v_22⟩ := ((hp_v_19.2.2 c9_v_19).1)
                  have hw8 := hw
                  refine tk_i (va_runV (As := [.int v_18, .int v_19]) (rest := []) ⟨hx, hb, hml, hown, hts⟩ (c_X10_keep__7 l D cy z H.size Ps ws hw.1 p0 v_18 v_19 v_22 (fun f => (0 ≤ (f (Int32.toNatClampNeg p1 + 1)).toInt ∧ (f (Int32.toNatClampNeg p1 + 1)).toInt ≤ 7) ∧ (0 ≤ (f (Int32.toNatClampNeg p1 + 2)).toInt ∧ (f (Int32.toNatClampNeg p1 + 2)).toInt ≤ 0) ∧ OLp f p1 ∧ (0 ≤ (f (Int32.toNatClampNeg p1)).toInt ∧ (f (Int32.toNatClampNeg p1)).toInt ≤ 3) ∧ True) (fun f => (0 ≤ (f (Int32.toNatClampNeg p1 + 1)).toInt ∧ (f (Int32.toNatClampNeg p1 + 1)).toInt ≤ 7) ∧ (0 ≤ (f (Int32.toNatClampNeg p1 + 2)).toInt ∧ (f (Int32.toNatClampNeg p1 + 2)).toInt ≤ 5) ∧ OLp f p1 ∧ (0 ≤ (f (Int32.toNatClampNeg p1)).toInt ∧ (f (Int32.toNatClampNeg p1)).toInt ≤ 3) ∧ True) sg_20 h_p0 r_v_18 r_v_19 r_v_22 m_v_22 (AX.and hw x_LE_p0_p1_1_0_7 (AX.and hw x_LE_p0_p1_2_0_0 (AX.and hw x_OL_p0_p1 (AX.and hw x_LE_p0_p1_0_0_3 (lx_true hw h_p0))))) (fun f9 v9 hv9 H9 => ⟨(have h9 := H9.1; by have j9 : Int32.toNatClampNeg v_18 = Int32.toNatClampNeg p1 + 2 := (by have k1 := r_v_18.cl (by decide); have k2 := r_p1.cl (by decide); omega); show _ ∧ _; rw [pk_un (by omega)]; exact h9), (have h9 := H9.2.1; by have j9 : Int32.toNatClampNeg v_18 = Int32.toNatClampNeg p1 + 2 := (by have k1 := r_v_18.cl (by decide); have k2 := r_p1.cl (by decide); omega); show _ ∧ _; rw [← j9, pk_us]; exact hv9), (have h9 := H9.2.2.1; OL_upd h9 g_at (by have k1 := r_v_18.cl (by decide); have k2 := r_p1.1; omega)), (have h9 := H9.2.2.2.1; by have j9 : Int32.toNatClampNeg v_18 = Int32.toNatClampNeg p1 + 2 := (by have k1 := r_v_18.cl (by decide); have k2 := r_p1.cl (by decide); omega); show _ ∧ _; rw [pk_un (by omega)]; exact h9), trivial⟩) o_p0) (cwV 2 hts (gV tw_1727 tw_1729 ts_107 tw_15 tw_1730) rfl rfl rfl (by decide +kernel) ⟨Nat.le_of_ble_eq_true rfl, Nat.le_of_ble_eq_true rfl⟩) (tg_preV hw hK hSD hA (ci := 10) (q := (RX10, TX10, 49)) rfl h_p0 rfl) rfl rfl hl.1 rfl (lv_room (Nat.le_of_ble_eq_true rfl)) dX10_readDoes_102 ⟨Nat.le_of_ble_eq_true rfl, Nat.le_of_ble_eq_true rfl⟩) hw hA ⟨by decide, by decide⟩ (fun v_23 ws H locs hp_v_23 hw hF9 => ?_)
                  have m_u_4 := FLD.over hF9 m_u_4 (by decide)
                  have m_v_22 := FLD.over hF9 m_v_22 (by decide)
                  obtain ⟨hfn, hp_v_23⟩ := hp_v_23
                  obtain ⟨sg_24, q_sg_24⟩ : ∃ q9 : OS, (f_X10_keep__7 v_18 v_19 sg_20).1 = q9 := ⟨_, rfl⟩
                  have o_p0 : OV vw_M5 Ps ws p0 sg_24 := by rw [← q_sg_24]; exact hfn.1
                  have q_v_23 : (f_X10_keep__7 v_18 v_19 sg_20).2 = v_23 := hfn.2.1
                  have r_v_23 : RI v_23 1 1 := hp_v_23.1
                  by_cases c9_v_23 : v_23 = 0
                  · exact absurd (ti_eq c9_v_23) (by unfold RI at r_v_23; rw [Int32.toInt_zero]; omega)
                  · obtain ⟨v_25, m_v_25, r_v_25⟩ := ((hp_v_23.2.2 c9_v_23).1)
                    have x_LE_p0_p1_1_0_7 : AX 40 52 (fun f => 0 ≤ (f (Int32.toNatClampNeg p1 + 1)).toInt ∧ (f (Int32.toNatClampNeg p1 + 1)).toInt ≤ 7) Ps ws p0 := AX.imp ((hp_v_23.2.2 c9_v_23).2.1) (fun _ h9 => h9.1)
                    have x_LE_p0_p1_2_0_5 : AX 40 52 (fun f => 0 ≤ (f (Int32.toNatClampNeg p1 + 2)).toInt ∧ (f (Int32.toNatClampNeg p1 + 2)).toInt ≤ 5) Ps ws p0 := AX.imp ((hp_v_23.2.2 c9_v_23).2.1) (fun _ h9 => h9.2.1)
                    have x_OL_p0_p1 : AX 40 52 (fun f => OLp f p1) Ps ws p0 := AX.imp ((hp_v_23.2.2 c9_v_23).2.1) (fun _ h9 => h9.2.2.1)
                    have x_LE_p0_p1_0_0_3 : AX 40 52 (fun f => 0 ≤ (f (Int32.toNatClampNeg p1)).toInt ∧ (f (Int32.toNatClampNeg p1)).toInt ≤ 3) Ps ws p0 := AX.imp ((hp_v_23.2.2 c9_v_23).2.1) (fun _ h9 => h9.2.2.2.1)
                    have x_L9 := AX.and hw x_LE_p0_p1_0_0_3 (AX.and hw x_LE_p0_p1_1_0_7 x_LE_p0_p1_2_0_5)
                    have x_GL_p0_p1 : AX 40 52 (fun f => GLk f (Int32.toNatClampNeg p1)) Ps ws p0 := AX.imp x_L9 (fun f9 h9 => ⟨⟨by have k1 := h9.1.1; omega, by have k1 := h9.1.2; omega⟩, by have k1 := h9.1.1; have k2 := h9.2.1.2; omega, by have k3 := h9.2.2.2; omega⟩)
                    simp only [f_X10_readDoes__1_3, ↓reduceIte, eq_false c_6, q_v_3, eq_false c_14, eq_true c_26, q_v_5, q_sg_6, q_sg_8, q_v_9, eq_false k_55_0, eq_false k_55_1, q_v_18, q_sg_20, q_v_19, eq_false c9_v_19, q_sg_24, q_v_23, eq_false c9_v_23] at hE
                    subst hQ
                    exact W.zret (v := v_23) hx hb hr (tq_nz (r_v_23.to (by decide))) (fun t ht hW => ⟨⟨v_23, ws, rfl, ⟨⟨⟨(by rw [hR, ← hE]; exact o_p0), (by rw [hR, ← hE]), trivial⟩, r_v_23.to (by decide), (fun _ => trivial), (fun h0 => ⟨x_OL_p0_p1, x_GL_p0_p1, trivial⟩)⟩, hw.1, hw.2.2.2.2.1⟩, by rw [ht]; exact hw.2.1, va_K.moved hW.alike hK, hw.2.2.1⟩, hw.2.2.2.1.F ht⟩) hw.2.2.2.1.2.2 dX10_readDoes_105
          · have r_x2 : RI x2 13 12 := rc_lt2 rl_12 r_x2 (ti_nle c_26) (by decide)
            exact (r_x2.no (by decide)).elim
        · have r_v_3 : RI v_3 0 0 := rc_eq1 r_v_3 rl_0 (ti_eq c_14) (by decide)
          obtain ⟨v_26, e_v_26⟩ : ∃ q9 : Int32, q9 = x2 + Int32.ofInt 1 := ⟨_, rfl⟩
          obtain ⟨t_v_26, r_v_26⟩ := tq_add (lo := 10) (hi := 13) r_x2 (show RI (Int32.ofInt 1) 1 1 by unfold RI; decide +kernel) (by decide +kernel) e_v_26
          have t_v_26 : v_26.toInt = x2.toInt + 1 := t_v_26
          refine lv_iinc (v := v_26) (lv' := [(2, .int v_26), (0, .ref p0), (1, .int p1)]) hx hb dX10_readDoes_17 hl (k := 2) rfl e_v_26.symm (by decide) rfl (fun ls hl => ?_)
          have q_v_26 : x2 + (1 : Int32) = v_26 := by rw [e_v_26, show Int32.ofInt 1 = (1 : Int32) by decide]
          refine lv_goto (tgt := 3) hx hb dX10_readDoes_20 (by decide) ?_
          simp only [f_X10_readDoes__1_3, ↓reduceIte, eq_false c_6, q_v_3, eq_true c_14, q_v_26] at hE
          exact ih3 v_26 s0 ws _ _ ls (by have q0 := r_v_26.1; have u0 := r_v_26.2; have o0 := r_x2.1; have p0 := r_x2.2; omega) r_p1 (r_v_26.to (by decide)) x_LE_p0_p1_1_0_7 x_LE_p0_p1_2_0_0 x_MUL3_p1 x_OL_p0_p1 o_p0 hE hw (lv_sub hl [1, 2, 0] rfl)
  refine lv_bipush (v := 9) hx hb dX10_readDoes_0 (by decide) ?_
  refine lv_istore_n (lv' := [(2, .int 9), (0, .ref p0), (1, .int p1)]) hx hb dX10_readDoes_2 rfl hl (by decide) rfl (fun ls hl => ?_)
  simp only [f_X10_readDoes__1, ↓reduceIte] at hE
  exact B3 4294967298 9 s0 w0 _ _ ls (by have q0 := rl_9.1; have u0 := rl_9.2; omega) r_p1 (rl_9.to (by decide)) x_LE_p0_p1_1_0_7 x_LE_p0_p1_2_0_0 x_MUL3_p1 x_OL_p0_p1 o_p0 hE hw (lv_sub hl [1, 2, 0] rfl)
abbrev wr_X10_isSign__3 : List (Nat × Nat) := []
abbrev wa_X10_isSign__3 : List Nat := []
set_option maxHeartbeats 4000000 in
set_option maxRecDepth 100000 in
theorem c_X10_isSign__3 (l : Launch) (D : va_G) (cy : Nat → ClassId) (z : Nat → Nat) (sz : Nat) (Ps : PSI) (w0 : va_W) (hT : HT cy GG Ps w0) (p0 : Nat) (p1 : Int32) (s0 : OS) (h_p0 : (p0, 55) ∈ Ps) (r_p1 : RI p1 (-2147483648) 2147483647) (o_p0 : OV vw_M5 Ps w0 p0 s0) : Met l yX10_isSign (Cond.code yX10_isSign cX10_isSign 2 (some .boolean) :: gT) ({ frames := 0, cells := 0, slots := 0, locals := 200 } : Room) (va_Pc [.ref p0, .int p1] (PRE D cy z w0 sz)) (va_Qi (fun (r : Int32) (u : Unit) => ((f_X10_isSign__1 p1 s0) = r ∧ True) ∧ (RI r 0 1 ∧ (r = 0 → True) ∧ (¬ r = 0 → (∃ v9 : Int32, FLD w0 p0 10 7 (.int v9) ∧ RI v9 4 4) ∧ True))) (BB D cy (va_A w0 sz) (fun (u : Unit) => w0)) (va_A w0 sz)) 0 0 (va_A w0 sz) := by
  refine Met.ofW (cc := cX10_isSign) (maxL := 2) (ret := (some .boolean)) (by decide) rfl ?_
  intro p e s m args below meth c s₁ B hml hv
  obtain ⟨rfl, hsz, hP, hK, hD0, hSD⟩ := hv
  have hx := B.exec
  have hb := B.bytes
  have hr := B.returns
  have hlocks := B.notSynchronized
  have hts : ∀ w ∈ gT, w.before _ s = true := fun w h => atoms_spec (ws := Cond.code yX10_isSign cX10_isSign 2 (some .boolean) :: gT) B.pre w (List.mem_cons_of_mem _ h)
  have hown : s.vm.findClass RX10 = some m.cls := findClass_of_methodNamed B.named
  subst hsz
  have hD := hD0.self (sz := s.heap.size)
  generalize hAe : va_A w0 s.heap.size = A at hD hSD ⊢
  have hA : ∀ q : Nat, s.heap.size ≤ q → A q := fun q h => by rw [← hAe]; exact Or.inr h
  have hl := lv_entry ([.ref p0, .int p1]) (n := 2) (Nat.le_of_ble_eq_true rfl)
  rw [lg_entry_eq]
  generalize (lg_sl ([.ref p0, .int p1]) ++ List.replicate (2 - (lg_sl ([.ref p0, .int p1])).length) Slot.unset).toArray = ls at hl ⊢
  have hl : lv_has ls 2 [(0, .ref p0), (1, .int p1)] := hl
  refine nameQ (fun Q hQ => ?_)
  have hw : WD D cy GG A s wr_X10_isSign__3 wa_X10_isSign__3 Ps w0 Ps w0 s.heap [] := ⟨hT, hP, hD, va_S.rf, FR.rf, hT.1, [], (List.append_nil _).symm⟩
  obtain ⟨R9, hR⟩ : ∃ q9 : Int32, f_X10_isSign__1 p1 s0 = q9 := ⟨_, rfl⟩
  have hE := hR
  refine lv_aload_n hx hb dX10_isSign_0 rfl (lv_at hl 0 rfl) ?_
  refine tg_get (ci := 10) (ts := ty_MODEL) (C := RX10) (T := TX10) (N := 49) hx hb hts inX10 hown hK hw h_p0 rfl rfl 7 (by decide) (hts _ tw_1144) (fun _ h9 => h9) (ft := vI (-2147483648) 2147483647) rfl dX10_isSign_1 (fun u_1 hv_u_1 m_u_1 => ?_)
  obtain ⟨vu_1, rfl, r_vu_1⟩ := hv_u_1
  have q_vu_1 : s0.1 7 = vu_1 := OV.eqI (V := vw_M5) hw.2.2.1 o_p0 m_u_1 (by decide)
  refine lv_iconst (v := 4) hx hb dX10_isSign_4 (by decide) ?_
  refine lv_icmp_ne (tgt := 20) hx hb dX10_isSign_5 (by decide) (fun c_5 => ?_) (fun c_5 => ?_)
  · refine lv_iconst (v := 0) hx hb dX10_isSign_20 (by decide) ?_
    simp only [f_X10_isSign__1, ↓reduceIte, q_vu_1, eq_false c_5] at hE
    subst hQ
    exact W.zret (v := 0) hx hb hr (rfl) (fun t ht hW => ⟨⟨0, (), rfl, ⟨⟨(by rw [hR, ← hE]), trivial⟩, rl_0.to (by decide), (fun h0 => trivial), (fun h0 => absurd rfl h0)⟩, by rw [ht]; exact hw.2.1, va_K.moved hW.alike hK, hw.2.2.1⟩, hw.2.2.2.1.F ht⟩) hw.2.2.2.1.2.2 dX10_isSign_21
  · have r_vu_1 : RI vu_1 4 4 := rc_eq1 r_vu_1 rl_4 (ti_eq c_5) (by decide)
    refine lv_aload_n hx hb dX10_isSign_8 rfl (lv_at hl 0 rfl) ?_
    refine tg_get (ci := 10) (ts := ty_MODEL) (C := RX10) (T := TX10) (N := 49) hx hb hts inX10 hown hK hw h_p0 rfl rfl 9 (by decide) (hts _ tw_1146) (fun _ h9 => h9) (ft := vI (-2147483648) 2147483647) rfl dX10_isSign_9 (fun u_2 hv_u_2 m_u_2 => ?_)
    obtain ⟨vu_2, rfl, r_vu_2⟩ := hv_u_2
    have q_vu_2 : s0.1 9 = vu_2 := OV.eqI (V := vw_M5) hw.2.2.1 o_p0 m_u_2 (by decide)
    refine lv_iload_n hx hb dX10_isSign_12 rfl (lv_at hl 1 rfl) ?_
    refine lv_icmp_ne (tgt := 20) hx hb dX10_isSign_13 (by decide) (fun c_13 => ?_) (fun c_13 => ?_)
    · refine lv_iconst (v := 0) hx hb dX10_isSign_20 (by decide) ?_
      simp only [f_X10_isSign__1, ↓reduceIte, q_vu_1, eq_true c_5, q_vu_2, eq_false c_13] at hE
      subst hQ
      exact W.zret (v := 0) hx hb hr (rfl) (fun t ht hW => ⟨⟨0, (), rfl, ⟨⟨(by rw [hR, ← hE]), trivial⟩, rl_0.to (by decide), (fun h0 => trivial), (fun h0 => absurd rfl h0)⟩, by rw [ht]; exact hw.2.1, va_K.moved hW.alike hK, hw.2.2.1⟩, hw.2.2.2.1.F ht⟩) hw.2.2.2.1.2.2 dX10_isSign_21
    · refine lv_iconst (v := 1) hx hb dX10_isSign_16 (by decide) ?_
      refine lv_goto (tgt := 21) hx hb dX10_isSign_17 (by decide) ?_
      simp only [f_X10_isSign__1, ↓reduceIte, q_vu_1, eq_true c_5, q_vu_2, eq_true c_13] at hE
      subst hQ
      exact W.zret (v := 1) hx hb hr (rfl) (fun t ht hW => ⟨⟨1, (), rfl, ⟨⟨(by rw [hR, ← hE]), trivial⟩, rl_1.to (by decide), (fun _ => trivial), (fun h0 => ⟨⟨_, m_u_1, r_vu_1⟩, trivial⟩)⟩, by rw [ht]; exact hw.2.1, va_K.moved hW.alike hK, hw.2.2.1⟩, hw.2.2.2.1.F ht⟩) hw.2.2.2.1.2.2 dX10_isSign_21
abbrev wr_X10_readEnd__3 : List (Nat × Nat) := [(10, 5), (10, 6), (10, 7), (10, 8), (10, 9), (10, 10), (10, 11), (10, 12)]
abbrev wa_X10_readEnd__3 : List Nat := []
set_option maxHeartbeats 4000000 in
set_option maxRecDepth 100000 in
theorem c_X10_readEnd__3 (l : Launch) (D : va_G) (cy : Nat → ClassId) (z : Nat → Nat) (sz : Nat) (Ps : PSI) (w0 : va_W) (hT : HT cy GG Ps w0) (p0 : Nat) (s0 : OS) (h_p0 : (p0, 55) ∈ Ps) (o_p0 : OV vw_M5 Ps w0 p0 s0) : Met l yX10_readEnd (Cond.code yX10_readEnd cX10_readEnd 1 (some .boolean) :: gT) ({ frames := 3, cells := 0, slots := 0, locals := 600 } : Room) (va_Pc [.ref p0] (PRE D cy z w0 sz)) (va_Qi (fun (r : Int32) (u : va_W) => ((OV vw_M5 Ps u p0 ((f_X10_readEnd__2 s0).1) ∧ (f_X10_readEnd__2 s0).2 = r ∧ True) ∧ (RI r 0 1 ∧ (r = 0 → True) ∧ (¬ r = 0 → True))) ∧ HT cy GG Ps u ∧ FR wr_X10_readEnd__3 wa_X10_readEnd__3 Ps w0 u) (BB D cy (va_A w0 sz) (fun (u : va_W) => u)) (va_A w0 sz)) 0 0 (va_A w0 sz) := by
  refine Met.ofW (cc := cX10_readEnd) (maxL := 1) (ret := (some .boolean)) (by decide) rfl ?_
  intro p e s m args below meth c s₁ B hml hv
  obtain ⟨rfl, hsz, hP, hK, hD0, hSD⟩ := hv
  have hx := B.exec
  have hb := B.bytes
  have hr := B.returns
  have hlocks := B.notSynchronized
  have hts : ∀ w ∈ gT, w.before _ s = true := fun w h => atoms_spec (ws := Cond.code yX10_readEnd cX10_readEnd 1 (some .boolean) :: gT) B.pre w (List.mem_cons_of_mem _ h)
  have hown : s.vm.findClass RX10 = some m.cls := findClass_of_methodNamed B.named
  subst hsz
  have hD := hD0.self (sz := s.heap.size)
  generalize hAe : va_A w0 s.heap.size = A at hD hSD ⊢
  have hA : ∀ q : Nat, s.heap.size ≤ q → A q := fun q h => by rw [← hAe]; exact Or.inr h
  have hl := lv_entry ([.ref p0]) (n := 1) (Nat.le_of_ble_eq_true rfl)
  rw [lg_entry_eq]
  generalize (lg_sl ([.ref p0]) ++ List.replicate (1 - (lg_sl ([.ref p0])).length) Slot.unset).toArray = ls at hl ⊢
  have hl : lv_has ls 1 [(0, .ref p0)] := hl
  refine nameQ (fun Q hQ => ?_)
  have hw : WD D cy GG A s wr_X10_readEnd__3 wa_X10_readEnd__3 Ps w0 Ps w0 s.heap [] := ⟨hT, hP, hD, va_S.rf, FR.rf, hT.1, [], (List.append_nil _).symm⟩
  obtain ⟨R9, hR⟩ : ∃ q9 : OS × Int32, f_X10_readEnd__2 s0 = q9 := ⟨_, rfl⟩
  have hE := hR
  refine lv_aload_n hx hb dX10_readEnd_0 rfl (lv_at hl 0 rfl) ?_
  refine lv_bipush (v := 59) hx hb dX10_readEnd_1 (by decide) ?_
  refine tk_ir (va_runV (As := [.int 59]) (rest := []) ⟨hx, hb, hml, hown, hts⟩ (c_X10_isSign__3 l D cy z s.heap.size Ps w0 hw.1 p0 59 s0 h_p0 (rl_59.to (by decide)) o_p0) (cwV 1 hts (gV tw_1413 tw_1415 ts_63 tw_15 tw_1416) rfl rfl rfl (by decide +kernel) ⟨Nat.le_of_ble_eq_true rfl, Nat.le_of_ble_eq_true rfl⟩) (tg_preV hw hK hSD hA (ci := 10) (q := (RX10, TX10, 49)) rfl h_p0 rfl) rfl rfl hl.1 rfl (lv_room (Nat.le_of_ble_eq_true rfl)) dX10_readEnd_3 ⟨Nat.le_of_ble_eq_true rfl, Nat.le_of_ble_eq_true rfl⟩) hw hA (fun v_1  H locs hp_v_1 hw => ?_)
  obtain ⟨hfn, hp_v_1⟩ := hp_v_1
  have q_v_1 : (f_X10_isSign__1 (59 : Int32) s0) = v_1 := hfn.1
  have r_v_1 : RI v_1 0 1 := hp_v_1.1
  by_cases c9_v_1 : v_1 = 0
  · have r_v_1 : RI v_1 0 0 := by rw [c9_v_1]; exact rl_0
    refine lv_if_ne (tgt := 15) hx hb dX10_readEnd_6 (by decide) (fun c_6 => ?_) (fun c_6 => ?_)
    · exact absurd (r_v_1.eq.trans rl_0.eq.symm) ((ti_ne c_6))
    · refine lv_aload_n hx hb dX10_readEnd_9 rfl (lv_at hl 0 rfl) ?_
      refine lv_iconst (v := 1) hx hb dX10_readEnd_10 (by decide) ?_
      refine tk_i (va_runV (As := [.int 1]) (rest := []) ⟨hx, hb, hml, hown, hts⟩ (c_X10_bad__3 l D cy z H.size Ps w0 hw.1 p0 1 s0 h_p0 (rl_1.to (by decide)) o_p0) (cwV 1 hts (gV tw_1336 tw_1338 ts_46 tw_15 tw_1339) rfl rfl rfl (by decide +kernel) ⟨Nat.le_of_ble_eq_true rfl, Nat.le_of_ble_eq_true rfl⟩) (tg_preV hw hK hSD hA (ci := 10) (q := (RX10, TX10, 49)) rfl h_p0 rfl) rfl rfl hl.1 rfl (lv_room (Nat.le_of_ble_eq_true rfl)) dX10_readEnd_11 ⟨Nat.le_of_ble_eq_true rfl, Nat.le_of_ble_eq_true rfl⟩) hw hA ⟨by decide, by decide⟩ (fun v_2 ws H locs hp_v_2 hw hF9 => ?_)
      obtain ⟨hfn, hp_v_2⟩ := hp_v_2
      obtain ⟨sg_3, q_sg_3⟩ : ∃ q9 : OS, (f_X10_bad__1 (1 : Int32) s0).1 = q9 := ⟨_, rfl⟩
      have o_p0 : OV vw_M5 Ps ws p0 sg_3 := by rw [← q_sg_3]; exact hfn.1
      have q_v_2 : (f_X10_bad__1 (1 : Int32) s0).2 = v_2 := hfn.2.1
      have r_v_2 : RI v_2 0 0 := hp_v_2.1
      simp only [f_X10_readEnd__2, ↓reduceIte, q_v_1, eq_true c9_v_1, eq_true c_6, q_sg_3, q_v_2] at hE
      subst hQ
      exact W.zret (v := v_2) hx hb hr (tq_nz (r_v_2.to (by decide))) (fun t ht hW => ⟨⟨v_2, ws, rfl, ⟨⟨⟨(by rw [hR, ← hE]; exact o_p0), (by rw [hR, ← hE]), trivial⟩, r_v_2.to (by decide), (fun h0 => trivial), (fun _ => trivial)⟩, hw.1, hw.2.2.2.2.1⟩, by rw [ht]; exact hw.2.1, va_K.moved hW.alike hK, hw.2.2.1⟩, hw.2.2.2.1.F ht⟩) hw.2.2.2.1.2.2 dX10_readEnd_14
  · have r_v_1 : RI v_1 1 1 := rc_neL r_v_1 rl_0 (ti_ne c9_v_1) (by decide)
    obtain ⟨v_4, m_v_4, r_v_4⟩ := ((hp_v_1.2.2 c9_v_1).1)
    refine lv_if_ne (tgt := 15) hx hb dX10_readEnd_6 (by decide) (fun c_6 => ?_) (fun c_6 => ?_)
    · refine lv_aload_n hx hb dX10_readEnd_15 rfl (lv_at hl 0 rfl) ?_
      refine tk_v (va_runV (As := []) (rest := []) ⟨hx, hb, hml, hown, hts⟩ (c_X10_go__5 l D cy z H.size Ps w0 hw.1 p0 s0 h_p0 o_p0) (cwV 0 hts (gV tw_1298 tw_1300 ts_40 tw_15 tw_1301) rfl rfl rfl (by decide +kernel) ⟨Nat.le_of_ble_eq_true rfl, Nat.le_of_ble_eq_true rfl⟩) (tg_preV hw hK hSD hA (ci := 10) (q := (RX10, TX10, 49)) rfl h_p0 rfl) rfl rfl hl.1 rfl (lv_room (Nat.le_of_ble_eq_true rfl)) dX10_readEnd_16 ⟨Nat.le_of_ble_eq_true rfl, Nat.le_of_ble_eq_true rfl⟩) hw hA ⟨by decide, by decide⟩ (fun ws H locs hp_v_5 hw hF9 => ?_)
      obtain ⟨hfn, hp_v_5⟩ := hp_v_5
      obtain ⟨sg_6, q_sg_6⟩ : ∃ q9 : OS, (f_X10_go__2 s0) = q9 := ⟨_, rfl⟩
      have o_p0 : OV vw_M5 Ps ws p0 sg_6 := by rw [← q_sg_6]; exact hfn.1
      refine lv_iconst (v := 1) hx hb dX10_readEnd_19 (by decide) ?_
      simp only [f_X10_readEnd__2, ↓reduceIte, q_v_1, eq_false c9_v_1, eq_false c_6, q_sg_6] at hE
      subst hQ
      exact W.zret (v := 1) hx hb hr (rfl) (fun t ht hW => ⟨⟨1, ws, rfl, ⟨⟨⟨(by rw [hR, ← hE]; exact o_p0), (by rw [hR, ← hE]), trivial⟩, rl_1.to (by decide), (fun _ => trivial), (fun h0 => trivial)⟩, hw.1, hw.2.2.2.2.1⟩, by rw [ht]; exact hw.2.1, va_K.moved hW.alike hK, hw.2.2.1⟩, hw.2.2.2.1.F ht⟩) hw.2.2.2.1.2.2 dX10_readEnd_20
    · have r_v_1 : RI v_1 1 0 := rc_eq1 r_v_1 rl_0 (ti_eq c_6) (by decide)
      exact (r_v_1.no (by decide)).elim
abbrev wr_X10_isIn__21 : List (Nat × Nat) := []
abbrev wa_X10_isIn__21 : List Nat := []
set_option maxHeartbeats 4000000 in
set_option maxRecDepth 100000 in
theorem c_X10_isIn__21 (l : Launch) (D : va_G) (cy : Nat → ClassId) (z : Nat → Nat) (sz : Nat) (Ps : PSI) (w0 : va_W) (hT : HT cy GG Ps w0) (p0 : Int32) (p1 : Int32) (p2 : Int32) (r_p0 : RI p0 (-2147483648) 2147483647) (r_p1 : RI p1 1 1) (r_p2 : RI p2 60 60) : Met l yX10_isIn (Cond.code yX10_isIn cX10_isIn 3 (some .boolean) :: gT) ({ frames := 0, cells := 0, slots := 0, locals := 200 } : Room) (va_Pc [.int p0, .int p1, .int p2] (PRE D cy z w0 sz)) (va_Qi (fun (r : Int32) (u : Unit) => ((f_X10_isIn__14 p0 p1 p2) = r ∧ True) ∧ (RI r 0 1 ∧ (r = 0 → True) ∧ (¬ r = 0 → RI p0 1 60 ∧ True))) (BB D cy (va_A w0 sz) (fun (u : Unit) => w0)) (va_A w0 sz)) 0 0 (va_A w0 sz) := by
  refine Met.ofW (cc := cX10_isIn) (maxL := 3) (ret := (some .boolean)) (by decide) rfl ?_
  intro p e s m args below meth c s₁ B hml hv
  obtain ⟨rfl, hsz, hP, hK, hD0, hSD⟩ := hv
  have hx := B.exec
  have hb := B.bytes
  have hr := B.returns
  have hlocks := B.notSynchronized
  have hts : ∀ w ∈ gT, w.before _ s = true := fun w h => atoms_spec (ws := Cond.code yX10_isIn cX10_isIn 3 (some .boolean) :: gT) B.pre w (List.mem_cons_of_mem _ h)
  have hown : s.vm.findClass RX10 = some m.cls := findClass_of_methodNamed B.named
  subst hsz
  have hD := hD0.self (sz := s.heap.size)
  generalize hAe : va_A w0 s.heap.size = A at hD hSD ⊢
  have hA : ∀ q : Nat, s.heap.size ≤ q → A q := fun q h => by rw [← hAe]; exact Or.inr h
  have hl := lv_entry ([.int p0, .int p1, .int p2]) (n := 3) (Nat.le_of_ble_eq_true rfl)
  rw [lg_entry_eq]
  generalize (lg_sl ([.int p0, .int p1, .int p2]) ++ List.replicate (3 - (lg_sl ([.int p0, .int p1, .int p2])).length) Slot.unset).toArray = ls at hl ⊢
  have hl : lv_has ls 3 [(0, .int p0), (1, .int p1), (2, .int p2)] := hl
  refine nameQ (fun Q hQ => ?_)
  have hw : WD D cy GG A s wr_X10_isIn__21 wa_X10_isIn__21 Ps w0 Ps w0 s.heap [] := ⟨hT, hP, hD, va_S.rf, FR.rf, hT.1, [], (List.append_nil _).symm⟩
  obtain ⟨R9, hR⟩ : ∃ q9 : Int32, f_X10_isIn__14 p0 p1 p2 = q9 := ⟨_, rfl⟩
  have hE := hR
  refine lv_iload_n hx hb dX10_isIn_0 rfl (lv_at hl 0 rfl) ?_
  refine lv_iload_n hx hb dX10_isIn_1 rfl (lv_at hl 1 rfl) ?_
  refine lv_icmp_lt (tgt := 14) hx hb dX10_isIn_2 (by decide) (fun c_2 => ?_) (fun c_2 => ?_)
  · have r_p0 : RI p0 (-2147483648) 0 := rc_lt1 r_p0 r_p1 (ti_lt c_2) (by decide)
    refine lv_iconst (v := 0) hx hb dX10_isIn_14 (by decide) ?_
    simp only [f_X10_isIn__14, ↓reduceIte, eq_true c_2] at hE
    subst hQ
    exact W.zret (v := 0) hx hb hr (rfl) (fun t ht hW => ⟨⟨0, (), rfl, ⟨⟨(by rw [hR, ← hE]), trivial⟩, rl_0.to (by decide), (fun h0 => trivial), (fun h0 => absurd rfl h0)⟩, by rw [ht]; exact hw.2.1, va_K.moved hW.alike hK, hw.2.2.1⟩, hw.2.2.2.1.F ht⟩) hw.2.2.2.1.2.2 dX10_isIn_15
  · have r_p0 : RI p0 1 2147483647 := rc_le2 r_p1 r_p0 (ti_nlt c_2) (by decide)
    refine lv_iload_n hx hb dX10_isIn_5 rfl (lv_at hl 0 rfl) ?_
    refine lv_iload_n hx hb dX10_isIn_6 rfl (lv_at hl 2 rfl) ?_
    refine lv_icmp_gt (tgt := 14) hx hb dX10_isIn_7 (by decide) (fun c_7 => ?_) (fun c_7 => ?_)
    · have r_p0 : RI p0 61 2147483647 := rc_lt2 r_p2 r_p0 (ti_lt c_7) (by decide)
      refine lv_iconst (v := 0) hx hb dX10_isIn_14 (by decide) ?_
      simp only [f_X10_isIn__14, ↓reduceIte, eq_false c_2, eq_true c_7] at hE
      subst hQ
      exact W.zret (v := 0) hx hb hr (rfl) (fun t ht hW => ⟨⟨0, (), rfl, ⟨⟨(by rw [hR, ← hE]), trivial⟩, rl_0.to (by decide), (fun h0 => trivial), (fun h0 => absurd rfl h0)⟩, by rw [ht]; exact hw.2.1, va_K.moved hW.alike hK, hw.2.2.1⟩, hw.2.2.2.1.F ht⟩) hw.2.2.2.1.2.2 dX10_isIn_15
    · have r_p0 : RI p0 1 60 := rc_le1 r_p0 r_p2 (ti_nlt c_7) (by decide)
      refine lv_iconst (v := 1) hx hb dX10_isIn_10 (by decide) ?_
      refine lv_goto (tgt := 15) hx hb dX10_isIn_11 (by decide) ?_
      simp only [f_X10_isIn__14, ↓reduceIte, eq_false c_2, eq_false c_7] at hE
      subst hQ
      exact W.zret (v := 1) hx hb hr (rfl) (fun t ht hW => ⟨⟨1, (), rfl, ⟨⟨(by rw [hR, ← hE]), trivial⟩, rl_1.to (by decide), (fun _ => trivial), (fun h0 => ⟨r_p0, trivial⟩)⟩, by rw [ht]; exact hw.2.1, va_K.moved hW.alike hK, hw.2.2.1⟩, hw.2.2.2.1.F ht⟩) hw.2.2.2.1.2.2 dX10_isIn_15
abbrev wr_X10_readNumber__13 : List (Nat × Nat) := [(10, 5), (10, 6), (10, 7), (10, 8), (10, 9), (10, 10), (10, 11), (10, 12), (10, 13)]
abbrev wa_X10_readNumber__13 : List Nat := []
set_option maxHeartbeats 4000000 in
set_option maxRecDepth 100000 in
theorem c_X10_readNumber__13 (l : Launch) (D : va_G) (cy : Nat → ClassId) (z : Nat → Nat) (sz : Nat) (Ps : PSI) (w0 : va_W) (hT : HT cy GG Ps w0) (p0 : Nat) (p1 : Int32) (p2 : Int32) (s0 : OS) (h_p0 : (p0, 55) ∈ Ps) (r_p1 : RI p1 1 1) (r_p2 : RI p2 60 60) (o_p0 : OV vw_M5 Ps w0 p0 s0) : Met l yX10_readNumber (Cond.code yX10_readNumber cX10_readNumber 3 (some .boolean) :: gT) ({ frames := 3, cells := 0, slots := 0, locals := 600 } : Room) (va_Pc [.ref p0, .int p1, .int p2] (PRE D cy z w0 sz)) (va_Qi (fun (r : Int32) (u : va_W) => ((OV vw_M5 Ps u p0 ((f_X10_readNumber__7 p1 p2 s0).1) ∧ (f_X10_readNumber__7 p1 p2 s0).2 = r ∧ True) ∧ (RI r 0 1 ∧ (r = 0 → True) ∧ (¬ r = 0 → (∃ v9 : Int32, FLD u p0 10 13 (.int v9) ∧ RI v9 1 60) ∧ True))) ∧ HT cy GG Ps u ∧ FR wr_X10_readNumber__13 wa_X10_readNumber__13 Ps w0 u) (BB D cy (va_A w0 sz) (fun (u : va_W) => u)) (va_A w0 sz)) 0 0 (va_A w0 sz) := by
  refine Met.ofW (cc := cX10_readNumber) (maxL := 3) (ret := (some .boolean)) (by decide) rfl ?_
  intro p e s m args below meth c s₁ B hml hv
  obtain ⟨rfl, hsz, hP, hK, hD0, hSD⟩ := hv
  have hx := B.exec
  have hb := B.bytes
  have hr := B.returns
  have hlocks := B.notSynchronized
  have hts : ∀ w ∈ gT, w.before _ s = true := fun w h => atoms_spec (ws := Cond.code yX10_readNumber cX10_readNumber 3 (some .boolean) :: gT) B.pre w (List.mem_cons_of_mem _ h)
  have hown : s.vm.findClass RX10 = some m.cls := findClass_of_methodNamed B.named
  subst hsz
  have hD := hD0.self (sz := s.heap.size)
  generalize hAe : va_A w0 s.heap.size = A at hD hSD ⊢
  have hA : ∀ q : Nat, s.heap.size ≤ q → A q := fun q h => by rw [← hAe]; exact Or.inr h
  have hl := lv_entry ([.ref p0, .int p1, .int p2]) (n := 3) (Nat.le_of_ble_eq_true rfl)
  rw [lg_entry_eq]
  generalize (lg_sl ([.ref p0, .int p1, .int p2]) ++ List.replicate (3 - (lg_sl ([.ref p0, .int p1, .int p2])).length) Slot.unset).toArray = ls at hl ⊢
  have hl : lv_has ls 3 [(0, .ref p0), (1, .int p1), (2, .int p2)] := hl
  refine nameQ (fun Q hQ => ?_)
  have hw : WD D cy GG A s wr_X10_readNumber__13 wa_X10_readNumber__13 Ps w0 Ps w0 s.heap [] := ⟨hT, hP, hD, va_S.rf, FR.rf, hT.1, [], (List.append_nil _).symm⟩
  obtain ⟨R9, hR⟩ : ∃ q9 : OS × Int32, f_X10_readNumber__7 p1 p2 s0 = q9 := ⟨_, rfl⟩
  have hE := hR
  refine lv_aload_n hx hb dX10_readNumber_0 rfl (lv_at hl 0 rfl) ?_
  refine tg_get (ci := 10) (ts := ty_MODEL) (C := RX10) (T := TX10) (N := 49) hx hb hts inX10 hown hK hw h_p0 rfl rfl 7 (by decide) (hts _ tw_1144) (fun _ h9 => h9) (ft := vI (-2147483648) 2147483647) rfl dX10_readNumber_1 (fun u_1 hv_u_1 m_u_1 => ?_)
  obtain ⟨vu_1, rfl, r_vu_1⟩ := hv_u_1
  have q_vu_1 : s0.1 7 = vu_1 := OV.eqI (V := vw_M5) hw.2.2.1 o_p0 m_u_1 (by decide)
  refine lv_iconst (v := 3) hx hb dX10_readNumber_4 (by decide) ?_
  refine lv_icmp_eq (tgt := 14) hx hb dX10_readNumber_5 (by decide) (fun c_5 => ?_) (fun c_5 => ?_)
  · have r_vu_1 : RI vu_1 3 3 := rc_eq1 r_vu_1 rl_3 (ti_eq c_5) (by decide)
    refine lv_aload_n hx hb dX10_readNumber_14 rfl (lv_at hl 0 rfl) ?_
    refine tg_get (ci := 10) (ts := ty_MODEL) (C := RX10) (T := TX10) (N := 49) hx hb hts inX10 hown hK hw h_p0 rfl rfl 8 (by decide) (hts _ tw_1145) (fun _ h9 => h9) (ft := vI (-2147483648) 2147483647) rfl dX10_readNumber_15 (fun u_2 hv_u_2 m_u_2 => ?_)
    obtain ⟨vu_2, rfl, r_vu_2⟩ := hv_u_2
    have q_vu_2 : s0.1 8 = vu_2 := OV.eqI (V := vw_M5) hw.2.2.1 o_p0 m_u_2 (by decide)
    refine lv_iload_n hx hb dX10_readNumber_18 rfl (lv_at hl 1 rfl) ?_
    refine lv_iload_n hx hb dX10_readNumber_19 rfl (lv_at hl 2 rfl) ?_
    refine tk_ir (va_runS (As := [.int vu_2, .int p1, .int p2]) (rest := []) ⟨hx, hb, hml, hown, hts⟩ (c_X10_isIn__21 l D cy z s.heap.size Ps w0 hw.1 vu_2 p1 p2 r_vu_2 r_p1 r_p2) (va_cwS 3 hts (gS tw_1359 tw_1360 tw_15 tw_1361) rfl rfl rfl (by decide +kernel) ⟨Nat.le_of_ble_eq_true rfl, Nat.le_of_ble_eq_true rfl⟩) (tg_preS hw hK hSD hA) rfl rfl hl.1 rfl (lv_room (Nat.le_of_ble_eq_true rfl)) dX10_readNumber_20 ⟨Nat.le_of_ble_eq_true rfl, Nat.le_of_ble_eq_true rfl⟩) hw hA (fun v_3  H locs hp_v_3 hw => ?_)
    obtain ⟨hfn, hp_v_3⟩ := hp_v_3
    have q_v_3 : (f_X10_isIn__14 vu_2 p1 p2) = v_3 := hfn.1
    have r_v_3 : RI v_3 0 1 := hp_v_3.1
    refine lv_if_ne (tgt := 32) hx hb dX10_readNumber_23 (by decide) (fun c_23 => ?_) (fun c_23 => ?_)
    · have r_v_3 : RI v_3 1 1 := rc_neL r_v_3 rl_0 (ti_ne c_23) (by decide)
      have r_vu_2 : RI vu_2 1 60 := ((hp_v_3.2.2 c_23).1)
      refine lv_aload_n hx hb dX10_readNumber_32 rfl (lv_at hl 0 rfl) ?_
      refine lv_aload_n hx hb dX10_readNumber_33 rfl (lv_at hl 0 rfl) ?_
      refine tg_mem (ci := 10) (C := RX10) (T := TX10) (N := 49) hx hb hts inX10 hown hK hw 8 m_u_2 rfl (by decide) (hts _ tw_1145) (fun _ h9 => h9) dX10_readNumber_34 ?_
      refine tg_put (ci := 10) (ts := ty_MODEL) (v := .int vu_2) (ty := .int) (C := RX10) (T := TX10) (N := 49) hx hb hts inX10 tyX10 tyX10_ok nmX10 hown hK hw h_p0 rfl rfl 13 (by decide) (hts _ tw_1150) (fun _ h9 => h9) rfl (by decide +kernel) rfl rfl (ft := vI (-2147483648) 2147483647) rfl ⟨_, rfl, (r_vu_2.to (by decide))⟩ (by decide) dX10_readNumber_37 (fun ws H locs hw n_k_4 hF9 => ?_)
      have m_u_1 := FLD.over hF9 m_u_1 (by decide)
      have m_u_2 := FLD.over hF9 m_u_2 (by decide)
      obtain ⟨sg_5, q_sg_5⟩ : ∃ q9 : OS, sI s0 13 vu_2 = q9 := ⟨_, rfl⟩
      have o_p0 : OV vw_M5 Ps ws p0 sg_5 := by rw [← q_sg_5]; exact OV.putI (V := vw_M5) hF9 n_k_4 o_p0 (by decide)
      refine lv_aload_n hx hb dX10_readNumber_40 rfl (lv_at hl 0 rfl) ?_
      refine tk_v (va_runV (As := []) (rest := []) ⟨hx, hb, hml, hown, hts⟩ (c_X10_go__5 l D cy z H.size Ps ws hw.1 p0 sg_5 h_p0 o_p0) (cwV 0 hts (gV tw_1298 tw_1300 ts_40 tw_15 tw_1301) rfl rfl rfl (by decide +kernel) ⟨Nat.le_of_ble_eq_true rfl, Nat.le_of_ble_eq_true rfl⟩) (tg_preV hw hK hSD hA (ci := 10) (q := (RX10, TX10, 49)) rfl h_p0 rfl) rfl rfl hl.1 rfl (lv_room (Nat.le_of_ble_eq_true rfl)) dX10_readNumber_41 ⟨Nat.le_of_ble_eq_true rfl, Nat.le_of_ble_eq_true rfl⟩) hw hA ⟨by decide, by decide⟩ (fun ws H locs hp_v_6 hw hF9 => ?_)
      have n_k_4 := FLD.over hF9 n_k_4 (by decide)
      obtain ⟨hfn, hp_v_6⟩ := hp_v_6
      obtain ⟨sg_7, q_sg_7⟩ : ∃ q9 : OS, (f_X10_go__2 sg_5) = q9 := ⟨_, rfl⟩
      have o_p0 : OV vw_M5 Ps ws p0 sg_7 := by rw [← q_sg_7]; exact hfn.1
      refine lv_iconst (v := 1) hx hb dX10_readNumber_44 (by decide) ?_
      simp only [f_X10_readNumber__7, ↓reduceIte, q_vu_1, eq_true c_5, q_vu_2, q_v_3, eq_false c_23, q_sg_5, q_sg_7] at hE
      subst hQ
      exact W.zret (v := 1) hx hb hr (rfl) (fun t ht hW => ⟨⟨1, ws, rfl, ⟨⟨⟨(by rw [hR, ← hE]; exact o_p0), (by rw [hR, ← hE]), trivial⟩, rl_1.to (by decide), (fun _ => trivial), (fun h0 => ⟨⟨_, n_k_4, r_vu_2⟩, trivial⟩)⟩, hw.1, hw.2.2.2.2.1⟩, by rw [ht]; exact hw.2.1, va_K.moved hW.alike hK, hw.2.2.1⟩, hw.2.2.2.1.F ht⟩) hw.2.2.2.1.2.2 dX10_readNumber_45
    · have r_v_3 : RI v_3 0 0 := rc_eq1 r_v_3 rl_0 (ti_eq c_23) (by decide)
      refine lv_aload_n hx hb dX10_readNumber_26 rfl (lv_at hl 0 rfl) ?_
      refine lv_iconst (v := 2) hx hb dX10_readNumber_27 (by decide) ?_
      refine tk_i (va_runV (As := [.int 2]) (rest := []) ⟨hx, hb, hml, hown, hts⟩ (c_X10_bad__3 l D cy z H.size Ps w0 hw.1 p0 2 s0 h_p0 (rl_2.to (by decide)) o_p0) (cwV 1 hts (gV tw_1336 tw_1338 ts_46 tw_15 tw_1339) rfl rfl rfl (by decide +kernel) ⟨Nat.le_of_ble_eq_true rfl, Nat.le_of_ble_eq_true rfl⟩) (tg_preV hw hK hSD hA (ci := 10) (q := (RX10, TX10, 49)) rfl h_p0 rfl) rfl rfl hl.1 rfl (lv_room (Nat.le_of_ble_eq_true rfl)) dX10_readNumber_28 ⟨Nat.le_of_ble_eq_true rfl, Nat.le_of_ble_eq_true rfl⟩) hw hA ⟨by decide, by decide⟩ (fun v_8 ws H locs hp_v_8 hw hF9 => ?_)
      have m_u_1 := FLD.over hF9 m_u_1 (by decide)
      have m_u_2 := FLD.over hF9 m_u_2 (by decide)
      obtain ⟨hfn, hp_v_8⟩ := hp_v_8
      obtain ⟨sg_9, q_sg_9⟩ : ∃ q9 : OS, (f_X10_bad__1 (2 : Int32) s0).1 = q9 := ⟨_, rfl⟩
      have o_p0 : OV vw_M5 Ps ws p0 sg_9 := by rw [← q_sg_9]; exact hfn.1
      have q_v_8 : (f_X10_bad__1 (2 : Int32) s0).2 = v_8 := hfn.2.1
      have r_v_8 : RI v_8 0 0 := hp_v_8.1
      simp only [f_X10_readNumber__7, ↓reduceIte, q_vu_1, eq_true c_5, q_vu_2, q_v_3, eq_true c_23, q_sg_9, q_v_8] at hE
      subst hQ
      exact W.zret (v := v_8) hx hb hr (tq_nz (r_v_8.to (by decide))) (fun t ht hW => ⟨⟨v_8, ws, rfl, ⟨⟨⟨(by rw [hR, ← hE]; exact o_p0), (by rw [hR, ← hE]), trivial⟩, r_v_8.to (by decide), (fun h0 => trivial), (fun h0 => absurd (Int32.toInt_inj.mp (by have h8 := r_v_8; unfold RI at h8; rw [Int32.toInt_zero]; omega)) h0)⟩, hw.1, hw.2.2.2.2.1⟩, by rw [ht]; exact hw.2.1, va_K.moved hW.alike hK, hw.2.2.1⟩, hw.2.2.2.1.F ht⟩) hw.2.2.2.1.2.2 dX10_readNumber_31
  · refine lv_aload_n hx hb dX10_readNumber_8 rfl (lv_at hl 0 rfl) ?_
    refine lv_iconst (v := 1) hx hb dX10_readNumber_9 (by decide) ?_
    refine tk_i (va_runV (As := [.int 1]) (rest := []) ⟨hx, hb, hml, hown, hts⟩ (c_X10_bad__3 l D cy z s.heap.size Ps w0 hw.1 p0 1 s0 h_p0 (rl_1.to (by decide)) o_p0) (cwV 1 hts (gV tw_1336 tw_1338 ts_46 tw_15 tw_1339) rfl rfl rfl (by decide +kernel) ⟨Nat.le_of_ble_eq_true rfl, Nat.le_of_ble_eq_true rfl⟩) (tg_preV hw hK hSD hA (ci := 10) (q := (RX10, TX10, 49)) rfl h_p0 rfl) rfl rfl hl.1 rfl (lv_room (Nat.le_of_ble_eq_true rfl)) dX10_readNumber_10 ⟨Nat.le_of_ble_eq_true rfl, Nat.le_of_ble_eq_true rfl⟩) hw hA ⟨by decide, by decide⟩ (fun v_10 ws H locs hp_v_10 hw hF9 => ?_)
    have m_u_1 := FLD.over hF9 m_u_1 (by decide)
    obtain ⟨hfn, hp_v_10⟩ := hp_v_10
    obtain ⟨sg_11, q_sg_11⟩ : ∃ q9 : OS, (f_X10_bad__1 (1 : Int32) s0).1 = q9 := ⟨_, rfl⟩
    have o_p0 : OV vw_M5 Ps ws p0 sg_11 := by rw [← q_sg_11]; exact hfn.1
    have q_v_10 : (f_X10_bad__1 (1 : Int32) s0).2 = v_10 := hfn.2.1
    have r_v_10 : RI v_10 0 0 := hp_v_10.1
    simp only [f_X10_readNumber__7, ↓reduceIte, q_vu_1, eq_false c_5, q_sg_11, q_v_10] at hE
    subst hQ
    exact W.zret (v := v_10) hx hb hr (tq_nz (r_v_10.to (by decide))) (fun t ht hW => ⟨⟨v_10, ws, rfl, ⟨⟨⟨(by rw [hR, ← hE]; exact o_p0), (by rw [hR, ← hE]), trivial⟩, r_v_10.to (by decide), (fun h0 => trivial), (fun h0 => absurd (Int32.toInt_inj.mp (by have h8 := r_v_10; unfold RI at h8; rw [Int32.toInt_zero]; omega)) h0)⟩, hw.1, hw.2.2.2.2.1⟩, by rw [ht]; exact hw.2.1, va_K.moved hW.alike hK, hw.2.2.1⟩, hw.2.2.2.1.F ht⟩) hw.2.2.2.1.2.2 dX10_readNumber_13
abbrev wr_X10_keep__8 : List (Nat × Nat) := []
abbrev wa_X10_keep__8 : List Nat := []
set_option maxHeartbeats 4000000 in
set_option maxRecDepth 100000 in
theorem c_X10_keep__8 (l : Launch) (D : va_G) (cy : Nat → ClassId) (z : Nat → Nat) (sz : Nat) (Ps : PSI) (w0 : va_W) (hT : HT cy GG Ps w0) (p0 : Nat) (p1 : Int32) (p2 : Int32) (F : (Nat → Int32) → Prop) (F2 : (Nat → Int32) → Prop) (s0 : OS) (h_p0 : (p0, 55) ∈ Ps) (r_p1 : RI p1 1 118) (r_p2 : RI p2 0 0) (x_F : AX 40 52 F Ps w0 p0) (hF : ∀ (f : Nat → Int32) (v : Int32), RI v (-2147483648) 2147483647 → F f → F2 (upd f (Int32.toNatClampNeg p1) v)) (o_p0 : OV vw_M5 Ps w0 p0 s0) : Met l yX10_keep (Cond.code yX10_keep cX10_keep 3 (some .boolean) :: gT) ({ frames := 0, cells := 0, slots := 0, locals := 200 } : Room) (va_Pc [.ref p0, .int p1, .int p2] (PRE D cy z w0 sz)) (va_Qi (fun (r : Int32) (u : Unit) => ((f_X10_keep__6 p1 p2 s0) = r ∧ True) ∧ (RI r 0 0 ∧ (r = 0 → AX 40 52 F Ps w0 p0 ∧ True) ∧ (¬ r = 0 → AX 40 52 F2 Ps w0 p0 ∧ True))) (BB D cy (va_A w0 sz) (fun (u : Unit) => w0)) (va_A w0 sz)) 0 0 (va_A w0 sz) := by
  refine Met.ofW (cc := cX10_keep) (maxL := 3) (ret := (some .boolean)) (by decide) rfl ?_
  intro p e s m args below meth c s₁ B hml hv
  obtain ⟨rfl, hsz, hP, hK, hD0, hSD⟩ := hv
  have hx := B.exec
  have hb := B.bytes
  have hr := B.returns
  have hlocks := B.notSynchronized
  have hts : ∀ w ∈ gT, w.before _ s = true := fun w h => atoms_spec (ws := Cond.code yX10_keep cX10_keep 3 (some .boolean) :: gT) B.pre w (List.mem_cons_of_mem _ h)
  have hown : s.vm.findClass RX10 = some m.cls := findClass_of_methodNamed B.named
  subst hsz
  have hD := hD0.self (sz := s.heap.size)
  generalize hAe : va_A w0 s.heap.size = A at hD hSD ⊢
  have hA : ∀ q : Nat, s.heap.size ≤ q → A q := fun q h => by rw [← hAe]; exact Or.inr h
  have hl := lv_entry ([.ref p0, .int p1, .int p2]) (n := 3) (Nat.le_of_ble_eq_true rfl)
  rw [lg_entry_eq]
  generalize (lg_sl ([.ref p0, .int p1, .int p2]) ++ List.replicate (3 - (lg_sl ([.ref p0, .int p1, .int p2])).length) Slot.unset).toArray = ls at hl ⊢
  have hl : lv_has ls 3 [(0, .ref p0), (1, .int p1), (2, .int p2)] := hl
  refine nameQ (fun Q hQ => ?_)
  have hw : WD D cy GG A s wr_X10_keep__8 wa_X10_keep__8 Ps w0 Ps w0 s.heap [] := ⟨hT, hP, hD, va_S.rf, FR.rf, hT.1, [], (List.append_nil _).symm⟩
  obtain ⟨R9, hR⟩ : ∃ q9 : Int32, f_X10_keep__6 p1 p2 s0 = q9 := ⟨_, rfl⟩
  have hE := hR
  refine lv_iload_n hx hb dX10_keep_0 rfl (lv_at hl 2 rfl) ?_
  refine lv_if_eq (tgt := 14) hx hb dX10_keep_1 (by decide) (fun c_1 => ?_) (fun c_1 => ?_)
  · refine lv_iload_n hx hb dX10_keep_14 rfl (lv_at hl 2 rfl) ?_
    simp only [f_X10_keep__6, ↓reduceIte, eq_true c_1] at hE
    subst hQ
    exact W.zret (v := p2) hx hb hr (tq_nz (r_p2.to (by decide))) (fun t ht hW => ⟨⟨p2, (), rfl, ⟨⟨(by rw [hR, ← hE]), trivial⟩, r_p2.to (by decide), (fun h0 => ⟨x_F, trivial⟩), (fun h0 => absurd (Int32.toInt_inj.mp (by have h8 := r_p2; unfold RI at h8; rw [Int32.toInt_zero]; omega)) h0)⟩, by rw [ht]; exact hw.2.1, va_K.moved hW.alike hK, hw.2.2.1⟩, hw.2.2.2.1.F ht⟩) hw.2.2.2.1.2.2 dX10_keep_15
  · exact absurd (r_p2.eq.trans rl_0.eq.symm) ((ti_ne c_1))
abbrev wr_X10_keep__9 : List (Nat × Nat) := []
abbrev wa_X10_keep__9 : List Nat := [52]
set_option maxHeartbeats 4000000 in
set_option maxRecDepth 100000 in
theorem c_X10_keep__9 (l : Launch) (D : va_G) (cy : Nat → ClassId) (z : Nat → Nat) (sz : Nat) (Ps : PSI) (w0 : va_W) (hT : HT cy GG Ps w0) (p0 : Nat) (p1 : Int32) (p2 : Int32) (f0_13 : Int32) (F : (Nat → Int32) → Prop) (F2 : (Nat → Int32) → Prop) (s0 : OS) (h_p0 : (p0, 55) ∈ Ps) (r_p1 : RI p1 1 118) (r_p2 : RI p2 1 1) (r_f0_13 : RI f0_13 1 60) (m_f0_13 : FLD w0 p0 10 13 (.int f0_13)) (x_F : AX 40 52 F Ps w0 p0) (hF : ∀ (f : Nat → Int32) (v : Int32), RI v 1 60 → F f → F2 (upd f (Int32.toNatClampNeg p1) v)) (o_p0 : OV vw_M5 Ps w0 p0 s0) : Met l yX10_keep (Cond.code yX10_keep cX10_keep 3 (some .boolean) :: gT) ({ frames := 0, cells := 0, slots := 0, locals := 200 } : Room) (va_Pc [.ref p0, .int p1, .int p2] (PRE D cy z w0 sz)) (va_Qi (fun (r : Int32) (u : va_W) => ((OV vw_M5 Ps u p0 ((f_X10_keep__7 p1 p2 s0).1) ∧ (f_X10_keep__7 p1 p2 s0).2 = r ∧ True) ∧ (RI r 1 1 ∧ (r = 0 → AX 40 52 F Ps u p0 ∧ True) ∧ (¬ r = 0 → (∃ v9 : Int32, FLD u p0 10 13 (.int v9) ∧ RI v9 1 60) ∧ AX 40 52 F2 Ps u p0 ∧ True))) ∧ HT cy GG Ps u ∧ FR wr_X10_keep__9 wa_X10_keep__9 Ps w0 u) (BB D cy (va_A w0 sz) (fun (u : va_W) => u)) (va_A w0 sz)) 0 0 (va_A w0 sz) := by
  refine Met.ofW (cc := cX10_keep) (maxL := 3) (ret := (some .boolean)) (by decide) rfl ?_
  intro p e s m args below meth c s₁ B hml hv
  obtain ⟨rfl, hsz, hP, hK, hD0, hSD⟩ := hv
  have hx := B.exec
  have hb := B.bytes
  have hr := B.returns
  have hlocks := B.notSynchronized
  have hts : ∀ w ∈ gT, w.before _ s = true := fun w h => atoms_spec (ws := Cond.code yX10_keep cX10_keep 3 (some .boolean) :: gT) B.pre w (List.mem_cons_of_mem _ h)
  have hown : s.vm.findClass RX10 = some m.cls := findClass_of_methodNamed B.named
  subst hsz
  have hD := hD0.self (sz := s.heap.size)
  generalize hAe : va_A w0 s.heap.size = A at hD hSD ⊢
  have hA : ∀ q : Nat, s.heap.size ≤ q → A q := fun q h => by rw [← hAe]; exact Or.inr h
  have hl := lv_entry ([.ref p0, .int p1, .int p2]) (n := 3) (Nat.le_of_ble_eq_true rfl)
  rw [lg_entry_eq]
  generalize (lg_sl ([.ref p0, .int p1, .int p2]) ++ List.replicate (3 - (lg_sl ([.ref p0, .int p1, .int p2])).length) Slot.unset).toArray = ls at hl ⊢
  have hl : lv_has ls 3 [(0, .ref p0), (1, .int p1), (2, .int p2)] := hl
  refine nameQ (fun Q hQ => ?_)
  have hw : WD D cy GG A s wr_X10_keep__9 wa_X10_keep__9 Ps w0 Ps w0 s.heap [] := ⟨hT, hP, hD, va_S.rf, FR.rf, hT.1, [], (List.append_nil _).symm⟩
  obtain ⟨R9, hR⟩ : ∃ q9 : OS × Int32, f_X10_keep__7 p1 p2 s0 = q9 := ⟨_, rfl⟩
  have hE := hR
  refine lv_iload_n hx hb dX10_keep_0 rfl (lv_at hl 2 rfl) ?_
  refine lv_if_eq (tgt := 14) hx hb dX10_keep_1 (by decide) (fun c_1 => ?_) (fun c_1 => ?_)
  · have r_p2 : RI p2 1 0 := rc_eq1 r_p2 rl_0 (ti_eq c_1) (by decide)
    exact (r_p2.no (by decide)).elim
  · refine lv_aload_n hx hb dX10_keep_4 rfl (lv_at hl 0 rfl) ?_
    refine tg_get (ci := 10) (ts := ty_MODEL) (C := RX10) (T := TX10) (N := 49) hx hb hts inX10 hown hK hw h_p0 rfl rfl 40 (by decide) (hts _ tw_1177) (fun _ h9 => h9) (ft := vR 52) rfl dX10_keep_5 (fun u_1 hv_u_1 m_u_1 => ?_)
    obtain ⟨vu_1, rfl, h_vu_1⟩ := hv_u_1
    refine lv_iload_n hx hb dX10_keep_8 rfl (lv_at hl 1 rfl) ?_
    refine lv_aload_n hx hb dX10_keep_9 rfl (lv_at hl 0 rfl) ?_
    refine tg_mem (ci := 10) (C := RX10) (T := TX10) (N := 49) hx hb hts inX10 hown hK hw 13 m_f0_13 rfl (by decide) (hts _ tw_1150) (fun _ h9 => h9) dX10_keep_10 ?_
    have q_f0_13 : s0.1 13 = f0_13 := OV.eqI (V := vw_M5) hw.2.2.1 o_p0 m_f0_13 (by decide)
    have mo9 := m_u_1
    refine tg_iast hx hb hK hw h_vu_1 rfl 1 118 r_p1 (by decide) r_f0_13 (by exact fun _ _ _ => by decide) (fun _ _ _ _ _ => trivial) (by decide) dX10_keep_13 (fun ws H locs hw hF9 hU9 => ?_)
    have x_GFLB_p0 : AX 40 52 F2 Ps ws p0 := AX.ast hF9 hU9 x_F m_u_1 (fun f9 h9 => hF f9 _ r_f0_13 h9)
    have m_f0_13 := FLD.over hF9 m_f0_13 (by decide)
    have m_u_1 := FLD.over hF9 m_u_1 (by decide)
    obtain ⟨sg_2, q_sg_2⟩ : ∃ q9 : OS, sA s0 40 (Int32.toNatClampNeg p1) f0_13 = q9 := ⟨_, rfl⟩
    have o_p0 : OV vw_M5 Ps ws p0 sg_2 := by rw [← q_sg_2]; exact OV.putA (V := vw_M5) (t := 52) hF9 hU9 o_p0 mo9 (by decide) (by decide)
    refine lv_iload_n hx hb dX10_keep_14 rfl (lv_at hl 2 rfl) ?_
    simp only [f_X10_keep__7, ↓reduceIte, eq_false c_1, q_f0_13, q_sg_2] at hE
    subst hQ
    exact W.zret (v := p2) hx hb hr (tq_nz (r_p2.to (by decide))) (fun t ht hW => ⟨⟨p2, ws, rfl, ⟨⟨⟨(by rw [hR, ← hE]; exact o_p0), (by rw [hR, ← hE]), trivial⟩, r_p2.to (by decide), (fun h0 => absurd (ti_eq h0) (by have h8 := r_p2; unfold RI at h8; rw [Int32.toInt_zero]; omega)), (fun h0 => ⟨⟨_, m_f0_13, r_f0_13⟩, x_GFLB_p0, trivial⟩)⟩, hw.1, hw.2.2.2.2.1⟩, by rw [ht]; exact hw.2.1, va_K.moved hW.alike hK, hw.2.2.1⟩, hw.2.2.2.1.F ht⟩) hw.2.2.2.1.2.2 dX10_keep_15
abbrev wr_X10_keep__10 : List (Nat × Nat) := []
abbrev wa_X10_keep__10 : List Nat := [52]
set_option maxHeartbeats 4000000 in
set_option maxRecDepth 100000 in
theorem c_X10_keep__10 (l : Launch) (D : va_G) (cy : Nat → ClassId) (z : Nat → Nat) (sz : Nat) (Ps : PSI) (w0 : va_W) (hT : HT cy GG Ps w0) (p0 : Nat) (p1 : Int32) (p2 : Int32) (f0_13 : Int32) (F : (Nat → Int32) → Prop) (F2 : (Nat → Int32) → Prop) (s0 : OS) (h_p0 : (p0, 55) ∈ Ps) (r_p1 : RI p1 1 118) (r_p2 : RI p2 1 1) (r_f0_13 : RI f0_13 0 5) (m_f0_13 : FLD w0 p0 10 13 (.int f0_13)) (x_F : AX 40 52 F Ps w0 p0) (hF : ∀ (f : Nat → Int32) (v : Int32), RI v 0 5 → F f → F2 (upd f (Int32.toNatClampNeg p1) v)) (o_p0 : OV vw_M5 Ps w0 p0 s0) : Met l yX10_keep (Cond.code yX10_keep cX10_keep 3 (some .boolean) :: gT) ({ frames := 0, cells := 0, slots := 0, locals := 200 } : Room) (va_Pc [.ref p0, .int p1, .int p2] (PRE D cy z w0 sz)) (va_Qi (fun (r : Int32) (u : va_W) => ((OV vw_M5 Ps u p0 ((f_X10_keep__7 p1 p2 s0).1) ∧ (f_X10_keep__7 p1 p2 s0).2 = r ∧ True) ∧ (RI r 1 1 ∧ (r = 0 → AX 40 52 F Ps u p0 ∧ True) ∧ (¬ r = 0 → (∃ v9 : Int32, FLD u p0 10 13 (.int v9) ∧ RI v9 0 5) ∧ AX 40 52 F2 Ps u p0 ∧ True))) ∧ HT cy GG Ps u ∧ FR wr_X10_keep__10 wa_X10_keep__10 Ps w0 u) (BB D cy (va_A w0 sz) (fun (u : va_W) => u)) (va_A w0 sz)) 0 0 (va_A w0 sz) := by
  refine Met.ofW (cc := cX10_keep) (maxL := 3) (ret := (some .boolean)) (by decide) rfl ?_
  intro p e s m args below meth c s₁ B hml hv
  obtain ⟨rfl, hsz, hP, hK, hD0, hSD⟩ := hv
  have hx := B.exec
  have hb := B.bytes
  have hr := B.returns
  have hlocks := B.notSynchronized
  have hts : ∀ w ∈ gT, w.before _ s = true := fun w h => atoms_spec (ws := Cond.code yX10_keep cX10_keep 3 (some .boolean) :: gT) B.pre w (List.mem_cons_of_mem _ h)
  have hown : s.vm.findClass RX10 = some m.cls := findClass_of_methodNamed B.named
  subst hsz
  have hD := hD0.self (sz := s.heap.size)
  generalize hAe : va_A w0 s.heap.size = A at hD hSD ⊢
  have hA : ∀ q : Nat, s.heap.size ≤ q → A q := fun q h => by rw [← hAe]; exact Or.inr h
  have hl := lv_entry ([.ref p0, .int p1, .int p2]) (n := 3) (Nat.le_of_ble_eq_true rfl)
  rw [lg_entry_eq]
  generalize (lg_sl ([.ref p0, .int p1, .int p2]) ++ List.replicate (3 - (lg_sl ([.ref p0, .int p1, .int p2])).length) Slot.unset).toArray = ls at hl ⊢
  have hl : lv_has ls 3 [(0, .ref p0), (1, .int p1), (2, .int p2)] := hl
  refine nameQ (fun Q hQ => ?_)
  have hw : WD D cy GG A s wr_X10_keep__10 wa_X10_keep__10 Ps w0 Ps w0 s.heap [] := ⟨hT, hP, hD, va_S.rf, FR.rf, hT.1, [], (List.append_nil _).symm⟩
  obtain ⟨R9, hR⟩ : ∃ q9 : OS × Int32, f_X10_keep__7 p1 p2 s0 = q9 := ⟨_, rfl⟩
  have hE := hR
  refine lv_iload_n hx hb dX10_keep_0 rfl (lv_at hl 2 rfl) ?_
  refine lv_if_eq (tgt := 14) hx hb dX10_keep_1 (by decide) (fun c_1 => ?_) (fun c_1 => ?_)
  · have r_p2 : RI p2 1 0 := rc_eq1 r_p2 rl_0 (ti_eq c_1) (by decide)
    exact (r_p2.no (by decide)).elim
  · refine lv_aload_n hx hb dX10_keep_4 rfl (lv_at hl 0 rfl) ?_
    refine tg_get (ci := 10) (ts := ty_MODEL) (C := RX10) (T := TX10) (N := 49) hx hb hts inX10 hown hK hw h_p0 rfl rfl 40 (by decide) (hts _ tw_1177) (fun _ h9 => h9) (ft := vR 52) rfl dX10_keep_5 (fun u_1 hv_u_1 m_u_1 => ?_)
    obtain ⟨vu_1, rfl, h_vu_1⟩ := hv_u_1
    refine lv_iload_n hx hb dX10_keep_8 rfl (lv_at hl 1 rfl) ?_
    refine lv_aload_n hx hb dX10_keep_9 rfl (lv_at hl 0 rfl) ?_
    refine tg_mem (ci := 10) (C := RX10) (T := TX10) (N := 49) hx hb hts inX10 hown hK hw 13 m_f0_13 rfl (by decide) (hts _ tw_1150) (fun _ h9 => h9) dX10_keep_10 ?_
    have q_f0_13 : s0.1 13 = f0_13 := OV.eqI (V := vw_M5) hw.2.2.1 o_p0 m_f0_13 (by decide)
    have mo9 := m_u_1
    refine tg_iast hx hb hK hw h_vu_1 rfl 1 118 r_p1 (by decide) r_f0_13 (by exact fun _ _ _ => by decide) (fun _ _ _ _ _ => trivial) (by decide) dX10_keep_13 (fun ws H locs hw hF9 hU9 => ?_)
    have x_GFLB_p0 : AX 40 52 F2 Ps ws p0 := AX.ast hF9 hU9 x_F m_u_1 (fun f9 h9 => hF f9 _ r_f0_13 h9)
    have m_f0_13 := FLD.over hF9 m_f0_13 (by decide)
    have m_u_1 := FLD.over hF9 m_u_1 (by decide)
    obtain ⟨sg_2, q_sg_2⟩ : ∃ q9 : OS, sA s0 40 (Int32.toNatClampNeg p1) f0_13 = q9 := ⟨_, rfl⟩
    have o_p0 : OV vw_M5 Ps ws p0 sg_2 := by rw [← q_sg_2]; exact OV.putA (V := vw_M5) (t := 52) hF9 hU9 o_p0 mo9 (by decide) (by decide)
    refine lv_iload_n hx hb dX10_keep_14 rfl (lv_at hl 2 rfl) ?_
    simp only [f_X10_keep__7, ↓reduceIte, eq_false c_1, q_f0_13, q_sg_2] at hE
    subst hQ
    exact W.zret (v := p2) hx hb hr (tq_nz (r_p2.to (by decide))) (fun t ht hW => ⟨⟨p2, ws, rfl, ⟨⟨⟨(by rw [hR, ← hE]; exact o_p0), (by rw [hR, ← hE]), trivial⟩, r_p2.to (by decide), (fun h0 => absurd (ti_eq h0) (by have h8 := r_p2; unfold RI at h8; rw [Int32.toInt_zero]; omega)), (fun h0 => ⟨⟨_, m_f0_13, r_f0_13⟩, x_GFLB_p0, trivial⟩)⟩, hw.1, hw.2.2.2.2.1⟩, by rw [ht]; exact hw.2.1, va_K.moved hW.alike hK, hw.2.2.1⟩, hw.2.2.2.1.F ht⟩) hw.2.2.2.1.2.2 dX10_keep_15
abbrev wr_X10_readNamed__7 : List (Nat × Nat) := [(10, 5), (10, 6), (10, 7), (10, 8), (10, 9), (10, 10), (10, 11), (10, 12), (10, 13)]
abbrev wa_X10_readNamed__7 : List Nat := []
set_option maxHeartbeats 4000000 in
set_option maxRecDepth 100000 in
theorem c_X10_readNamed__7 (l : Launch) (D : va_G) (cy : Nat → ClassId) (z : Nat → Nat) (sz : Nat) (Ps : PSI) (w0 : va_W) (hT : HT cy GG Ps w0) (p0 : Nat) (p1 : Int32) (p2 : Int32) (s0 : OS) (h_p0 : (p0, 55) ∈ Ps) (r_p1 : RI p1 6 6) (r_p2 : RI p2 0 4) (o_p0 : OV vw_M5 Ps w0 p0 s0) : Met l yX10_readNamed (Cond.code yX10_readNamed cX10_readNamed 3 (some .boolean) :: gT) ({ frames := 4, cells := 0, slots := 0, locals := 800 } : Room) (va_Pc [.ref p0, .int p1, .int p2] (PRE D cy z w0 sz)) (va_Qi (fun (r : Int32) (u : va_W) => ((OV vw_M5 Ps u p0 ((f_X10_readNamed__3 p1 p2 s0).1) ∧ (f_X10_readNamed__3 p1 p2 s0).2 = r ∧ True) ∧ (RI r 0 1 ∧ (r = 0 → True) ∧ (¬ r = 0 → RI p2 1 4 ∧ (∃ v9 : Int32, FLD u p0 10 13 (.int v9) ∧ RI v9 0 3) ∧ True))) ∧ HT cy GG Ps u ∧ FR wr_X10_readNamed__7 wa_X10_readNamed__7 Ps w0 u) (BB D cy (va_A w0 sz) (fun (u : va_W) => u)) (va_A w0 sz)) 0 0 (va_A w0 sz) := by
  refine Met.ofW (cc := cX10_readNamed) (maxL := 3) (ret := (some .boolean)) (by decide) rfl ?_
  intro p e s m args below meth c s₁ B hml hv
  obtain ⟨rfl, hsz, hP, hK, hD0, hSD⟩ := hv
  have hx := B.exec
  have hb := B.bytes
  have hr := B.returns
  have hlocks := B.notSynchronized
  have hts : ∀ w ∈ gT, w.before _ s = true := fun w h => atoms_spec (ws := Cond.code yX10_readNamed cX10_readNamed 3 (some .boolean) :: gT) B.pre w (List.mem_cons_of_mem _ h)
  have hown : s.vm.findClass RX10 = some m.cls := findClass_of_methodNamed B.named
  subst hsz
  have hD := hD0.self (sz := s.heap.size)
  generalize hAe : va_A w0 s.heap.size = A at hD hSD ⊢
  have hA : ∀ q : Nat, s.heap.size ≤ q → A q := fun q h => by rw [← hAe]; exact Or.inr h
  have hl := lv_entry ([.ref p0, .int p1, .int p2]) (n := 3) (Nat.le_of_ble_eq_true rfl)
  rw [lg_entry_eq]
  generalize (lg_sl ([.ref p0, .int p1, .int p2]) ++ List.replicate (3 - (lg_sl ([.ref p0, .int p1, .int p2])).length) Slot.unset).toArray = ls at hl ⊢
  have hl : lv_has ls 3 [(0, .ref p0), (1, .int p1), (2, .int p2)] := hl
  refine nameQ (fun Q hQ => ?_)
  have hw : WD D cy GG A s wr_X10_readNamed__7 wa_X10_readNamed__7 Ps w0 Ps w0 s.heap [] := ⟨hT, hP, hD, va_S.rf, FR.rf, hT.1, [], (List.append_nil _).symm⟩
  obtain ⟨R9, hR⟩ : ∃ q9 : OS × Int32, f_X10_readNamed__3 p1 p2 s0 = q9 := ⟨_, rfl⟩
  have hE := hR
  refine lv_aload_n hx hb dX10_readNamed_0 rfl (lv_at hl 0 rfl) ?_
  refine tk_ir (va_runV (As := []) (rest := []) ⟨hx, hb, hml, hown, hts⟩ (c_X10_isName__3 l D cy z s.heap.size Ps w0 hw.1 p0 s0 h_p0 o_p0) (cwV 0 hts (gV tw_1344 tw_1346 ts_48 tw_15 tw_1347) rfl rfl rfl (by decide +kernel) ⟨Nat.le_of_ble_eq_true rfl, Nat.le_of_ble_eq_true rfl⟩) (tg_preV hw hK hSD hA (ci := 10) (q := (RX10, TX10, 49)) rfl h_p0 rfl) rfl rfl hl.1 rfl (lv_room (Nat.le_of_ble_eq_true rfl)) dX10_readNamed_1 ⟨Nat.le_of_ble_eq_true rfl, Nat.le_of_ble_eq_true rfl⟩) hw hA (fun v_1  H locs hp_v_1 hw => ?_)
  obtain ⟨hfn, hp_v_1⟩ := hp_v_1
  have q_v_1 : (f_X10_isName__1 s0) = v_1 := hfn.1
  have r_v_1 : RI v_1 0 1 := hp_v_1.1
  refine lv_if_ne (tgt := 13) hx hb dX10_readNamed_4 (by decide) (fun c_4 => ?_) (fun c_4 => ?_)
  · have r_v_1 : RI v_1 1 1 := rc_neL r_v_1 rl_0 (ti_ne c_4) (by decide)
    refine lv_aload_n hx hb dX10_readNamed_13 rfl (lv_at hl 0 rfl) ?_
    refine lv_aload_n hx hb dX10_readNamed_14 rfl (lv_at hl 0 rfl) ?_
    refine tg_get (ci := 10) (ts := ty_MODEL) (C := RX10) (T := TX10) (N := 49) hx hb hts inX10 hown hK hw h_p0 rfl rfl 20 (by decide) (hts _ tw_1157) (fun _ h9 => h9) (ft := vR 41) rfl dX10_readNamed_15 (fun u_2 hv_u_2 m_u_2 => ?_)
    obtain ⟨vu_2, rfl, h_vu_2⟩ := hv_u_2
    refine lv_iload_n hx hb dX10_readNamed_18 rfl (lv_at hl 1 rfl) ?_
    refine lv_iload_n hx hb dX10_readNamed_19 rfl (lv_at hl 2 rfl) ?_
    refine lv_aload_n hx hb dX10_readNamed_20 rfl (lv_at hl 0 rfl) ?_
    refine tg_get (ci := 10) (ts := ty_MODEL) (C := RX10) (T := TX10) (N := 49) hx hb hts inX10 hown hK hw h_p0 rfl rfl 12 (by decide) (hts _ tw_1149) (fun _ h9 => h9) (ft := vJ (-9223372036854775808) 9223372036854775807) rfl dX10_readNamed_21 (fun u_3 hv_u_3 m_u_3 => ?_)
    obtain ⟨vu_3, rfl, r_vu_3⟩ := hv_u_3
    have q_vu_3 : s0.2.1 12 = vu_3 := OV.eqL (V := vw_M5) hw.2.2.1 o_p0 m_u_3 (by decide)
    have oa_vu_2 := OV.arrB (V := vw_M5) (t := 41) hw.2.2.1 o_p0 m_u_2 (by decide)
    have mo9_vu_2 := And.intro hw.2.2.1 m_u_2
    refine tk_ir (va_runS (As := [.ref vu_2, .int p1, .int p2, .long vu_3]) (rest := [.ref p0]) ⟨hx, hb, hml, hown, hts⟩ (c_X10_findIn__13 l D cy z H.size Ps w0 hw.1 vu_2 p1 p2 vu_3 (s0.2.2.2 20) h_vu_2 r_p1 r_p2 r_vu_3 oa_vu_2) (va_cwS 4 hts (gS tw_1352 tw_1353 tw_15 tw_1354) rfl rfl rfl (by decide +kernel) ⟨Nat.le_of_ble_eq_true rfl, Nat.le_of_ble_eq_true rfl⟩) (tg_preS hw hK hSD hA) rfl rfl hl.1 rfl (lv_room (Nat.le_of_ble_eq_true rfl)) dX10_readNamed_24 ⟨Nat.le_of_ble_eq_true rfl, Nat.le_of_ble_eq_true rfl⟩) hw hA (fun v_4  H locs hp_v_4 hw => ?_)
    obtain ⟨hfn, hp_v_4⟩ := hp_v_4
    have q_v_4 : (f_X10_findIn__9 p1 p2 vu_3 (s0.2.2.2 20)) = v_4 := hfn.1
    have r_v_4 : RI v_4 (-1) 3 := hp_v_4.1
    by_cases c9_v_4 : v_4.toInt < 0
    · have r_v_4 : RI v_4 (-1) (-1) := by unfold RI at r_v_4 ⊢; omega
      have x_NF_vu_2_p1_p2_vu_3 := (hp_v_4.2.2.2.2.1 (by omega)).1
      have hw8 := hw
      refine tg_put (ci := 10) (ts := ty_MODEL) (v := .int v_4) (ty := .int) (C := RX10) (T := TX10) (N := 49) hx hb hts inX10 tyX10 tyX10_ok nmX10 hown hK hw h_p0 rfl rfl 13 (by decide) (hts _ tw_1150) (fun _ h9 => h9) rfl (by decide +kernel) rfl rfl (ft := vI (-2147483648) 2147483647) rfl ⟨_, rfl, (r_v_4.to (by decide))⟩ (by decide) dX10_readNamed_27 (fun ws H locs hw n_k_5 hF9 => ?_)
      have m_u_2 := FLD.over hF9 m_u_2 (by decide)
      have m_u_3 := FLD.over hF9 m_u_3 (by decide)
      have x_NF_vu_2_p1_p2_vu_3 := NFD.over hw8 hF9 h_vu_2 x_NF_vu_2_p1_p2_vu_3 (by decide)
      obtain ⟨sg_6, q_sg_6⟩ : ∃ q9 : OS, sI s0 13 v_4 = q9 := ⟨_, rfl⟩
      have o_p0 : OV vw_M5 Ps ws p0 sg_6 := by rw [← q_sg_6]; exact OV.putI (V := vw_M5) hF9 n_k_5 o_p0 (by decide)
      refine lv_aload_n hx hb dX10_readNamed_30 rfl (lv_at hl 0 rfl) ?_
      refine tg_mem (ci := 10) (C := RX10) (T := TX10) (N := 49) hx hb hts inX10 hown hK hw 13 n_k_5 rfl (by decide) (hts _ tw_1150) (fun _ h9 => h9) dX10_readNamed_31 ?_
      refine lv_iconst (v := (-1)) hx hb dX10_readNamed_34 (by decide) ?_
      refine lv_icmp_ne (tgt := 44) hx hb dX10_readNamed_35 (by decide) (fun c_35 => ?_) (fun c_35 => ?_)
      · exact absurd (r_v_4.eq.trans rl_m1.eq.symm) ((ti_ne c_35))
      · refine lv_aload_n hx hb dX10_readNamed_38 rfl (lv_at hl 0 rfl) ?_
        refine lv_iconst (v := 3) hx hb dX10_readNamed_39 (by decide) ?_
        have hw8 := hw
        refine tk_i (va_runV (As := [.int 3]) (rest := []) ⟨hx, hb, hml, hown, hts⟩ (c_X10_bad__3 l D cy z H.size Ps ws hw.1 p0 3 sg_6 h_p0 (rl_3.to (by decide)) o_p0) (cwV 1 hts (gV tw_1336 tw_1338 ts_46 tw_15 tw_1339) rfl rfl rfl (by decide +kernel) ⟨Nat.le_of_ble_eq_true rfl, Nat.le_of_ble_eq_true rfl⟩) (tg_preV hw hK hSD hA (ci := 10) (q := (RX10, TX10, 49)) rfl h_p0 rfl) rfl rfl hl.1 rfl (lv_room (Nat.le_of_ble_eq_true rfl)) dX10_readNamed_40 ⟨Nat.le_of_ble_eq_true rfl, Nat.le_of_ble_eq_true rfl⟩) hw hA ⟨by decide, by decide⟩ (fun v_7 ws H locs hp_v_7 hw hF9 => ?_)
        have m_u_2 := FLD.over hF9 m_u_2 (by decide)
        have m_u_3 := FLD.over hF9 m_u_3 (by decide)
        have n_k_5 := FLD.over hF9 n_k_5 (by decide)
        have x_NF_vu_2_p1_p2_vu_3 := NFD.over hw8 hF9 h_vu_2 x_NF_vu_2_p1_p2_vu_3 (by decide)
        obtain ⟨hfn, hp_v_7⟩ := hp_v_7
        obtain ⟨sg_8, q_sg_8⟩ : ∃ q9 : OS, (f_X10_bad__1 (3 : Int32) sg_6).1 = q9 := ⟨_, rfl⟩
        have o_p0 : OV vw_M5 Ps ws p0 sg_8 := by rw [← q_sg_8]; exact hfn.1
        have q_v_7 : (f_X10_bad__1 (3 : Int32) sg_6).2 = v_7 := hfn.2.1
        have r_v_7 : RI v_7 0 0 := hp_v_7.1
        simp only [f_X10_readNamed__3, ↓reduceIte, q_v_1, eq_false c_4, q_vu_3, q_v_4, eq_true c9_v_4, q_sg_6, eq_true c_35, q_sg_8, q_v_7] at hE
        subst hQ
        exact W.zret (v := v_7) hx hb hr (tq_nz (r_v_7.to (by decide))) (fun t ht hW => ⟨⟨v_7, ws, rfl, ⟨⟨⟨(by rw [hR, ← hE]; exact o_p0), (by rw [hR, ← hE]), trivial⟩, r_v_7.to (by decide), (fun h0 => trivial), (fun h0 => absurd (Int32.toInt_inj.mp (by have h8 := r_v_7; unfold RI at h8; rw [Int32.toInt_zero]; omega)) h0)⟩, hw.1, hw.2.2.2.2.1⟩, by rw [ht]; exact hw.2.1, va_K.moved hW.alike hK, hw.2.2.1⟩, hw.2.2.2.1.F ht⟩) hw.2.2.2.1.2.2 dX10_readNamed_43
    · have r_v_4 : RI v_4 0 3 := by unfold RI at r_v_4 ⊢; omega
      have x_FD_vu_2_p1_p2_vu_3 := (hp_v_4.2.2.2.2.2 (by omega)).1
      have x_POS_p2 := (hp_v_4.2.2.2.2.2 (by omega)).2.1
      have r_p2 : RI p2 1 4 := ⟨x_POS_p2, r_p2.2⟩
      have hw8 := hw
      refine tg_put (ci := 10) (ts := ty_MODEL) (v := .int v_4) (ty := .int) (C := RX10) (T := TX10) (N := 49) hx hb hts inX10 tyX10 tyX10_ok nmX10 hown hK hw h_p0 rfl rfl 13 (by decide) (hts _ tw_1150) (fun _ h9 => h9) rfl (by decide +kernel) rfl rfl (ft := vI (-2147483648) 2147483647) rfl ⟨_, rfl, (r_v_4.to (by decide))⟩ (by decide) dX10_readNamed_27 (fun ws H locs hw n_k_9 hF9 => ?_)
      have m_u_2 := FLD.over hF9 m_u_2 (by decide)
      have m_u_3 := FLD.over hF9 m_u_3 (by decide)
      have x_FD_vu_2_p1_p2_vu_3 := FDD.over hw8 hF9 h_vu_2 x_FD_vu_2_p1_p2_vu_3 (by decide)
      obtain ⟨sg_10, q_sg_10⟩ : ∃ q9 : OS, sI s0 13 v_4 = q9 := ⟨_, rfl⟩
      have o_p0 : OV vw_M5 Ps ws p0 sg_10 := by rw [← q_sg_10]; exact OV.putI (V := vw_M5) hF9 n_k_9 o_p0 (by decide)
      refine lv_aload_n hx hb dX10_readNamed_30 rfl (lv_at hl 0 rfl) ?_
      refine tg_mem (ci := 10) (C := RX10) (T := TX10) (N := 49) hx hb hts inX10 hown hK hw 13 n_k_9 rfl (by decide) (hts _ tw_1150) (fun _ h9 => h9) dX10_readNamed_31 ?_
      refine lv_iconst (v := (-1)) hx hb dX10_readNamed_34 (by decide) ?_
      refine lv_icmp_ne (tgt := 44) hx hb dX10_readNamed_35 (by decide) (fun c_35 => ?_) (fun c_35 => ?_)
      · refine lv_aload_n hx hb dX10_readNamed_44 rfl (lv_at hl 0 rfl) ?_
        have hw8 := hw
        refine tk_v (va_runV (As := []) (rest := []) ⟨hx, hb, hml, hown, hts⟩ (c_X10_go__5 l D cy z H.size Ps ws hw.1 p0 sg_10 h_p0 o_p0) (cwV 0 hts (gV tw_1298 tw_1300 ts_40 tw_15 tw_1301) rfl rfl rfl (by decide +kernel) ⟨Nat.le_of_ble_eq_true rfl, Nat.le_of_ble_eq_true rfl⟩) (tg_preV hw hK hSD hA (ci := 10) (q := (RX10, TX10, 49)) rfl h_p0 rfl) rfl rfl hl.1 rfl (lv_room (Nat.le_of_ble_eq_true rfl)) dX10_readNamed_45 ⟨Nat.le_of_ble_eq_true rfl, Nat.le_of_ble_eq_true rfl⟩) hw hA ⟨by decide, by decide⟩ (fun ws H locs hp_v_11 hw hF9 => ?_)
        have m_u_2 := FLD.over hF9 m_u_2 (by decide)
        have n_k_9 := FLD.over hF9 n_k_9 (by decide)
        have x_FD_vu_2_p1_p2_vu_3 := FDD.over hw8 hF9 h_vu_2 x_FD_vu_2_p1_p2_vu_3 (by decide)
        obtain ⟨hfn, hp_v_11⟩ := hp_v_11
        obtain ⟨sg_12, q_sg_12⟩ : ∃ q9 : OS, (f_X10_go__2 sg_10) = q9 := ⟨_, rfl⟩
        have o_p0 : OV vw_M5 Ps ws p0 sg_12 := by rw [← q_sg_12]; exact hfn.1
        refine lv_iconst (v := 1) hx hb dX10_readNamed_48 (by decide) ?_
        simp only [f_X10_readNamed__3, ↓reduceIte, q_v_1, eq_false c_4, q_vu_3, q_v_4, eq_false c9_v_4, q_sg_10, eq_false c_35, q_sg_12] at hE
        subst hQ
        exact W.zret (v := 1) hx hb hr (rfl) (fun t ht hW => ⟨⟨1, ws, rfl, ⟨⟨⟨(by rw [hR, ← hE]; exact o_p0), (by rw [hR, ← hE]), trivial⟩, rl_1.to (by decide), (fun _ => trivial), (fun h0 => ⟨r_p2, ⟨_, n_k_9, r_v_4⟩, trivial⟩)⟩, hw.1, hw.2.2.2.2.1⟩, by rw [ht]; exact hw.2.1, va_K.moved hW.alike hK, hw.2.2.1⟩, hw.2.2.2.1.F ht⟩) hw.2.2.2.1.2.2 dX10_readNamed_49
      · have r_v_4 : RI v_4 0 (-1) := rc_eq1 r_v_4 rl_m1 (ti_eq c_35) (by decide)
        exact (r_v_4.no (by decide)).elim
  · have r_v_1 : RI v_1 0 0 := rc_eq1 r_v_1 rl_0 (ti_eq c_4) (by decide)
    refine lv_aload_n hx hb dX10_readNamed_7 rfl (lv_at hl 0 rfl) ?_
    refine lv_iconst (v := 1) hx hb dX10_readNamed_8 (by decide) ?_
    refine tk_i (va_runV (As := [.int 1]) (rest := []) ⟨hx, hb, hml, hown, hts⟩ (c_X10_bad__3 l D cy z H.size Ps w0 hw.1 p0 1 s0 h_p0 (rl_1.to (by decide)) o_p0) (cwV 1 hts (gV tw_1336 tw_1338 ts_46 tw_15 tw_1339) rfl rfl rfl (by decide +kernel) ⟨Nat.le_of_ble_eq_true rfl, Nat.le_of_ble_eq_true rfl⟩) (tg_preV hw hK hSD hA (ci := 10) (q := (RX10, TX10, 49)) rfl h_p0 rfl) rfl rfl hl.1 rfl (lv_room (Nat.le_of_ble_eq_true rfl)) dX10_readNamed_9 ⟨Nat.le_of_ble_eq_true rfl, Nat.le_of_ble_eq_true rfl⟩) hw hA ⟨by decide, by decide⟩ (fun v_13 ws H locs hp_v_13 hw hF9 => ?_)
    obtain ⟨hfn, hp_v_13⟩ := hp_v_13
    obtain ⟨sg_14, q_sg_14⟩ : ∃ q9 : OS, (f_X10_bad__1 (1 : Int32) s0).1 = q9 := ⟨_, rfl⟩
    have o_p0 : OV vw_M5 Ps ws p0 sg_14 := by rw [← q_sg_14]; exact hfn.1
    have q_v_13 : (f_X10_bad__1 (1 : Int32) s0).2 = v_13 := hfn.2.1
    have r_v_13 : RI v_13 0 0 := hp_v_13.1
    simp only [f_X10_readNamed__3, ↓reduceIte, q_v_1, eq_true c_4, q_sg_14, q_v_13] at hE
    subst hQ
    exact W.zret (v := v_13) hx hb hr (tq_nz (r_v_13.to (by decide))) (fun t ht hW => ⟨⟨v_13, ws, rfl, ⟨⟨⟨(by rw [hR, ← hE]; exact o_p0), (by rw [hR, ← hE]), trivial⟩, r_v_13.to (by decide), (fun h0 => trivial), (fun h0 => absurd (Int32.toInt_inj.mp (by have h8 := r_v_13; unfold RI at h8; rw [Int32.toInt_zero]; omega)) h0)⟩, hw.1, hw.2.2.2.2.1⟩, by rw [ht]; exact hw.2.1, va_K.moved hW.alike hK, hw.2.2.1⟩, hw.2.2.2.1.F ht⟩) hw.2.2.2.1.2.2 dX10_readNamed_12
abbrev wr_X10_keep__11 : List (Nat × Nat) := []
abbrev wa_X10_keep__11 : List Nat := [52]
set_option maxHeartbeats 4000000 in
set_option maxRecDepth 100000 in
theorem c_X10_keep__11 (l : Launch) (D : va_G) (cy : Nat → ClassId) (z : Nat → Nat) (sz : Nat) (Ps : PSI) (w0 : va_W) (hT : HT cy GG Ps w0) (p0 : Nat) (p1 : Int32) (p2 : Int32) (f0_13 : Int32) (F : (Nat → Int32) → Prop) (F2 : (Nat → Int32) → Prop) (s0 : OS) (h_p0 : (p0, 55) ∈ Ps) (r_p1 : RI p1 2 119) (r_p2 : RI p2 1 1) (r_f0_13 : RI f0_13 0 3) (m_f0_13 : FLD w0 p0 10 13 (.int f0_13)) (x_F : AX 40 52 F Ps w0 p0) (hF : ∀ (f : Nat → Int32) (v : Int32), RI v 0 3 → F f → F2 (upd f (Int32.toNatClampNeg p1) v)) (o_p0 : OV vw_M5 Ps w0 p0 s0) : Met l yX10_keep (Cond.code yX10_keep cX10_keep 3 (some .boolean) :: gT) ({ frames := 0, cells := 0, slots := 0, locals := 200 } : Room) (va_Pc [.ref p0, .int p1, .int p2] (PRE D cy z w0 sz)) (va_Qi (fun (r : Int32) (u : va_W) => ((OV vw_M5 Ps u p0 ((f_X10_keep__7 p1 p2 s0).1) ∧ (f_X10_keep__7 p1 p2 s0).2 = r ∧ True) ∧ (RI r 1 1 ∧ (r = 0 → AX 40 52 F Ps u p0 ∧ True) ∧ (¬ r = 0 → (∃ v9 : Int32, FLD u p0 10 13 (.int v9) ∧ RI v9 0 3) ∧ AX 40 52 F2 Ps u p0 ∧ True))) ∧ HT cy GG Ps u ∧ FR wr_X10_keep__11 wa_X10_keep__11 Ps w0 u) (BB D cy (va_A w0 sz) (fun (u : va_W) => u)) (va_A w0 sz)) 0 0 (va_A w0 sz) := by
  refine Met.ofW (cc := cX10_keep) (maxL := 3) (ret := (some .boolean)) (by decide) rfl ?_
  intro p e s m args below meth c s₁ B hml hv
  obtain ⟨rfl, hsz, hP, hK, hD0, hSD⟩ := hv
  have hx := B.exec
  have hb := B.bytes
  have hr := B.returns
  have hlocks := B.notSynchronized
  have hts : ∀ w ∈ gT, w.before _ s = true := fun w h => atoms_spec (ws := Cond.code yX10_keep cX10_keep 3 (some .boolean) :: gT) B.pre w (List.mem_cons_of_mem _ h)
  have hown : s.vm.findClass RX10 = some m.cls := findClass_of_methodNamed B.named
  subst hsz
  have hD := hD0.self (sz := s.heap.size)
  generalize hAe : va_A w0 s.heap.size = A at hD hSD ⊢
  have hA : ∀ q : Nat, s.heap.size ≤ q → A q := fun q h => by rw [← hAe]; exact Or.inr h
  have hl := lv_entry ([.ref p0, .int p1, .int p2]) (n := 3) (Nat.le_of_ble_eq_true rfl)
  rw [lg_entry_eq]
  generalize (lg_sl ([.ref p0, .int p1, .int p2]) ++ List.replicate (3 - (lg_sl ([.ref p0, .int p1, .int p2])).length) Slot.unset).toArray = ls at hl ⊢
  have hl : lv_has ls 3 [(0, .ref p0), (1, .int p1), (2, .int p2)] := hl
  refine nameQ (fun Q hQ => ?_)
  have hw : WD D cy GG A s wr_X10_keep__11 wa_X10_keep__11 Ps w0 Ps w0 s.heap [] := ⟨hT, hP, hD, va_S.rf, FR.rf, hT.1, [], (List.append_nil _).symm⟩
  obtain ⟨R9, hR⟩ : ∃ q9 : OS × Int32, f_X10_keep__7 p1 p2 s0 = q9 := ⟨_, rfl⟩
  have hE := hR
  refine lv_iload_n hx hb dX10_keep_0 rfl (lv_at hl 2 rfl) ?_
  refine lv_if_eq (tgt := 14) hx hb dX10_keep_1 (by decide) (fun c_1 => ?_) (fun c_1 => ?_)
  · have r_p2 : RI p2 1 0 := rc_eq1 r_p2 rl_0 (ti_eq c_1) (by decide)
    exact (r_p2.no (by decide)).elim
  · refine lv_aload_n hx hb dX10_keep_4 rfl (lv_at hl 0 rfl) ?_
    refine tg_get (ci := 10) (ts := ty_MODEL) (C := RX10) (T := TX10) (N := 49) hx hb hts inX10 hown hK hw h_p0 rfl rfl 40 (by decide) (hts _ tw_1177) (fun _ h9 => h9) (ft := vR 52) rfl dX10_keep_5 (fun u_1 hv_u_1 m_u_1 => ?_)
    obtain ⟨vu_1, rfl, h_vu_1⟩ := hv_u_1
    refine lv_iload_n hx hb dX10_keep_8 rfl (lv_at hl 1 rfl) ?_
    refine lv_aload_n hx hb dX10_keep_9 rfl (lv_at hl 0 rfl) ?_
    refine tg_mem (ci := 10) (C := RX10) (T := TX10) (N := 49) hx hb hts inX10 hown hK hw 13 m_f0_13 rfl (by decide) (hts _ tw_1150) (fun _ h9 => h9) dX10_keep_10 ?_
    have q_f0_13 : s0.1 13 = f0_13 := OV.eqI (V := vw_M5) hw.2.2.1 o_p0 m_f0_13 (by decide)
    have mo9 := m_u_1
    refine tg_iast hx hb hK hw h_vu_1 rfl 2 119 r_p1 (by decide) r_f0_13 (by exact fun _ _ _ => by decide) (fun _ _ _ _ _ => trivial) (by decide) dX10_keep_13 (fun ws H locs hw hF9 hU9 => ?_)
    have x_GFLB_p0 : AX 40 52 F2 Ps ws p0 := AX.ast hF9 hU9 x_F m_u_1 (fun f9 h9 => hF f9 _ r_f0_13 h9)
    have m_f0_13 := FLD.over hF9 m_f0_13 (by decide)
    have m_u_1 := FLD.over hF9 m_u_1 (by decide)
    obtain ⟨sg_2, q_sg_2⟩ : ∃ q9 : OS, sA s0 40 (Int32.toNatClampNeg p1) f0_13 = q9 := ⟨_, rfl⟩
    have o_p0 : OV vw_M5 Ps ws p0 sg_2 := by rw [← q_sg_2]; exact OV.putA (V := vw_M5) (t := 52) hF9 hU9 o_p0 mo9 (by decide) (by decide)
    refine lv_iload_n hx hb dX10_keep_14 rfl (lv_at hl 2 rfl) ?_
    simp only [f_X10_keep__7, ↓reduceIte, eq_false c_1, q_f0_13, q_sg_2] at hE
    subst hQ
    exact W.zret (v := p2) hx hb hr (tq_nz (r_p2.to (by decide))) (fun t ht hW => ⟨⟨p2, ws, rfl, ⟨⟨⟨(by rw [hR, ← hE]; exact o_p0), (by rw [hR, ← hE]), trivial⟩, r_p2.to (by decide), (fun h0 => absurd (ti_eq h0) (by have h8 := r_p2; unfold RI at h8; rw [Int32.toInt_zero]; omega)), (fun h0 => ⟨⟨_, m_f0_13, r_f0_13⟩, x_GFLB_p0, trivial⟩)⟩, hw.1, hw.2.2.2.2.1⟩, by rw [ht]; exact hw.2.1, va_K.moved hW.alike hK, hw.2.2.1⟩, hw.2.2.2.1.F ht⟩) hw.2.2.2.1.2.2 dX10_keep_15
